section
def fw_cX10_in : List (List Nat) := [[30, 32, 148, 155, 0, 14, 30, 22, 4, 148, 157, 0, 7, 4, 167, 0, 4, 3], [4, 3, 172]]
theorem fW_cX10_in : fq_wins 2 cX10_in.data.toList = fw_cX10_in := by decide +kernel
theorem fk_cX10_in_0 : fq_ck cX10_in 0 [30, 32, 148, 155, 0, 14, 30, 22, 4, 148, 157, 0, 7, 4, 167, 0, 4, 3] := fq_of fW_cX10_in 0 rfl rfl
theorem dX10_in_0 : decode cX10_in 0 = .ok (.lload_n 0, 1) := fq_30 fk_cX10_in_0 0 rfl rfl
theorem dX10_in_1 : decode cX10_in 1 = .ok (.lload_n 2, 1) := fq_32 fk_cX10_in_0 1 rfl rfl
theorem dX10_in_2 : decode cX10_in 2 = .ok (.lcmp, 1) := fq_148 fk_cX10_in_0 2 rfl rfl
theorem dX10_in_3 : decode cX10_in 3 = .ok (.ifCond .lt 14, 3) := fq_155 fk_cX10_in_0 3 rfl rfl rfl rfl rfl
theorem fk_cX10_in_1 : fq_ck cX10_in 16 [4, 3, 172] := fq_of fW_cX10_in 1 rfl rfl
theorem dX10_in_17 : decode cX10_in 17 = .ok (.iconst 0, 1) := fq_3 fk_cX10_in_1 1 rfl rfl
theorem dX10_in_18 : decode cX10_in 18 = .ok (.ireturn, 1) := fq_172 fk_cX10_in_1 2 rfl rfl
theorem dX10_in_6 : decode cX10_in 6 = .ok (.lload_n 0, 1) := fq_30 fk_cX10_in_0 6 rfl rfl
theorem dX10_in_7 : decode cX10_in 7 = .ok (.lload 4, 2) := fq_22 fk_cX10_in_0 7 rfl rfl rfl
theorem dX10_in_9 : decode cX10_in 9 = .ok (.lcmp, 1) := fq_148 fk_cX10_in_0 9 rfl rfl
theorem dX10_in_10 : decode cX10_in 10 = .ok (.ifCond .gt 7, 3) := fq_157 fk_cX10_in_0 10 rfl rfl rfl rfl rfl
theorem dX10_in_13 : decode cX10_in 13 = .ok (.iconst 1, 1) := fq_4 fk_cX10_in_0 13 rfl rfl
theorem dX10_in_14 : decode cX10_in 14 = .ok (.goto 4, 3) := fq_167 fk_cX10_in_0 14 rfl rfl rfl rfl rfl
def fw_cX10_has : List (List Nat) := [[26, 27, 122, 4, 126, 4, 160, 0, 7, 4, 167, 0, 4, 3, 172]]
theorem fW_cX10_has : fq_wins 1 cX10_has.data.toList = fw_cX10_has := by decide +kernel
theorem fk_cX10_has_0 : fq_ck cX10_has 0 [26, 27, 122, 4, 126, 4, 160, 0, 7, 4, 167, 0, 4, 3, 172] := fq_of fW_cX10_has 0 rfl rfl
theorem dX10_has_0 : decode cX10_has 0 = .ok (.iload_n 0, 1) := fq_26 fk_cX10_has_0 0 rfl rfl
theorem dX10_has_1 : decode cX10_has 1 = .ok (.iload_n 1, 1) := fq_27 fk_cX10_has_0 1 rfl rfl
theorem dX10_has_2 : decode cX10_has 2 = .ok (.ishr, 1) := fq_122 fk_cX10_has_0 2 rfl rfl
theorem dX10_has_3 : decode cX10_has 3 = .ok (.iconst 1, 1) := fq_4 fk_cX10_has_0 3 rfl rfl
theorem dX10_has_4 : decode cX10_has 4 = .ok (.iand, 1) := fq_126 fk_cX10_has_0 4 rfl rfl
theorem dX10_has_5 : decode cX10_has 5 = .ok (.iconst 1, 1) := fq_4 fk_cX10_has_0 5 rfl rfl
theorem dX10_has_6 : decode cX10_has 6 = .ok (.if_icmp .ne 7, 3) := fq_160 fk_cX10_has_0 6 rfl rfl rfl rfl rfl
theorem dX10_has_13 : decode cX10_has 13 = .ok (.iconst 0, 1) := fq_3 fk_cX10_has_0 13 rfl rfl
theorem dX10_has_14 : decode cX10_has 14 = .ok (.ireturn, 1) := fq_172 fk_cX10_has_0 14 rfl rfl
theorem dX10_has_9 : decode cX10_has 9 = .ok (.iconst 1, 1) := fq_4 fk_cX10_has_0 9 rfl rfl
theorem dX10_has_10 : decode cX10_has 10 = .ok (.goto 4, 3) := fq_167 fk_cX10_has_0 10 rfl rfl rfl rfl rfl
def fw_cX10_ones : List (List Nat) := [[3, 60, 3, 61, 28, 16, 6, 162, 0, 17, 27, 26, 28, 122, 4, 126, 96, 60], [96, 60, 132, 2, 1, 167, 255, 239, 27, 172]]
theorem fW_cX10_ones : fq_wins 2 cX10_ones.data.toList = fw_cX10_ones := by decide +kernel
theorem fk_cX10_ones_0 : fq_ck cX10_ones 0 [3, 60, 3, 61, 28, 16, 6, 162, 0, 17, 27, 26, 28, 122, 4, 126, 96, 60] := fq_of fW_cX10_ones 0 rfl rfl
theorem dX10_ones_0 : decode cX10_ones 0 = .ok (.iconst 0, 1) := fq_3 fk_cX10_ones_0 0 rfl rfl
theorem dX10_ones_1 : decode cX10_ones 1 = .ok (.istore_n 1, 1) := fq_60 fk_cX10_ones_0 1 rfl rfl
theorem dX10_ones_2 : decode cX10_ones 2 = .ok (.iconst 0, 1) := fq_3 fk_cX10_ones_0 2 rfl rfl
theorem dX10_ones_3 : decode cX10_ones 3 = .ok (.istore_n 2, 1) := fq_61 fk_cX10_ones_0 3 rfl rfl
theorem fk_cX10_ones_1 : fq_ck cX10_ones 16 [96, 60, 132, 2, 1, 167, 255, 239, 27, 172] := fq_of fW_cX10_ones 1 rfl rfl
theorem dX10_ones_24 : decode cX10_ones 24 = .ok (.iload_n 1, 1) := fq_27 fk_cX10_ones_1 8 rfl rfl
theorem dX10_ones_25 : decode cX10_ones 25 = .ok (.ireturn, 1) := fq_172 fk_cX10_ones_1 9 rfl rfl
theorem dX10_ones_4 : decode cX10_ones 4 = .ok (.iload_n 2, 1) := fq_28 fk_cX10_ones_0 4 rfl rfl
theorem dX10_ones_5 : decode cX10_ones 5 = .ok (.bipush 6, 2) := fq_16 fk_cX10_ones_0 5 rfl rfl rfl rfl
theorem dX10_ones_7 : decode cX10_ones 7 = .ok (.if_icmp .ge 17, 3) := fq_162 fk_cX10_ones_0 7 rfl rfl rfl rfl rfl
theorem dX10_ones_10 : decode cX10_ones 10 = .ok (.iload_n 1, 1) := fq_27 fk_cX10_ones_0 10 rfl rfl
theorem dX10_ones_11 : decode cX10_ones 11 = .ok (.iload_n 0, 1) := fq_26 fk_cX10_ones_0 11 rfl rfl
theorem dX10_ones_12 : decode cX10_ones 12 = .ok (.iload_n 2, 1) := fq_28 fk_cX10_ones_0 12 rfl rfl
theorem dX10_ones_13 : decode cX10_ones 13 = .ok (.ishr, 1) := fq_122 fk_cX10_ones_0 13 rfl rfl
theorem dX10_ones_14 : decode cX10_ones 14 = .ok (.iconst 1, 1) := fq_4 fk_cX10_ones_0 14 rfl rfl
theorem dX10_ones_15 : decode cX10_ones 15 = .ok (.iand, 1) := fq_126 fk_cX10_ones_0 15 rfl rfl
theorem dX10_ones_16 : decode cX10_ones 16 = .ok (.iadd, 1) := fq_96 fk_cX10_ones_1 0 rfl rfl
theorem dX10_ones_17 : decode cX10_ones 17 = .ok (.istore_n 1, 1) := fq_60 fk_cX10_ones_1 1 rfl rfl
theorem dX10_ones_18 : decode cX10_ones 18 = .ok (.iinc 2 1, 3) := fq_132 fk_cX10_ones_1 2 rfl rfl rfl rfl rfl
theorem dX10_ones_21 : decode cX10_ones 21 = .ok (.goto (-17), 3) := fq_167 fk_cX10_ones_1 5 rfl rfl rfl rfl rfl
def fw_cX10_copy : List (List Nat) := [[3, 62, 29, 16, 42, 162, 0, 25, 42, 180, 0, 7, 28, 29, 96, 42, 180, 0], [180, 0, 7, 27, 29, 96, 46, 79, 132, 3, 1, 167, 255, 231, 177]]
theorem fW_cX10_copy : fq_wins 2 cX10_copy.data.toList = fw_cX10_copy := by decide +kernel
theorem fk_cX10_copy_0 : fq_ck cX10_copy 0 [3, 62, 29, 16, 42, 162, 0, 25, 42, 180, 0, 7, 28, 29, 96, 42, 180, 0] := fq_of fW_cX10_copy 0 rfl rfl
theorem dX10_copy_0 : decode cX10_copy 0 = .ok (.iconst 0, 1) := fq_3 fk_cX10_copy_0 0 rfl rfl
theorem dX10_copy_1 : decode cX10_copy 1 = .ok (.istore_n 3, 1) := fq_62 fk_cX10_copy_0 1 rfl rfl
theorem fk_cX10_copy_1 : fq_ck cX10_copy 16 [180, 0, 7, 27, 29, 96, 46, 79, 132, 3, 1, 167, 255, 231, 177] := fq_of fW_cX10_copy 1 rfl rfl
theorem dX10_copy_30 : decode cX10_copy 30 = .ok (.return_, 1) := fq_177 fk_cX10_copy_1 14 rfl rfl
theorem dX10_copy_2 : decode cX10_copy 2 = .ok (.iload_n 3, 1) := fq_29 fk_cX10_copy_0 2 rfl rfl
theorem dX10_copy_3 : decode cX10_copy 3 = .ok (.bipush 42, 2) := fq_16 fk_cX10_copy_0 3 rfl rfl rfl rfl
theorem dX10_copy_5 : decode cX10_copy 5 = .ok (.if_icmp .ge 25, 3) := fq_162 fk_cX10_copy_0 5 rfl rfl rfl rfl rfl
theorem dX10_copy_8 : decode cX10_copy 8 = .ok (.aload_n 0, 1) := fq_42 fk_cX10_copy_0 8 rfl rfl
theorem iX10_t : ∀ w ∈ wsX100, w ∈ lw_tbl ∧ goodWord w = true := by decide +kernel
theorem iX10 : ∀ w ∈ wsX100, w ∈ BG := fun w h => BG_in (iX10_t w h).1 (iX10_t w h).2
theorem wd_491 : Cond.fieldLink RX10 7 "QuarrelBridgesModel" "w" "[I" ∈ BG := BG_at4 63 (by decide +kernel) rfl
theorem dX10_copy_9 : decode cX10_copy 9 = .ok (.getfield 7, 3) := fq_180 fk_cX10_copy_0 9 rfl rfl rfl rfl rfl
theorem dX10_copy_12 : decode cX10_copy 12 = .ok (.iload_n 2, 1) := fq_28 fk_cX10_copy_0 12 rfl rfl
theorem dX10_copy_13 : decode cX10_copy 13 = .ok (.iload_n 3, 1) := fq_29 fk_cX10_copy_0 13 rfl rfl
theorem dX10_copy_14 : decode cX10_copy 14 = .ok (.iadd, 1) := fq_96 fk_cX10_copy_0 14 rfl rfl
theorem dX10_copy_15 : decode cX10_copy 15 = .ok (.aload_n 0, 1) := fq_42 fk_cX10_copy_0 15 rfl rfl
theorem dX10_copy_16 : decode cX10_copy 16 = .ok (.getfield 7, 3) := fq_180 fk_cX10_copy_1 0 rfl rfl rfl rfl rfl
theorem dX10_copy_19 : decode cX10_copy 19 = .ok (.iload_n 1, 1) := fq_27 fk_cX10_copy_1 3 rfl rfl
theorem dX10_copy_20 : decode cX10_copy 20 = .ok (.iload_n 3, 1) := fq_29 fk_cX10_copy_1 4 rfl rfl
theorem dX10_copy_21 : decode cX10_copy 21 = .ok (.iadd, 1) := fq_96 fk_cX10_copy_1 5 rfl rfl
theorem dX10_copy_22 : decode cX10_copy 22 = .ok (.iaload, 1) := fq_46 fk_cX10_copy_1 6 rfl rfl
theorem dX10_copy_23 : decode cX10_copy 23 = .ok (.iastore, 1) := fq_79 fk_cX10_copy_1 7 rfl rfl
theorem dX10_copy_24 : decode cX10_copy 24 = .ok (.iinc 3 1, 3) := fq_132 fk_cX10_copy_1 8 rfl rfl rfl rfl rfl
theorem dX10_copy_27 : decode cX10_copy 27 = .ok (.goto (-25), 3) := fq_167 fk_cX10_copy_1 11 rfl rfl rfl rfl rfl
def fw_cX10_letterAt : List (List Nat) := [[27, 42, 180, 0, 94, 162, 0, 12, 42, 180, 0, 36, 27, 46, 167, 0, 4, 2], [4, 2, 172]]
theorem fW_cX10_letterAt : fq_wins 2 cX10_letterAt.data.toList = fw_cX10_letterAt := by decide +kernel
theorem fk_cX10_letterAt_0 : fq_ck cX10_letterAt 0 [27, 42, 180, 0, 94, 162, 0, 12, 42, 180, 0, 36, 27, 46, 167, 0, 4, 2] := fq_of fW_cX10_letterAt 0 rfl rfl
theorem dX10_letterAt_0 : decode cX10_letterAt 0 = .ok (.iload_n 1, 1) := fq_27 fk_cX10_letterAt_0 0 rfl rfl
theorem dX10_letterAt_1 : decode cX10_letterAt 1 = .ok (.aload_n 0, 1) := fq_42 fk_cX10_letterAt_0 1 rfl rfl
theorem wd_492 : Cond.fieldLink RX10 94 "QuarrelBridgesModel" "texted" "I" ∈ BG := BG_at4 77 (by decide +kernel) rfl
theorem dX10_letterAt_2 : decode cX10_letterAt 2 = .ok (.getfield 94, 3) := fq_180 fk_cX10_letterAt_0 2 rfl rfl rfl rfl rfl
theorem dX10_letterAt_5 : decode cX10_letterAt 5 = .ok (.if_icmp .ge 12, 3) := fq_162 fk_cX10_letterAt_0 5 rfl rfl rfl rfl rfl
theorem fk_cX10_letterAt_1 : fq_ck cX10_letterAt 16 [4, 2, 172] := fq_of fW_cX10_letterAt 1 rfl rfl
theorem dX10_letterAt_17 : decode cX10_letterAt 17 = .ok (.iconst (-1), 1) := fq_2 fk_cX10_letterAt_1 1 rfl rfl
theorem dX10_letterAt_18 : decode cX10_letterAt 18 = .ok (.ireturn, 1) := fq_172 fk_cX10_letterAt_1 2 rfl rfl
theorem dX10_letterAt_8 : decode cX10_letterAt 8 = .ok (.aload_n 0, 1) := fq_42 fk_cX10_letterAt_0 8 rfl rfl
theorem wd_493 : Cond.fieldLink RX10 36 "QuarrelBridgesModel" "text" "[I" ∈ BG := BG_at4 76 (by decide +kernel) rfl
theorem dX10_letterAt_9 : decode cX10_letterAt 9 = .ok (.getfield 36, 3) := fq_180 fk_cX10_letterAt_0 9 rfl rfl rfl rfl rfl
theorem dX10_letterAt_12 : decode cX10_letterAt 12 = .ok (.iload_n 1, 1) := fq_27 fk_cX10_letterAt_0 12 rfl rfl
theorem dX10_letterAt_13 : decode cX10_letterAt 13 = .ok (.iaload, 1) := fq_46 fk_cX10_letterAt_0 13 rfl rfl
theorem dX10_letterAt_14 : decode cX10_letterAt 14 = .ok (.goto 4, 3) := fq_167 fk_cX10_letterAt_0 14 rfl rfl rfl rfl rfl
def ML (G : Nat → Int32) (Rf : Nat → Nat) : List Value := [.ref (Rf 0), .ref (Rf 1), .int (G 2), .int (G 3), .int (G 4), .int (G 5), .int (G 6), .int (G 7), .ref (Rf 8), .ref (Rf 9), .ref (Rf 10), .ref (Rf 11), .ref (Rf 12), .ref (Rf 13), .int (G 14), .int (G 15), .int (G 16), .int (G 17), .int (G 18), .int (G 19), .int (G 20), .int (G 21), .int (G 22), .int (G 23), .int (G 24), .int (G 25), .int (G 26), .ref (Rf 27), .ref (Rf 28), .ref (Rf 29), .ref (Rf 30), .ref (Rf 31), .int (G 32), .int (G 33), .int (G 34), .int (G 35), .ref (Rf 36), .ref (Rf 37), .ref (Rf 38), .ref (Rf 39), .int (G 40), .int (G 41), .int (G 42), .ref (Rf 43), .ref (Rf 44)]
noncomputable def f_m_in (x : Int64) (y : Int64) (z : Int64) : Int32 := (if (lg_cmp x y) < 0 then 0 else (if 0 < (lg_cmp x z) then 0 else 1))
def S_m_in (x : Int64) (y : Int64) (z : Int64) : Prop := (((lg_cmp x y) < 0 → True) ∧ (¬ (lg_cmp x y) < 0 → ((0 < (lg_cmp x z) → True) ∧ (¬ 0 < (lg_cmp x z) → True))))
def rm_m_in : Room := { frames := 0, cells := 0, slots := 0, locals := 0 }
set_option maxHeartbeats 4000000 in
set_option maxRecDepth 100000 in
theorem m_in {l : Launch} {D : va_G} {cI cZ : ClassId} {sz : Nat} (x : Int64) (y : Int64) (z : Int64) (hF : S_m_in x y z) : KI l yX10_in cX10_in 6 (some .boolean) rm_m_in D cI cZ [.long x, .long y, .long z] sz [] (fun (r : Int32) (_ : Unit) => r = f_m_in x y z) (fun (_ : Unit) => []) := by
  refine KI.go rfl (Nat.le_of_ble_eq_true rfl) ?_
  intro p e s m args below meth c ls A Q hx hb hml hts hown hin hP hK hD hS hA hN hl hret
  have hl : lv_has ls 6 [(0, .long x), (2, .long y), (4, .long z)] := hl
  rw [S_m_in] at hF
  obtain ⟨RES, hE⟩ : ∃ xRES, f_m_in x y z = xRES := ⟨_, rfl⟩
  rw [hE] at hret
  rw [f_m_in] at hE
  refine lv_lload_n hx hb dX10_in_0 rfl (lv_at hl 0 rfl) ?_
  refine lv_lload_n hx hb dX10_in_1 rfl (lv_at hl 1 rfl) ?_
  refine W.lcmp hx hb dX10_in_2 ?_
  refine lv_if_lt (tgt := 17) hx hb dX10_in_3 rfl (fun c_1 => ?_) (fun c_1 => ?_)
  · replace hF := hF.1 c_1
    rw [if_pos c_1] at hE
    refine lv_iconst (v := 0) hx hb dX10_in_17 rfl ?_
    exact hret 0 () _ _ _ _ dX10_in_18 rfl hE hP hD hS
  · replace hF := hF.2 c_1
    rw [if_neg c_1] at hE
    refine lv_lload_n hx hb dX10_in_6 rfl (lv_at hl 0 rfl) ?_
    refine lv_lload hx hb dX10_in_7 (lv_at hl 2 rfl) ?_
    refine W.lcmp hx hb dX10_in_9 ?_
    refine lv_if_gt (tgt := 17) hx hb dX10_in_10 rfl (fun c_2 => ?_) (fun c_2 => ?_)
    · replace hF := hF.1 c_2
      rw [if_pos c_2] at hE
      refine lv_iconst (v := 0) hx hb dX10_in_17 rfl ?_
      exact hret 0 () _ _ _ _ dX10_in_18 rfl hE hP hD hS
    · replace hF := hF.2 c_2
      rw [if_neg c_2] at hE
      refine lv_iconst (v := 1) hx hb dX10_in_13 rfl ?_
      refine lv_goto (tgt := 18) hx hb dX10_in_14 rfl ?_
      exact hret 1 () _ _ _ _ dX10_in_18 rfl hE hP hD hS
noncomputable def f_m_has (s_ : Int32) (k_ : Int32) : Int32 := (if ((s_ >>> (k_ &&& 31)) &&& 1) = 1 then 1 else 0)
def S_m_has (s_ : Int32) (k_ : Int32) : Prop := ((((s_ >>> (k_ &&& 31)) &&& 1) = 1 → True) ∧ (¬ ((s_ >>> (k_ &&& 31)) &&& 1) = 1 → True))
def rm_m_has : Room := { frames := 0, cells := 0, slots := 0, locals := 0 }
set_option maxHeartbeats 4000000 in
set_option maxRecDepth 100000 in
theorem m_has {l : Launch} {D : va_G} {cI cZ : ClassId} {sz : Nat} (s_ : Int32) (k_ : Int32) (hF : S_m_has s_ k_) : KI l yX10_has cX10_has 2 (some .boolean) rm_m_has D cI cZ [.int s_, .int k_] sz [] (fun (r : Int32) (_ : Unit) => r = f_m_has s_ k_) (fun (_ : Unit) => []) := by
  refine KI.go rfl (Nat.le_of_ble_eq_true rfl) ?_
  intro p e s m args below meth c ls A Q hx hb hml hts hown hin hP hK hD hS hA hN hl hret
  have hl : lv_has ls 2 [(0, .int s_), (1, .int k_)] := hl
  rw [S_m_has] at hF
  obtain ⟨RES, hE⟩ : ∃ xRES, f_m_has s_ k_ = xRES := ⟨_, rfl⟩
  rw [hE] at hret
  rw [f_m_has] at hE
  refine lv_iload_n hx hb dX10_has_0 rfl (lv_at hl 0 rfl) ?_
  refine lv_iload_n hx hb dX10_has_1 rfl (lv_at hl 1 rfl) ?_
  refine lv_ishr hx hb dX10_has_2 ?_
  refine lv_iconst (v := 1) hx hb dX10_has_3 rfl ?_
  refine lv_iand hx hb dX10_has_4 ?_
  refine lv_iconst (v := 1) hx hb dX10_has_5 rfl ?_
  refine lv_icmp_ne (tgt := 13) hx hb dX10_has_6 rfl (fun c_1 => ?_) (fun c_1 => ?_)
  · replace hF := hF.2 c_1
    rw [if_neg c_1] at hE
    refine lv_iconst (v := 0) hx hb dX10_has_13 rfl ?_
    exact hret 0 () _ _ _ _ dX10_has_14 rfl hE hP hD hS
  · replace hF := hF.1 c_1
    rw [if_pos c_1] at hE
    refine lv_iconst (v := 1) hx hb dX10_has_9 rfl ?_
    refine lv_goto (tgt := 14) hx hb dX10_has_10 rfl ?_
    exact hret 1 () _ _ _ _ dX10_has_14 rfl hE hP hD hS
noncomputable def f_m_ones_4 (s_ : Int32) (n : Nat) : Int32 → Int32 → Int32 × Int32 := Nat.rec (motive := fun _ => Int32 → Int32 → Int32 × Int32) (fun w_1l2 w_1l1 => (w_1l2, w_1l1)) (fun n ih w_1l2 w_1l1 => (if 6 ≤ w_1l2 then (w_1l2, w_1l1) else (ih (w_1l2 + 1) (w_1l1 + ((s_ >>> (w_1l2 &&& 31)) &&& 1))))) n
theorem f_m_ones_4_s (s_ : Int32) (n : Nat) (w_1l2 : Int32) (w_1l1 : Int32) : f_m_ones_4 s_ (n + 1) w_1l2 w_1l1 = (if 6 ≤ w_1l2 then (w_1l2, w_1l1) else (f_m_ones_4 s_ n (w_1l2 + 1) (w_1l1 + ((s_ >>> (w_1l2 &&& 31)) &&& 1)))) := rfl
def S_m_ones_4 (s_ : Int32) (K : Int32 → Int32 → Prop) (n : Nat) : Int32 → Int32 → Prop := Nat.rec (motive := fun _ => Int32 → Int32 → Prop) (fun _ _ => True) (fun n ih w_1l2 w_1l1 => ((6 ≤ w_1l2 → (K w_1l2 w_1l1)) ∧ (¬ 6 ≤ w_1l2 → (ih (w_1l2 + 1) (w_1l1 + ((s_ >>> (w_1l2 &&& 31)) &&& 1)))))) n
theorem S_m_ones_4_s (s_ : Int32) (K : Int32 → Int32 → Prop) (n : Nat) (w_1l2 : Int32) (w_1l1 : Int32) : S_m_ones_4 s_ K (n + 1) w_1l2 w_1l1 = (((6 ≤ w_1l2 → (K w_1l2 w_1l1)) ∧ (¬ 6 ≤ w_1l2 → (S_m_ones_4 s_ K n (w_1l2 + 1) (w_1l1 + ((s_ >>> (w_1l2 &&& 31)) &&& 1)))))) := rfl
noncomputable def f_m_ones (s_ : Int32) : Int32 := (match ((f_m_ones_4 s_ (((6 : Int32).toInt - (0 : Int32).toInt).toNat + 1) 0 0) : Int32 × Int32) with | (w_1l2, w_1l1) => w_1l1)
def S_m_ones (s_ : Int32) : Prop := (S_m_ones_4 s_ (fun (w_1l2 : Int32) (w_1l1 : Int32) => True) (((6 : Int32).toInt - (0 : Int32).toInt).toNat + 1) 0 0)
def rm_m_ones : Room := { frames := 0, cells := 0, slots := 0, locals := 0 }
set_option maxHeartbeats 4000000 in
set_option maxRecDepth 100000 in
theorem m_ones {l : Launch} {D : va_G} {cI cZ : ClassId} {sz : Nat} (s_ : Int32) (hF : S_m_ones s_) : KI l yX10_ones cX10_ones 3 (some .int) rm_m_ones D cI cZ [.int s_] sz [] (fun (r : Int32) (_ : Unit) => r = f_m_ones s_) (fun (_ : Unit) => []) := by
  refine KI.go rfl (Nat.le_of_ble_eq_true rfl) ?_
  intro p e s m args below meth c ls A Q hx hb hml hts hown hin hP hK hD hS hA hN hl hret
  have hl : lv_has ls 3 [(0, .int s_)] := hl
  rw [S_m_ones] at hF
  obtain ⟨RES, hE⟩ : ∃ xRES, f_m_ones s_ = xRES := ⟨_, rfl⟩
  rw [hE] at hret
  rw [f_m_ones] at hE
  refine lv_iconst (v := 0) hx hb dX10_ones_0 rfl ?_
  refine lv_istore_n (lv' := [(1, .int 0), (0, .int s_)]) hx hb dX10_ones_1 rfl hl (Nat.le_of_ble_eq_true rfl) rfl (fun ls hl => ?_)
  refine lv_iconst (v := 0) hx hb dX10_ones_2 rfl ?_
  refine lv_istore_n (lv' := [(2, .int 0), (1, .int 0), (0, .int s_)]) hx hb dX10_ones_3 rfl hl (Nat.le_of_ble_eq_true rfl) rfl (fun ls hl => ?_)
  have ex_4_w_1 : ∀ (w_1l2 : Int32) (w_1l1 : Int32) (H : Heap) (locs : List Loc) (ls : Array Slot), va_P D classes [] H → va_D A [] → va_S A s.heap H locs → lv_has ls 3 [(2, .int w_1l2), (1, .int w_1l1), (0, .int s_)] → (True) → ((w_1l1) : Int32) = RES → W p l e rm_m_ones s m args below meth c H locs 0 0 Q (F0 m 24 ls []) := by
    intro w_1l2 w_1l1 H locs ls hP hD hS hl hF hE
    refine lv_iload_n hx hb dX10_ones_24 rfl (lv_at hl 1 rfl) ?_
    exact hret w_1l1 () _ _ _ _ dX10_ones_25 rfl hE hP hD hS
  have lp_4_w_1 : ∀ (n_w_1 : Nat) (w_1l2 : Int32) (w_1l1 : Int32) (H : Heap) (locs : List Loc) (ls : Array Slot), va_P D classes [] H → va_D A [] → va_S A s.heap H locs → lv_has ls 3 [(2, .int w_1l2), (1, .int w_1l1), (0, .int s_)] → (S_m_ones_4 s_ (fun (w_1l2 : Int32) (w_1l1 : Int32) => True) n_w_1 w_1l2 w_1l1) → ((6 : Int32).toInt - (w_1l2 : Int32).toInt).toNat < n_w_1 → ((match ((f_m_ones_4 s_ n_w_1 w_1l2 w_1l1) : Int32 × Int32) with | (w_1l2, w_1l1) => w_1l1) : Int32) = RES → W p l e rm_m_ones s m args below meth c H locs 0 0 Q (F0 m 4 ls []) := by
    intro n_w_1
    induction n_w_1 with
    | zero => intro w_1l2 w_1l1 H locs ls hP hD hS hl hF hm; exact absurd hm (Nat.not_lt_zero _)
    | succ n_w_1 ih_w_1 =>
      intro w_1l2 w_1l1 H locs ls hP hD hS hl hF hm hE
      rw [S_m_ones_4_s] at hF
      rw [f_m_ones_4_s] at hE
      refine lv_iload_n hx hb dX10_ones_4 rfl (lv_at hl 0 rfl) ?_
      refine lv_bipush (v := 6) hx hb dX10_ones_5 rfl ?_
      refine lv_icmp_ge (tgt := 24) hx hb dX10_ones_7 rfl (fun c_2 => ?_) (fun c_2 => ?_)
      · replace hF := hF.1 c_2
        rw [if_pos c_2] at hE
        exact ex_4_w_1 w_1l2 w_1l1 _ _ ls hP hD hS (lv_sub hl [0, 1, 2] rfl) hF hE
      · replace hF := hF.2 c_2
        rw [if_neg c_2] at hE
        refine lv_iload_n hx hb dX10_ones_10 rfl (lv_at hl 1 rfl) ?_
        refine lv_iload_n hx hb dX10_ones_11 rfl (lv_at hl 2 rfl) ?_
        refine lv_iload_n hx hb dX10_ones_12 rfl (lv_at hl 0 rfl) ?_
        refine lv_ishr hx hb dX10_ones_13 ?_
        refine lv_iconst (v := 1) hx hb dX10_ones_14 rfl ?_
        refine lv_iand hx hb dX10_ones_15 ?_
        refine lv_iadd hx hb dX10_ones_16 ?_
        refine lv_istore_n (lv' := [(1, .int (w_1l1 + ((s_ >>> (w_1l2 &&& 31)) &&& 1))), (2, .int w_1l2), (0, .int s_)]) hx hb dX10_ones_17 rfl hl (Nat.le_of_ble_eq_true rfl) rfl (fun ls hl => ?_)
        refine lv_iinc (v := (w_1l2 + 1)) (lv' := [(2, .int (w_1l2 + 1)), (1, .int (w_1l1 + ((s_ >>> (w_1l2 &&& 31)) &&& 1))), (0, .int s_)]) hx hb dX10_ones_18 hl (k := 1) rfl rfl (Nat.le_of_ble_eq_true rfl) rfl (fun ls hl => ?_)
        refine lv_goto (tgt := 4) hx hb dX10_ones_21 rfl ?_
        exact ih_w_1 (w_1l2 + 1) (w_1l1 + ((s_ >>> (w_1l2 &&& 31)) &&& 1)) _ _ ls hP hD hS (lv_sub hl [0, 1, 2] rfl) hF (up_step c_2 hm) hE
  exact lp_4_w_1 (((6 : Int32).toInt - (0 : Int32).toInt).toNat + 1) 0 0 _ _ ls hP hD hS hl hF (Nat.lt_succ_self _) hE
noncomputable def f_m_copy_2 (from_ : Int32) (to_ : Int32) (n : Nat) : Int32 → (Nat → Int32) → Int32 × (Nat → Int32) := Nat.rec (motive := fun _ => Int32 → (Nat → Int32) → Int32 × (Nat → Int32)) (fun w_1l3 w_1m0 => (w_1l3, w_1m0)) (fun n ih w_1l3 w_1m0 => (if 42 ≤ w_1l3 then (w_1l3, w_1m0) else (ih (w_1l3 + 1) (upd w_1m0 ((to_ + w_1l3) : Int32).toNatClampNeg (w_1m0 ((from_ + w_1l3) : Int32).toNatClampNeg))))) n
theorem f_m_copy_2_s (from_ : Int32) (to_ : Int32) (n : Nat) (w_1l3 : Int32) (w_1m0 : (Nat → Int32)) : f_m_copy_2 from_ to_ (n + 1) w_1l3 w_1m0 = (if 42 ≤ w_1l3 then (w_1l3, w_1m0) else (f_m_copy_2 from_ to_ n (w_1l3 + 1) (upd w_1m0 ((to_ + w_1l3) : Int32).toNatClampNeg (w_1m0 ((from_ + w_1l3) : Int32).toNatClampNeg)))) := rfl
def S_m_copy_2 (from_ : Int32) (to_ : Int32) (K : Int32 → (Nat → Int32) → Prop) (n : Nat) : Int32 → (Nat → Int32) → Prop := Nat.rec (motive := fun _ => Int32 → (Nat → Int32) → Prop) (fun _ _ => True) (fun n ih w_1l3 w_1m0 => ((42 ≤ w_1l3 → (K w_1l3 w_1m0)) ∧ (¬ 42 ≤ w_1l3 → (vp_in (from_ + w_1l3) 1302 ∧ (vp_in (to_ + w_1l3) 1302 ∧ (ih (w_1l3 + 1) (upd w_1m0 ((to_ + w_1l3) : Int32).toNatClampNeg (w_1m0 ((from_ + w_1l3) : Int32).toNatClampNeg)))))))) n
theorem S_m_copy_2_s (from_ : Int32) (to_ : Int32) (K : Int32 → (Nat → Int32) → Prop) (n : Nat) (w_1l3 : Int32) (w_1m0 : (Nat → Int32)) : S_m_copy_2 from_ to_ K (n + 1) w_1l3 w_1m0 = (((42 ≤ w_1l3 → (K w_1l3 w_1m0)) ∧ (¬ 42 ≤ w_1l3 → (vp_in (from_ + w_1l3) 1302 ∧ (vp_in (to_ + w_1l3) 1302 ∧ (S_m_copy_2 from_ to_ K n (w_1l3 + 1) (upd w_1m0 ((to_ + w_1l3) : Int32).toNatClampNeg (w_1m0 ((from_ + w_1l3) : Int32).toNatClampNeg)))))))) := rfl
noncomputable def f_m_copy (f0 : Nat → Int32) (from_ : Int32) (to_ : Int32) : (Nat → Int32) := (match ((f_m_copy_2 from_ to_ (((42 : Int32).toInt - (0 : Int32).toInt).toNat + 1) 0 f0) : Int32 × (Nat → Int32)) with | (w_1l3, w_1m0) => w_1m0)
def S_m_copy (f0 : Nat → Int32) (from_ : Int32) (to_ : Int32) : Prop := (S_m_copy_2 from_ to_ (fun (w_1l3 : Int32) (w_1m0 : (Nat → Int32)) => True) (((42 : Int32).toInt - (0 : Int32).toInt).toNat + 1) 0 f0)
def rm_m_copy : Room := { frames := 0, cells := 0, slots := 0, locals := 0 }
set_option maxHeartbeats 4000000 in
set_option maxRecDepth 100000 in
theorem m_copy {l : Launch} {D : va_G} {cI cZ : ClassId} {sz : Nat} (Rf : Nat → Nat) (h : Nat) (G : Nat → Int32) (f0 : Nat → Int32) (from_ : Int32) (to_ : Int32) (hF : S_m_copy f0 from_ to_) : KV l yX10_copy cX10_copy 4 rm_m_copy D cI cZ [.ref h, .int from_, .int to_] sz [(h, .inr (10, ML G Rf)), ((Rf 0), .inl (cI, 1302, .inl f0))] (fun (u : (Nat → Int32)) => u = f_m_copy f0 from_ to_) (fun (u : (Nat → Int32)) => [(h, .inr (10, ML G Rf)), ((Rf 0), .inl (cI, 1302, .inl u))]) := by
  refine KV.go rfl (Nat.le_of_ble_eq_true rfl) ?_
  intro p e s m args below meth c ls A Q hx hb hml hts hown hin hP hK hD hS hA hN hl hret
  have hl : lv_has ls 4 [(0, .ref h), (1, .int from_), (2, .int to_)] := hl
  rw [S_m_copy] at hF
  obtain ⟨RES, hE⟩ : ∃ xRES, f_m_copy f0 from_ to_ = xRES := ⟨_, rfl⟩
  rw [hE] at hret
  rw [f_m_copy] at hE
  refine lv_iconst (v := 0) hx hb dX10_copy_0 rfl ?_
  refine lv_istore_n (lv' := [(3, .int 0), (0, .ref h), (1, .int from_), (2, .int to_)]) hx hb dX10_copy_1 rfl hl (Nat.le_of_ble_eq_true rfl) rfl (fun ls hl => ?_)
  have ex_2_w_1 : ∀ (w_1l3 : Int32) (w_1m0 : (Nat → Int32)) (H : Heap) (locs : List Loc) (ls : Array Slot), va_P D classes [(h, .inr (10, ML G Rf)), ((Rf 0), .inl (cI, 1302, .inl w_1m0))] H → va_D A [(h, .inr (10, ML G Rf)), ((Rf 0), .inl (cI, 1302, .inl w_1m0))] → va_S A s.heap H locs → lv_has ls 4 [(3, .int w_1l3), (0, .ref h), (1, .int from_), (2, .int to_)] → (True) → ((w_1m0) : (Nat → Int32)) = RES → W p l e rm_m_copy s m args below meth c H locs 0 0 Q (F0 m 30 ls []) := by
    intro w_1l3 w_1m0 H locs ls hP hD hS hl hF hE
    exact hret w_1m0 _ _ _ _ dX10_copy_30 hE hP hD hS
  have lp_2_w_1 : ∀ (n_w_1 : Nat) (w_1l3 : Int32) (w_1m0 : (Nat → Int32)) (H : Heap) (locs : List Loc) (ls : Array Slot), va_P D classes [(h, .inr (10, ML G Rf)), ((Rf 0), .inl (cI, 1302, .inl w_1m0))] H → va_D A [(h, .inr (10, ML G Rf)), ((Rf 0), .inl (cI, 1302, .inl w_1m0))] → va_S A s.heap H locs → lv_has ls 4 [(3, .int w_1l3), (0, .ref h), (1, .int from_), (2, .int to_)] → (S_m_copy_2 from_ to_ (fun (w_1l3 : Int32) (w_1m0 : (Nat → Int32)) => True) n_w_1 w_1l3 w_1m0) → ((42 : Int32).toInt - (w_1l3 : Int32).toInt).toNat < n_w_1 → ((match ((f_m_copy_2 from_ to_ n_w_1 w_1l3 w_1m0) : Int32 × (Nat → Int32)) with | (w_1l3, w_1m0) => w_1m0) : (Nat → Int32)) = RES → W p l e rm_m_copy s m args below meth c H locs 0 0 Q (F0 m 2 ls []) := by
    intro n_w_1
    induction n_w_1 with
    | zero => intro w_1l3 w_1m0 H locs ls hP hD hS hl hF hm; exact absurd hm (Nat.not_lt_zero _)
    | succ n_w_1 ih_w_1 =>
      intro w_1l3 w_1m0 H locs ls hP hD hS hl hF hm hE
      rw [S_m_copy_2_s] at hF
      rw [f_m_copy_2_s] at hE
      refine lv_iload_n hx hb dX10_copy_2 rfl (lv_at hl 0 rfl) ?_
      refine lv_bipush (v := 42) hx hb dX10_copy_3 rfl ?_
      refine lv_icmp_ge (tgt := 30) hx hb dX10_copy_5 rfl (fun c_2 => ?_) (fun c_2 => ?_)
      · replace hF := hF.1 c_2
        rw [if_pos c_2] at hE
        exact ex_2_w_1 w_1l3 w_1m0 _ _ ls hP hD hS (lv_sub hl [0, 1, 2, 3] rfl) hF hE
      · replace hF := hF.2 c_2
        rw [if_neg c_2] at hE
        refine lv_aload_n hx hb dX10_copy_8 rfl (lv_at hl 1 rfl) ?_
        refine va_get (D := D) (ci := 10) (v := .ref (Rf 0)) (C := RX10) (T := TX10) (N := 45) hx hb hts iX10 hown hK hP 0 rfl rfl 0 (Nat.le_of_ble_eq_true rfl) (hts _ wd_491) (fun _ h9 => h9) rfl dX10_copy_9 ?_
        refine lv_iload_n hx hb dX10_copy_12 rfl (lv_at hl 3 rfl) ?_
        refine lv_iload_n hx hb dX10_copy_13 rfl (lv_at hl 0 rfl) ?_
        refine lv_iadd hx hb dX10_copy_14 ?_
        refine lv_aload_n hx hb dX10_copy_15 rfl (lv_at hl 1 rfl) ?_
        refine va_get (D := D) (ci := 10) (v := .ref (Rf 0)) (C := RX10) (T := TX10) (N := 45) hx hb hts iX10 hown hK hP 0 rfl rfl 0 (Nat.le_of_ble_eq_true rfl) (hts _ wd_491) (fun _ h9 => h9) rfl dX10_copy_16 ?_
        refine lv_iload_n hx hb dX10_copy_19 rfl (lv_at hl 2 rfl) ?_
        refine lv_iload_n hx hb dX10_copy_20 rfl (lv_at hl 0 rfl) ?_
        refine lv_iadd hx hb dX10_copy_21 ?_
        obtain ⟨hv_3, hF⟩ := hF
        refine va_iald hx hb hK hP 1 0 rfl rfl hv_3 dX10_copy_22 ?_
        obtain ⟨hv_4, hF⟩ := hF
        refine va_iast hx hb hK hP hD hS 1 0 rfl rfl hv_4 dX10_copy_23 (fun H locs hP hD hS => ?_)
        have hP : va_P D classes [(h, .inr (10, ML G Rf)), ((Rf 0), .inl (cI, 1302, .inl (upd w_1m0 ((to_ + w_1l3) : Int32).toNatClampNeg (w_1m0 ((from_ + w_1l3) : Int32).toNatClampNeg))))] H := hP
        have hD : va_D A [(h, .inr (10, ML G Rf)), ((Rf 0), .inl (cI, 1302, .inl (upd w_1m0 ((to_ + w_1l3) : Int32).toNatClampNeg (w_1m0 ((from_ + w_1l3) : Int32).toNatClampNeg))))] := hD
        refine lv_iinc (v := (w_1l3 + 1)) (lv' := [(3, .int (w_1l3 + 1)), (0, .ref h), (1, .int from_), (2, .int to_)]) hx hb dX10_copy_24 hl (k := 0) rfl rfl (Nat.le_of_ble_eq_true rfl) rfl (fun ls hl => ?_)
        refine lv_goto (tgt := 2) hx hb dX10_copy_27 rfl ?_
        exact ih_w_1 (w_1l3 + 1) (upd w_1m0 ((to_ + w_1l3) : Int32).toNatClampNeg (w_1m0 ((from_ + w_1l3) : Int32).toNatClampNeg)) _ _ ls hP hD hS (lv_sub hl [0, 1, 2, 3] rfl) hF (up_step c_2 hm) hE
  exact lp_2_w_1 (((42 : Int32).toInt - (0 : Int32).toInt).toNat + 1) 0 f0 _ _ ls hP hD hS hl hF (Nat.lt_succ_self _) hE
noncomputable def f_m_letterAt (G : Nat → Int32) (f13 : Nat → Int32) (k_ : Int32) : Int32 := (if (G 14) ≤ k_ then (-1) else (f13 (k_ : Int32).toNatClampNeg))
def S_m_letterAt (G : Nat → Int32) (f13 : Nat → Int32) (k_ : Int32) : Prop := (((G 14) ≤ k_ → True) ∧ (¬ (G 14) ≤ k_ → (vp_in k_ 240 ∧ True)))
def rm_m_letterAt : Room := { frames := 0, cells := 0, slots := 0, locals := 0 }
set_option maxHeartbeats 4000000 in
set_option maxRecDepth 100000 in
theorem m_letterAt {l : Launch} {D : va_G} {cI cZ : ClassId} {sz : Nat} (Rf : Nat → Nat) (h : Nat) (G : Nat → Int32) (f13 : Nat → Int32) (k_ : Int32) (hF : S_m_letterAt G f13 k_) : KI l yX10_letterAt cX10_letterAt 2 (some .int) rm_m_letterAt D cI cZ [.ref h, .int k_] sz [(h, .inr (10, ML G Rf)), ((Rf 13), .inl (cI, 240, .inl f13))] (fun (r : Int32) (_ : Unit) => r = f_m_letterAt G f13 k_) (fun (_ : Unit) => [(h, .inr (10, ML G Rf)), ((Rf 13), .inl (cI, 240, .inl f13))]) := by
  refine KI.go rfl (Nat.le_of_ble_eq_true rfl) ?_
  intro p e s m args below meth c ls A Q hx hb hml hts hown hin hP hK hD hS hA hN hl hret
  have hl : lv_has ls 2 [(0, .ref h), (1, .int k_)] := hl
  rw [S_m_letterAt] at hF
  obtain ⟨RES, hE⟩ : ∃ xRES, f_m_letterAt G f13 k_ = xRES := ⟨_, rfl⟩
  rw [hE] at hret
  rw [f_m_letterAt] at hE
  refine lv_iload_n hx hb dX10_letterAt_0 rfl (lv_at hl 1 rfl) ?_
  refine lv_aload_n hx hb dX10_letterAt_1 rfl (lv_at hl 0 rfl) ?_
  refine va_get (D := D) (ci := 10) (v := .int (G 14)) (C := RX10) (T := TX10) (N := 45) hx hb hts iX10 hown hK hP 0 rfl rfl 14 (Nat.le_of_ble_eq_true rfl) (hts _ wd_492) (fun _ h9 => h9) rfl dX10_letterAt_2 ?_
  refine lv_icmp_ge (tgt := 17) hx hb dX10_letterAt_5 rfl (fun c_1 => ?_) (fun c_1 => ?_)
  · replace hF := hF.1 c_1
    rw [if_pos c_1] at hE
    refine lv_iconst (v := (-1)) hx hb dX10_letterAt_17 rfl ?_
    exact hret (-1) () _ _ _ _ dX10_letterAt_18 rfl hE hP hD hS
  · replace hF := hF.2 c_1
    rw [if_neg c_1] at hE
    refine lv_aload_n hx hb dX10_letterAt_8 rfl (lv_at hl 0 rfl) ?_
    refine va_get (D := D) (ci := 10) (v := .ref (Rf 13)) (C := RX10) (T := TX10) (N := 45) hx hb hts iX10 hown hK hP 0 rfl rfl 13 (Nat.le_of_ble_eq_true rfl) (hts _ wd_493) (fun _ h9 => h9) rfl dX10_letterAt_9 ?_
    refine lv_iload_n hx hb dX10_letterAt_12 rfl (lv_at hl 1 rfl) ?_
    obtain ⟨hv_2, hF⟩ := hF
    refine va_iald hx hb hK hP 1 0 rfl rfl hv_2 dX10_letterAt_13 ?_
    refine lv_goto (tgt := 18) hx hb dX10_letterAt_14 rfl ?_
    exact hret (f13 (k_ : Int32).toNatClampNeg) () _ _ _ _ dX10_letterAt_18 rfl hE hP hD hS
end
section
def fw_cX10_isBridge : List (List Nat) := [[27, 133, 9, 42, 180, 0, 81, 4, 100, 133, 184, 0, 84, 172]]
theorem fW_cX10_isBridge : fq_wins 1 cX10_isBridge.data.toList = fw_cX10_isBridge := by decide +kernel
theorem fk_cX10_isBridge_0 : fq_ck cX10_isBridge 0 [27, 133, 9, 42, 180, 0, 81, 4, 100, 133, 184, 0, 84, 172] := fq_of fW_cX10_isBridge 0 rfl rfl
theorem dX10_isBridge_0 : decode cX10_isBridge 0 = .ok (.iload_n 1, 1) := fq_27 fk_cX10_isBridge_0 0 rfl rfl
theorem dX10_isBridge_1 : decode cX10_isBridge 1 = .ok (.i2l, 1) := fq_133 fk_cX10_isBridge_0 1 rfl rfl
theorem dX10_isBridge_2 : decode cX10_isBridge 2 = .ok (.lconst 0, 1) := fq_9 fk_cX10_isBridge_0 2 rfl rfl
theorem dX10_isBridge_3 : decode cX10_isBridge 3 = .ok (.aload_n 0, 1) := fq_42 fk_cX10_isBridge_0 3 rfl rfl
theorem wd_494 : Cond.fieldLink RX10 81 "QuarrelBridgesModel" "bridges" "I" ∈ BG := BG_at4 66 (by decide +kernel) rfl
theorem dX10_isBridge_4 : decode cX10_isBridge 4 = .ok (.getfield 81, 3) := fq_180 fk_cX10_isBridge_0 4 rfl rfl rfl rfl rfl
theorem dX10_isBridge_7 : decode cX10_isBridge 7 = .ok (.iconst 1, 1) := fq_4 fk_cX10_isBridge_0 7 rfl rfl
theorem dX10_isBridge_8 : decode cX10_isBridge 8 = .ok (.isub, 1) := fq_100 fk_cX10_isBridge_0 8 rfl rfl
theorem dX10_isBridge_9 : decode cX10_isBridge 9 = .ok (.i2l, 1) := fq_133 fk_cX10_isBridge_0 9 rfl rfl
theorem dX10_isBridge_10 : decode cX10_isBridge 10 = .ok (.invokestatic 84, 3) := fq_184 fk_cX10_isBridge_0 10 rfl rfl rfl rfl rfl
theorem wd_495 : Cond.methodLink RX10 84 yX10_in ∈ BG := BG_at4 205 (by decide +kernel) rfl
theorem wd_496 : Cond.code yX10_in cX10_in 6 (some .boolean) ∈ BG := BG_at4 207 rfl rfl
theorem wd_497 : Cond.initialized RX10 ∈ BG := BG_at1 13 (by decide +kernel) rfl
theorem wd_498 : Cond.static yX10_in ∈ BG := BG_at4 206 (by decide +kernel) rfl
theorem okS_X10_in : okS yX10_in cX10_in 6 (some .boolean) 3 := ⟨⟨wd_496, wd_497, by decide +kernel⟩, wd_498⟩
theorem dX10_isBridge_13 : decode cX10_isBridge 13 = .ok (.ireturn, 1) := fq_172 fk_cX10_isBridge_0 13 rfl rfl
def fw_cX10_isCouple : List (List Nat) := [[27, 133, 9, 42, 180, 0, 78, 4, 100, 133, 184, 0, 84, 172]]
theorem fW_cX10_isCouple : fq_wins 1 cX10_isCouple.data.toList = fw_cX10_isCouple := by decide +kernel
theorem fk_cX10_isCouple_0 : fq_ck cX10_isCouple 0 [27, 133, 9, 42, 180, 0, 78, 4, 100, 133, 184, 0, 84, 172] := fq_of fW_cX10_isCouple 0 rfl rfl
theorem dX10_isCouple_0 : decode cX10_isCouple 0 = .ok (.iload_n 1, 1) := fq_27 fk_cX10_isCouple_0 0 rfl rfl
theorem dX10_isCouple_1 : decode cX10_isCouple 1 = .ok (.i2l, 1) := fq_133 fk_cX10_isCouple_0 1 rfl rfl
theorem dX10_isCouple_2 : decode cX10_isCouple 2 = .ok (.lconst 0, 1) := fq_9 fk_cX10_isCouple_0 2 rfl rfl
theorem dX10_isCouple_3 : decode cX10_isCouple 3 = .ok (.aload_n 0, 1) := fq_42 fk_cX10_isCouple_0 3 rfl rfl
theorem wd_499 : Cond.fieldLink RX10 78 "QuarrelBridgesModel" "couples" "I" ∈ BG := BG_at4 68 (by decide +kernel) rfl
theorem dX10_isCouple_4 : decode cX10_isCouple 4 = .ok (.getfield 78, 3) := fq_180 fk_cX10_isCouple_0 4 rfl rfl rfl rfl rfl
theorem dX10_isCouple_7 : decode cX10_isCouple 7 = .ok (.iconst 1, 1) := fq_4 fk_cX10_isCouple_0 7 rfl rfl
theorem dX10_isCouple_8 : decode cX10_isCouple 8 = .ok (.isub, 1) := fq_100 fk_cX10_isCouple_0 8 rfl rfl
theorem dX10_isCouple_9 : decode cX10_isCouple 9 = .ok (.i2l, 1) := fq_133 fk_cX10_isCouple_0 9 rfl rfl
theorem dX10_isCouple_10 : decode cX10_isCouple 10 = .ok (.invokestatic 84, 3) := fq_184 fk_cX10_isCouple_0 10 rfl rfl rfl rfl rfl
theorem dX10_isCouple_13 : decode cX10_isCouple 13 = .ok (.ireturn, 1) := fq_172 fk_cX10_isCouple_0 13 rfl rfl
def fw_cX10_isTheme : List (List Nat) := [[27, 133, 9, 42, 180, 0, 17, 4, 100, 133, 184, 0, 84, 172]]
theorem fW_cX10_isTheme : fq_wins 1 cX10_isTheme.data.toList = fw_cX10_isTheme := by decide +kernel
theorem fk_cX10_isTheme_0 : fq_ck cX10_isTheme 0 [27, 133, 9, 42, 180, 0, 17, 4, 100, 133, 184, 0, 84, 172] := fq_of fW_cX10_isTheme 0 rfl rfl
theorem dX10_isTheme_0 : decode cX10_isTheme 0 = .ok (.iload_n 1, 1) := fq_27 fk_cX10_isTheme_0 0 rfl rfl
theorem dX10_isTheme_1 : decode cX10_isTheme 1 = .ok (.i2l, 1) := fq_133 fk_cX10_isTheme_0 1 rfl rfl
theorem dX10_isTheme_2 : decode cX10_isTheme 2 = .ok (.lconst 0, 1) := fq_9 fk_cX10_isTheme_0 2 rfl rfl
theorem dX10_isTheme_3 : decode cX10_isTheme 3 = .ok (.aload_n 0, 1) := fq_42 fk_cX10_isTheme_0 3 rfl rfl
theorem wd_500 : Cond.fieldLink RX10 17 "QuarrelBridgesModel" "themes" "I" ∈ BG := BG_at4 67 (by decide +kernel) rfl
theorem dX10_isTheme_4 : decode cX10_isTheme 4 = .ok (.getfield 17, 3) := fq_180 fk_cX10_isTheme_0 4 rfl rfl rfl rfl rfl
theorem dX10_isTheme_7 : decode cX10_isTheme 7 = .ok (.iconst 1, 1) := fq_4 fk_cX10_isTheme_0 7 rfl rfl
theorem dX10_isTheme_8 : decode cX10_isTheme 8 = .ok (.isub, 1) := fq_100 fk_cX10_isTheme_0 8 rfl rfl
theorem dX10_isTheme_9 : decode cX10_isTheme 9 = .ok (.i2l, 1) := fq_133 fk_cX10_isTheme_0 9 rfl rfl
theorem dX10_isTheme_10 : decode cX10_isTheme 10 = .ok (.invokestatic 84, 3) := fq_184 fk_cX10_isTheme_0 10 rfl rfl rfl rfl rfl
theorem dX10_isTheme_13 : decode cX10_isTheme 13 = .ok (.ireturn, 1) := fq_172 fk_cX10_isTheme_0 13 rfl rfl
def fw_cX10_isBarge : List (List Nat) := [[27, 133, 9, 42, 180, 0, 88, 4, 100, 133, 184, 0, 84, 172]]
theorem fW_cX10_isBarge : fq_wins 1 cX10_isBarge.data.toList = fw_cX10_isBarge := by decide +kernel
theorem fk_cX10_isBarge_0 : fq_ck cX10_isBarge 0 [27, 133, 9, 42, 180, 0, 88, 4, 100, 133, 184, 0, 84, 172] := fq_of fW_cX10_isBarge 0 rfl rfl
theorem dX10_isBarge_0 : decode cX10_isBarge 0 = .ok (.iload_n 1, 1) := fq_27 fk_cX10_isBarge_0 0 rfl rfl
theorem dX10_isBarge_1 : decode cX10_isBarge 1 = .ok (.i2l, 1) := fq_133 fk_cX10_isBarge_0 1 rfl rfl
theorem dX10_isBarge_2 : decode cX10_isBarge 2 = .ok (.lconst 0, 1) := fq_9 fk_cX10_isBarge_0 2 rfl rfl
theorem dX10_isBarge_3 : decode cX10_isBarge 3 = .ok (.aload_n 0, 1) := fq_42 fk_cX10_isBarge_0 3 rfl rfl
theorem wd_501 : Cond.fieldLink RX10 88 "QuarrelBridgesModel" "barges" "I" ∈ BG := BG_at4 69 (by decide +kernel) rfl
theorem dX10_isBarge_4 : decode cX10_isBarge 4 = .ok (.getfield 88, 3) := fq_180 fk_cX10_isBarge_0 4 rfl rfl rfl rfl rfl
theorem dX10_isBarge_7 : decode cX10_isBarge 7 = .ok (.iconst 1, 1) := fq_4 fk_cX10_isBarge_0 7 rfl rfl
theorem dX10_isBarge_8 : decode cX10_isBarge 8 = .ok (.isub, 1) := fq_100 fk_cX10_isBarge_0 8 rfl rfl
theorem dX10_isBarge_9 : decode cX10_isBarge 9 = .ok (.i2l, 1) := fq_133 fk_cX10_isBarge_0 9 rfl rfl
theorem dX10_isBarge_10 : decode cX10_isBarge 10 = .ok (.invokestatic 84, 3) := fq_184 fk_cX10_isBarge_0 10 rfl rfl rfl rfl rfl
theorem dX10_isBarge_13 : decode cX10_isBarge 13 = .ok (.ireturn, 1) := fq_172 fk_cX10_isBarge_0 13 rfl rfl
def fw_cX10_isDone : List (List Nat) := [[42, 180, 0, 7, 16, 18, 46, 27, 184, 0, 183, 172]]
theorem fW_cX10_isDone : fq_wins 1 cX10_isDone.data.toList = fw_cX10_isDone := by decide +kernel
theorem fk_cX10_isDone_0 : fq_ck cX10_isDone 0 [42, 180, 0, 7, 16, 18, 46, 27, 184, 0, 183, 172] := fq_of fW_cX10_isDone 0 rfl rfl
theorem dX10_isDone_0 : decode cX10_isDone 0 = .ok (.aload_n 0, 1) := fq_42 fk_cX10_isDone_0 0 rfl rfl
theorem dX10_isDone_1 : decode cX10_isDone 1 = .ok (.getfield 7, 3) := fq_180 fk_cX10_isDone_0 1 rfl rfl rfl rfl rfl
theorem dX10_isDone_4 : decode cX10_isDone 4 = .ok (.bipush 18, 2) := fq_16 fk_cX10_isDone_0 4 rfl rfl rfl rfl
theorem dX10_isDone_6 : decode cX10_isDone 6 = .ok (.iaload, 1) := fq_46 fk_cX10_isDone_0 6 rfl rfl
theorem dX10_isDone_7 : decode cX10_isDone 7 = .ok (.iload_n 1, 1) := fq_27 fk_cX10_isDone_0 7 rfl rfl
theorem dX10_isDone_8 : decode cX10_isDone 8 = .ok (.invokestatic 183, 3) := fq_184 fk_cX10_isDone_0 8 rfl rfl rfl rfl rfl
theorem wd_502 : Cond.methodLink RX10 183 yX10_has ∈ BG := BG_at5 32 (by decide +kernel) rfl
theorem wd_503 : Cond.code yX10_has cX10_has 2 (some .boolean) ∈ BG := BG_at5 34 rfl rfl
theorem wd_504 : Cond.static yX10_has ∈ BG := BG_at5 33 (by decide +kernel) rfl
theorem okS_X10_has : okS yX10_has cX10_has 2 (some .boolean) 2 := ⟨⟨wd_503, wd_497, by decide +kernel⟩, wd_504⟩
theorem dX10_isDone_11 : decode cX10_isDone 11 = .ok (.ireturn, 1) := fq_172 fk_cX10_isDone_0 11 rfl rfl
def fw_cX10_feed : List (List Nat) := [[27, 133, 9, 20, 0, 91, 184, 0, 84, 154, 0, 6, 18, 93, 172, 42, 180, 0], [180, 0, 94, 17, 0, 240, 160, 0, 6, 18, 97, 172, 42, 180, 0, 36, 42, 180], [42, 180, 0, 94, 27, 79, 42, 89, 180, 0, 94, 4, 96, 181, 0, 94, 42, 180], [42, 180, 0, 94, 172]]
theorem fW_cX10_feed : fq_wins 4 cX10_feed.data.toList = fw_cX10_feed := by decide +kernel
theorem fk_cX10_feed_0 : fq_ck cX10_feed 0 [27, 133, 9, 20, 0, 91, 184, 0, 84, 154, 0, 6, 18, 93, 172, 42, 180, 0] := fq_of fW_cX10_feed 0 rfl rfl
theorem dX10_feed_0 : decode cX10_feed 0 = .ok (.iload_n 1, 1) := fq_27 fk_cX10_feed_0 0 rfl rfl
theorem dX10_feed_1 : decode cX10_feed 1 = .ok (.i2l, 1) := fq_133 fk_cX10_feed_0 1 rfl rfl
theorem dX10_feed_2 : decode cX10_feed 2 = .ok (.lconst 0, 1) := fq_9 fk_cX10_feed_0 2 rfl rfl
theorem wd_505 : Cond.constantLong RX10 91 (255) ∈ BG := BG_at4 204 (by decide +kernel) rfl
theorem dX10_feed_3 : decode cX10_feed 3 = .ok (.ldc2_w 91, 3) := fq_20 fk_cX10_feed_0 3 rfl rfl rfl rfl rfl
theorem dX10_feed_6 : decode cX10_feed 6 = .ok (.invokestatic 84, 3) := fq_184 fk_cX10_feed_0 6 rfl rfl rfl rfl rfl
theorem dX10_feed_9 : decode cX10_feed 9 = .ok (.ifCond .ne 6, 3) := fq_154 fk_cX10_feed_0 9 rfl rfl rfl rfl rfl
theorem dX10_feed_15 : decode cX10_feed 15 = .ok (.aload_n 0, 1) := fq_42 fk_cX10_feed_0 15 rfl rfl
theorem fk_cX10_feed_1 : fq_ck cX10_feed 16 [180, 0, 94, 17, 0, 240, 160, 0, 6, 18, 97, 172, 42, 180, 0, 36, 42, 180] := fq_of fW_cX10_feed 1 rfl rfl
theorem dX10_feed_16 : decode cX10_feed 16 = .ok (.getfield 94, 3) := fq_180 fk_cX10_feed_1 0 rfl rfl rfl rfl rfl
theorem dX10_feed_19 : decode cX10_feed 19 = .ok (.sipush 240, 3) := fq_17 fk_cX10_feed_1 3 rfl rfl rfl rfl rfl
theorem dX10_feed_22 : decode cX10_feed 22 = .ok (.if_icmp .ne 6, 3) := fq_160 fk_cX10_feed_1 6 rfl rfl rfl rfl rfl
theorem dX10_feed_28 : decode cX10_feed 28 = .ok (.aload_n 0, 1) := fq_42 fk_cX10_feed_1 12 rfl rfl
theorem dX10_feed_29 : decode cX10_feed 29 = .ok (.getfield 36, 3) := fq_180 fk_cX10_feed_1 13 rfl rfl rfl rfl rfl
theorem fk_cX10_feed_2 : fq_ck cX10_feed 32 [42, 180, 0, 94, 27, 79, 42, 89, 180, 0, 94, 4, 96, 181, 0, 94, 42, 180] := fq_of fW_cX10_feed 2 rfl rfl
theorem dX10_feed_32 : decode cX10_feed 32 = .ok (.aload_n 0, 1) := fq_42 fk_cX10_feed_2 0 rfl rfl
theorem dX10_feed_33 : decode cX10_feed 33 = .ok (.getfield 94, 3) := fq_180 fk_cX10_feed_2 1 rfl rfl rfl rfl rfl
theorem dX10_feed_36 : decode cX10_feed 36 = .ok (.iload_n 1, 1) := fq_27 fk_cX10_feed_2 4 rfl rfl
theorem dX10_feed_37 : decode cX10_feed 37 = .ok (.iastore, 1) := fq_79 fk_cX10_feed_2 5 rfl rfl
theorem dX10_feed_38 : decode cX10_feed 38 = .ok (.aload_n 0, 1) := fq_42 fk_cX10_feed_2 6 rfl rfl
theorem dX10_feed_39 : decode cX10_feed 39 = .ok (.dup, 1) := fq_89 fk_cX10_feed_2 7 rfl rfl
theorem dX10_feed_40 : decode cX10_feed 40 = .ok (.getfield 94, 3) := fq_180 fk_cX10_feed_2 8 rfl rfl rfl rfl rfl
theorem dX10_feed_43 : decode cX10_feed 43 = .ok (.iconst 1, 1) := fq_4 fk_cX10_feed_2 11 rfl rfl
theorem dX10_feed_44 : decode cX10_feed 44 = .ok (.iadd, 1) := fq_96 fk_cX10_feed_2 12 rfl rfl
theorem dX10_feed_45 : decode cX10_feed 45 = .ok (.putfield 94, 3) := fq_181 fk_cX10_feed_2 13 rfl rfl rfl rfl rfl
theorem fk_cX10_feed_3 : fq_ck cX10_feed 48 [42, 180, 0, 94, 172] := fq_of fW_cX10_feed 3 rfl rfl
theorem dX10_feed_48 : decode cX10_feed 48 = .ok (.aload_n 0, 1) := fq_42 fk_cX10_feed_3 0 rfl rfl
theorem dX10_feed_49 : decode cX10_feed 49 = .ok (.getfield 94, 3) := fq_180 fk_cX10_feed_3 1 rfl rfl rfl rfl rfl
theorem dX10_feed_52 : decode cX10_feed 52 = .ok (.ireturn, 1) := fq_172 fk_cX10_feed_3 4 rfl rfl
theorem wd_506 : Cond.constant RX10 97 (-1000000004) ∈ BG := BG_at4 209 (by decide +kernel) rfl
theorem dX10_feed_25 : decode cX10_feed 25 = .ok (.ldc 97, 2) := fq_18 fk_cX10_feed_1 9 rfl rfl rfl
theorem dX10_feed_27 : decode cX10_feed 27 = .ok (.ireturn, 1) := fq_172 fk_cX10_feed_1 11 rfl rfl
theorem wd_507 : Cond.constant RX10 93 (-1000000002) ∈ BG := BG_at4 208 (by decide +kernel) rfl
theorem dX10_feed_12 : decode cX10_feed 12 = .ok (.ldc 93, 2) := fq_18 fk_cX10_feed_0 12 rfl rfl rfl
theorem dX10_feed_14 : decode cX10_feed 14 = .ok (.ireturn, 1) := fq_172 fk_cX10_feed_0 14 rfl rfl
def fw_cX10_here : List (List Nat) := [[42, 42, 180, 0, 98, 182, 0, 101, 16, 32, 160, 0, 16, 42, 89, 180, 0, 98], [0, 98, 4, 96, 181, 0, 98, 167, 255, 233, 42, 42, 180, 0, 98, 181, 0, 105], [0, 105, 42, 42, 180, 0, 98, 182, 0, 101, 172]]
theorem fW_cX10_here : fq_wins 3 cX10_here.data.toList = fw_cX10_here := by decide +kernel
theorem fk_cX10_here_1 : fq_ck cX10_here 16 [0, 98, 4, 96, 181, 0, 98, 167, 255, 233, 42, 42, 180, 0, 98, 181, 0, 105] := fq_of fW_cX10_here 1 rfl rfl
theorem dX10_here_26 : decode cX10_here 26 = .ok (.aload_n 0, 1) := fq_42 fk_cX10_here_1 10 rfl rfl
theorem dX10_here_27 : decode cX10_here 27 = .ok (.aload_n 0, 1) := fq_42 fk_cX10_here_1 11 rfl rfl
theorem wd_508 : Cond.fieldLink RX10 98 "QuarrelBridgesModel" "at" "I" ∈ BG := BG_at4 78 (by decide +kernel) rfl
theorem dX10_here_28 : decode cX10_here 28 = .ok (.getfield 98, 3) := fq_180 fk_cX10_here_1 12 rfl rfl rfl rfl rfl
theorem wd_509 : Cond.fieldLink RX10 105 "QuarrelBridgesModel" "start" "I" ∈ BG := BG_at4 79 (by decide +kernel) rfl
theorem dX10_here_31 : decode cX10_here 31 = .ok (.putfield 105, 3) := fq_181 fk_cX10_here_1 15 rfl rfl rfl rfl rfl
theorem fk_cX10_here_2 : fq_ck cX10_here 32 [0, 105, 42, 42, 180, 0, 98, 182, 0, 101, 172] := fq_of fW_cX10_here 2 rfl rfl
theorem dX10_here_34 : decode cX10_here 34 = .ok (.aload_n 0, 1) := fq_42 fk_cX10_here_2 2 rfl rfl
theorem dX10_here_35 : decode cX10_here 35 = .ok (.aload_n 0, 1) := fq_42 fk_cX10_here_2 3 rfl rfl
theorem dX10_here_36 : decode cX10_here 36 = .ok (.getfield 98, 3) := fq_180 fk_cX10_here_2 4 rfl rfl rfl rfl rfl
theorem dX10_here_39 : decode cX10_here 39 = .ok (.invokevirtual 101, 3) := fq_182 fk_cX10_here_2 7 rfl rfl rfl rfl rfl
theorem wd_510 : Cond.methodLink RX10 101 yX10_letterAt ∈ BG := BG_at4 218 (by decide +kernel) rfl
theorem wd_511 : Cond.code yX10_letterAt cX10_letterAt 2 (some .int) ∈ BG := BG_at4 221 rfl rfl
theorem wd_512 : Cond.instanceMethod yX10_letterAt ∈ BG := BG_at4 220 (by decide +kernel) rfl
theorem wd_513 : Cond.selects RX10 yX10_letterAt yX10_letterAt ∈ BG := BG_in (by decide +kernel) rfl
theorem okV_X10_letterAt : okV yX10_letterAt cX10_letterAt 2 (some .int) 1 := ⟨⟨wd_511, wd_497, by decide +kernel⟩, wd_512, wd_513⟩
theorem dX10_here_42 : decode cX10_here 42 = .ok (.ireturn, 1) := fq_172 fk_cX10_here_2 10 rfl rfl
theorem fk_cX10_here_0 : fq_ck cX10_here 0 [42, 42, 180, 0, 98, 182, 0, 101, 16, 32, 160, 0, 16, 42, 89, 180, 0, 98] := fq_of fW_cX10_here 0 rfl rfl
theorem dX10_here_0 : decode cX10_here 0 = .ok (.aload_n 0, 1) := fq_42 fk_cX10_here_0 0 rfl rfl
theorem dX10_here_1 : decode cX10_here 1 = .ok (.aload_n 0, 1) := fq_42 fk_cX10_here_0 1 rfl rfl
theorem dX10_here_2 : decode cX10_here 2 = .ok (.getfield 98, 3) := fq_180 fk_cX10_here_0 2 rfl rfl rfl rfl rfl
theorem dX10_here_5 : decode cX10_here 5 = .ok (.invokevirtual 101, 3) := fq_182 fk_cX10_here_0 5 rfl rfl rfl rfl rfl
theorem dX10_here_8 : decode cX10_here 8 = .ok (.bipush 32, 2) := fq_16 fk_cX10_here_0 8 rfl rfl rfl rfl
theorem dX10_here_10 : decode cX10_here 10 = .ok (.if_icmp .ne 16, 3) := fq_160 fk_cX10_here_0 10 rfl rfl rfl rfl rfl
theorem dX10_here_13 : decode cX10_here 13 = .ok (.aload_n 0, 1) := fq_42 fk_cX10_here_0 13 rfl rfl
theorem dX10_here_14 : decode cX10_here 14 = .ok (.dup, 1) := fq_89 fk_cX10_here_0 14 rfl rfl
theorem dX10_here_15 : decode cX10_here 15 = .ok (.getfield 98, 3) := fq_180 fk_cX10_here_0 15 rfl rfl rfl rfl rfl
theorem dX10_here_18 : decode cX10_here 18 = .ok (.iconst 1, 1) := fq_4 fk_cX10_here_1 2 rfl rfl
theorem dX10_here_19 : decode cX10_here 19 = .ok (.iadd, 1) := fq_96 fk_cX10_here_1 3 rfl rfl
theorem dX10_here_20 : decode cX10_here 20 = .ok (.putfield 98, 3) := fq_181 fk_cX10_here_1 4 rfl rfl rfl rfl rfl
theorem dX10_here_23 : decode cX10_here 23 = .ok (.goto (-23), 3) := fq_167 fk_cX10_here_1 7 rfl rfl rfl rfl rfl
def fw_cX10_fails : List (List Nat) := [[42, 27, 181, 0, 108, 42, 28, 181, 0, 39, 3, 172]]
theorem fW_cX10_fails : fq_wins 1 cX10_fails.data.toList = fw_cX10_fails := by decide +kernel
theorem fk_cX10_fails_0 : fq_ck cX10_fails 0 [42, 27, 181, 0, 108, 42, 28, 181, 0, 39, 3, 172] := fq_of fW_cX10_fails 0 rfl rfl
theorem dX10_fails_0 : decode cX10_fails 0 = .ok (.aload_n 0, 1) := fq_42 fk_cX10_fails_0 0 rfl rfl
theorem dX10_fails_1 : decode cX10_fails 1 = .ok (.iload_n 1, 1) := fq_27 fk_cX10_fails_0 1 rfl rfl
theorem wd_514 : Cond.fieldLink RX10 108 "QuarrelBridgesModel" "faulty" "I" ∈ BG := BG_at4 81 (by decide +kernel) rfl
theorem dX10_fails_2 : decode cX10_fails 2 = .ok (.putfield 108, 3) := fq_181 fk_cX10_fails_0 2 rfl rfl rfl rfl rfl
theorem dX10_fails_5 : decode cX10_fails 5 = .ok (.aload_n 0, 1) := fq_42 fk_cX10_fails_0 5 rfl rfl
theorem dX10_fails_6 : decode cX10_fails 6 = .ok (.iload_n 2, 1) := fq_28 fk_cX10_fails_0 6 rfl rfl
theorem wd_515 : Cond.fieldLink RX10 39 "QuarrelBridgesModel" "faultAt" "I" ∈ BG := BG_at4 82 (by decide +kernel) rfl
theorem dX10_fails_7 : decode cX10_fails 7 = .ok (.putfield 39, 3) := fq_181 fk_cX10_fails_0 7 rfl rfl rfl rfl rfl
theorem dX10_fails_10 : decode cX10_fails 10 = .ok (.iconst 0, 1) := fq_3 fk_cX10_fails_0 10 rfl rfl
theorem dX10_fails_11 : decode cX10_fails 11 = .ok (.ireturn, 1) := fq_172 fk_cX10_fails_0 11 rfl rfl
def fw_cX10_takes : List (List Nat) := [[42, 182, 0, 111, 27, 159, 0, 13, 42, 4, 42, 180, 0, 105, 182, 0, 115, 172], [115, 172, 42, 89, 180, 0, 98, 4, 96, 181, 0, 98, 4, 172]]
theorem fW_cX10_takes : fq_wins 2 cX10_takes.data.toList = fw_cX10_takes := by decide +kernel
theorem fk_cX10_takes_0 : fq_ck cX10_takes 0 [42, 182, 0, 111, 27, 159, 0, 13, 42, 4, 42, 180, 0, 105, 182, 0, 115, 172] := fq_of fW_cX10_takes 0 rfl rfl
theorem dX10_takes_0 : decode cX10_takes 0 = .ok (.aload_n 0, 1) := fq_42 fk_cX10_takes_0 0 rfl rfl
theorem dX10_takes_1 : decode cX10_takes 1 = .ok (.invokevirtual 111, 3) := fq_182 fk_cX10_takes_0 1 rfl rfl rfl rfl rfl
theorem wd_516 : Cond.methodLink RX10 111 yX10_here ∈ BG := BG_at4 214 (by decide +kernel) rfl
theorem wd_517 : Cond.code yX10_here cX10_here 1 (some .int) ∈ BG := BG_at4 217 rfl rfl
theorem wd_518 : Cond.instanceMethod yX10_here ∈ BG := BG_at4 216 (by decide +kernel) rfl
theorem wd_519 : Cond.selects RX10 yX10_here yX10_here ∈ BG := BG_in (by decide +kernel) rfl
theorem okV_X10_here : okV yX10_here cX10_here 1 (some .int) 0 := ⟨⟨wd_517, wd_497, by decide +kernel⟩, wd_518, wd_519⟩
theorem dX10_takes_4 : decode cX10_takes 4 = .ok (.iload_n 1, 1) := fq_27 fk_cX10_takes_0 4 rfl rfl
theorem dX10_takes_5 : decode cX10_takes 5 = .ok (.if_icmp .eq 13, 3) := fq_159 fk_cX10_takes_0 5 rfl rfl rfl rfl rfl
theorem fk_cX10_takes_1 : fq_ck cX10_takes 16 [115, 172, 42, 89, 180, 0, 98, 4, 96, 181, 0, 98, 4, 172] := fq_of fW_cX10_takes 1 rfl rfl
theorem dX10_takes_18 : decode cX10_takes 18 = .ok (.aload_n 0, 1) := fq_42 fk_cX10_takes_1 2 rfl rfl
theorem dX10_takes_19 : decode cX10_takes 19 = .ok (.dup, 1) := fq_89 fk_cX10_takes_1 3 rfl rfl
theorem dX10_takes_20 : decode cX10_takes 20 = .ok (.getfield 98, 3) := fq_180 fk_cX10_takes_1 4 rfl rfl rfl rfl rfl
theorem dX10_takes_23 : decode cX10_takes 23 = .ok (.iconst 1, 1) := fq_4 fk_cX10_takes_1 7 rfl rfl
theorem dX10_takes_24 : decode cX10_takes 24 = .ok (.iadd, 1) := fq_96 fk_cX10_takes_1 8 rfl rfl
theorem dX10_takes_25 : decode cX10_takes 25 = .ok (.putfield 98, 3) := fq_181 fk_cX10_takes_1 9 rfl rfl rfl rfl rfl
theorem dX10_takes_28 : decode cX10_takes 28 = .ok (.iconst 1, 1) := fq_4 fk_cX10_takes_1 12 rfl rfl
theorem dX10_takes_29 : decode cX10_takes 29 = .ok (.ireturn, 1) := fq_172 fk_cX10_takes_1 13 rfl rfl
theorem dX10_takes_8 : decode cX10_takes 8 = .ok (.aload_n 0, 1) := fq_42 fk_cX10_takes_0 8 rfl rfl
theorem dX10_takes_9 : decode cX10_takes 9 = .ok (.iconst 1, 1) := fq_4 fk_cX10_takes_0 9 rfl rfl
theorem dX10_takes_10 : decode cX10_takes 10 = .ok (.aload_n 0, 1) := fq_42 fk_cX10_takes_0 10 rfl rfl
theorem dX10_takes_11 : decode cX10_takes 11 = .ok (.getfield 105, 3) := fq_180 fk_cX10_takes_0 11 rfl rfl rfl rfl rfl
theorem dX10_takes_14 : decode cX10_takes 14 = .ok (.invokevirtual 115, 3) := fq_182 fk_cX10_takes_0 14 rfl rfl rfl rfl rfl
theorem wd_520 : Cond.methodLink RX10 115 yX10_fails ∈ BG := BG_at4 226 (by decide +kernel) rfl
theorem wd_521 : Cond.code yX10_fails cX10_fails 3 (some .boolean) ∈ BG := BG_at4 229 rfl rfl
theorem wd_522 : Cond.instanceMethod yX10_fails ∈ BG := BG_at4 228 (by decide +kernel) rfl
theorem wd_523 : Cond.selects RX10 yX10_fails yX10_fails ∈ BG := BG_in (by decide +kernel) rfl
theorem okV_X10_fails : okV yX10_fails cX10_fails 3 (some .boolean) 2 := ⟨⟨wd_521, wd_497, by decide +kernel⟩, wd_522, wd_523⟩
theorem dX10_takes_17 : decode cX10_takes 17 = .ok (.ireturn, 1) := fq_172 fk_cX10_takes_1 1 rfl rfl
theorem m_in01 (x y z : Int64) : f_m_in x y z = 0 ∨ f_m_in x y z = 1 := by
  unfold f_m_in
  repeat' split
  all_goals first | exact Or.inl rfl | exact Or.inr rfl
theorem m_has01 (x y : Int32) : f_m_has x y = 0 ∨ f_m_has x y = 1 := by
  unfold f_m_has
  repeat' split
  all_goals first | exact Or.inl rfl | exact Or.inr rfl
noncomputable def f_m_isBridge (G : Nat → Int32) (v_ : Int32) : Int32 := (f_m_in v_.toInt64 0 ((((G 3) - 1)).toInt64))
def S_m_isBridge (G : Nat → Int32) (v_ : Int32) : Prop := ((S_m_in v_.toInt64 0 ((((G 3) - 1)).toInt64)) ∧ True)
def rm_m_isBridge : Room := { frames := 1, cells := 0, slots := 0, locals := 25 }
set_option maxHeartbeats 4000000 in
set_option maxRecDepth 100000 in
theorem m_isBridge {l : Launch} {D : va_G} {cI cZ : ClassId} {sz : Nat} (Rf : Nat → Nat) (h : Nat) (G : Nat → Int32) (v_ : Int32) (hF : S_m_isBridge G v_) : KI l yX10_isBridge cX10_isBridge 2 (some .boolean) rm_m_isBridge D cI cZ [.ref h, .int v_] sz [(h, .inr (10, ML G Rf))] (fun (r : Int32) (_ : Unit) => r = f_m_isBridge G v_) (fun (_ : Unit) => [(h, .inr (10, ML G Rf))]) := by
  refine KI.go rfl (Nat.le_of_ble_eq_true rfl) ?_
  intro p e s m args below meth c ls A Q hx hb hml hts hown hin hP hK hD hS hA hN hl hret
  have hl : lv_has ls 2 [(0, .ref h), (1, .int v_)] := hl
  rw [S_m_isBridge] at hF
  obtain ⟨RES, hE⟩ : ∃ xRES, f_m_isBridge G v_ = xRES := ⟨_, rfl⟩
  rw [hE] at hret
  rw [f_m_isBridge] at hE
  refine lv_iload_n hx hb dX10_isBridge_0 rfl (lv_at hl 1 rfl) ?_
  refine lv_i2l (v := v_.toInt64) hx hb dX10_isBridge_1 rfl ?_
  refine lv_lconst (v := 0) hx hb dX10_isBridge_2 rfl ?_
  refine lv_aload_n hx hb dX10_isBridge_3 rfl (lv_at hl 0 rfl) ?_
  refine va_get (D := D) (ci := 10) (v := .int (G 3)) (C := RX10) (T := TX10) (N := 45) hx hb hts iX10 hown hK hP 0 rfl rfl 3 (Nat.le_of_ble_eq_true rfl) (hts _ wd_494) (fun _ h9 => h9) rfl dX10_isBridge_4 ?_
  refine lv_iconst (v := 1) hx hb dX10_isBridge_7 rfl ?_
  refine lv_isub hx hb dX10_isBridge_8 ?_
  refine lv_i2l (v := (((G 3) - 1)).toInt64) hx hb dX10_isBridge_9 rfl ?_
  obtain ⟨hs_1, hF⟩ := hF
  refine cSi (wr := [(h, .inr (10, ML G Rf))]) (rest := []) (m_in v_.toInt64 0 ((((G 3) - 1)).toInt64) hs_1) okS_X10_in wd_495 hx hb hml hown hts hK hP hD hS hA hN hl.1 [] [0] rfl rfl rfl rfl (of_decide_eq_true rfl) rfl (Nat.le_of_ble_eq_true rfl) (Nat.le_of_ble_eq_true rfl) (Nat.le_of_ble_eq_true rfl) (Nat.le_of_ble_eq_true rfl) (Nat.le_of_ble_eq_true rfl) dX10_isBridge_10 (fun r_3 u_2 H locs hw_u_2 hP hD hS => ?_)
  replace hw_u_2 : r_3 = (f_m_in v_.toInt64 0 ((((G 3) - 1)).toInt64)) := hw_u_2
  rw [hw_u_2]
  clear hw_u_2
  have hP : va_P D classes [(h, .inr (10, ML G Rf))] H := hP
  have hD : va_D A [(h, .inr (10, ML G Rf))] := hD
  exact hret (f_m_in v_.toInt64 0 ((((G 3) - 1)).toInt64)) () _ _ _ _ dX10_isBridge_13 (narrow_b01 (m_in01 _ _ _)) hE hP hD hS
noncomputable def f_m_isCouple (G : Nat → Int32) (v_ : Int32) : Int32 := (f_m_in v_.toInt64 0 ((((G 5) - 1)).toInt64))
def S_m_isCouple (G : Nat → Int32) (v_ : Int32) : Prop := ((S_m_in v_.toInt64 0 ((((G 5) - 1)).toInt64)) ∧ True)
def rm_m_isCouple : Room := { frames := 1, cells := 0, slots := 0, locals := 25 }
set_option maxHeartbeats 4000000 in
set_option maxRecDepth 100000 in
theorem m_isCouple {l : Launch} {D : va_G} {cI cZ : ClassId} {sz : Nat} (Rf : Nat → Nat) (h : Nat) (G : Nat → Int32) (v_ : Int32) (hF : S_m_isCouple G v_) : KI l yX10_isCouple cX10_isCouple 2 (some .boolean) rm_m_isCouple D cI cZ [.ref h, .int v_] sz [(h, .inr (10, ML G Rf))] (fun (r : Int32) (_ : Unit) => r = f_m_isCouple G v_) (fun (_ : Unit) => [(h, .inr (10, ML G Rf))]) := by
  refine KI.go rfl (Nat.le_of_ble_eq_true rfl) ?_
  intro p e s m args below meth c ls A Q hx hb hml hts hown hin hP hK hD hS hA hN hl hret
  have hl : lv_has ls 2 [(0, .ref h), (1, .int v_)] := hl
  rw [S_m_isCouple] at hF
  obtain ⟨RES, hE⟩ : ∃ xRES, f_m_isCouple G v_ = xRES := ⟨_, rfl⟩
  rw [hE] at hret
  rw [f_m_isCouple] at hE
  refine lv_iload_n hx hb dX10_isCouple_0 rfl (lv_at hl 1 rfl) ?_
  refine lv_i2l (v := v_.toInt64) hx hb dX10_isCouple_1 rfl ?_
  refine lv_lconst (v := 0) hx hb dX10_isCouple_2 rfl ?_
  refine lv_aload_n hx hb dX10_isCouple_3 rfl (lv_at hl 0 rfl) ?_
  refine va_get (D := D) (ci := 10) (v := .int (G 5)) (C := RX10) (T := TX10) (N := 45) hx hb hts iX10 hown hK hP 0 rfl rfl 5 (Nat.le_of_ble_eq_true rfl) (hts _ wd_499) (fun _ h9 => h9) rfl dX10_isCouple_4 ?_
  refine lv_iconst (v := 1) hx hb dX10_isCouple_7 rfl ?_
  refine lv_isub hx hb dX10_isCouple_8 ?_
  refine lv_i2l (v := (((G 5) - 1)).toInt64) hx hb dX10_isCouple_9 rfl ?_
  obtain ⟨hs_1, hF⟩ := hF
  refine cSi (wr := [(h, .inr (10, ML G Rf))]) (rest := []) (m_in v_.toInt64 0 ((((G 5) - 1)).toInt64) hs_1) okS_X10_in wd_495 hx hb hml hown hts hK hP hD hS hA hN hl.1 [] [0] rfl rfl rfl rfl (of_decide_eq_true rfl) rfl (Nat.le_of_ble_eq_true rfl) (Nat.le_of_ble_eq_true rfl) (Nat.le_of_ble_eq_true rfl) (Nat.le_of_ble_eq_true rfl) (Nat.le_of_ble_eq_true rfl) dX10_isCouple_10 (fun r_3 u_2 H locs hw_u_2 hP hD hS => ?_)
  replace hw_u_2 : r_3 = (f_m_in v_.toInt64 0 ((((G 5) - 1)).toInt64)) := hw_u_2
  rw [hw_u_2]
  clear hw_u_2
  have hP : va_P D classes [(h, .inr (10, ML G Rf))] H := hP
  have hD : va_D A [(h, .inr (10, ML G Rf))] := hD
  exact hret (f_m_in v_.toInt64 0 ((((G 5) - 1)).toInt64)) () _ _ _ _ dX10_isCouple_13 (narrow_b01 (m_in01 _ _ _)) hE hP hD hS
noncomputable def f_m_isTheme (G : Nat → Int32) (v_ : Int32) : Int32 := (f_m_in v_.toInt64 0 ((((G 4) - 1)).toInt64))
def S_m_isTheme (G : Nat → Int32) (v_ : Int32) : Prop := ((S_m_in v_.toInt64 0 ((((G 4) - 1)).toInt64)) ∧ True)
def rm_m_isTheme : Room := { frames := 1, cells := 0, slots := 0, locals := 25 }
set_option maxHeartbeats 4000000 in
set_option maxRecDepth 100000 in
theorem m_isTheme {l : Launch} {D : va_G} {cI cZ : ClassId} {sz : Nat} (Rf : Nat → Nat) (h : Nat) (G : Nat → Int32) (v_ : Int32) (hF : S_m_isTheme G v_) : KI l yX10_isTheme cX10_isTheme 2 (some .boolean) rm_m_isTheme D cI cZ [.ref h, .int v_] sz [(h, .inr (10, ML G Rf))] (fun (r : Int32) (_ : Unit) => r = f_m_isTheme G v_) (fun (_ : Unit) => [(h, .inr (10, ML G Rf))]) := by
  refine KI.go rfl (Nat.le_of_ble_eq_true rfl) ?_
  intro p e s m args below meth c ls A Q hx hb hml hts hown hin hP hK hD hS hA hN hl hret
  have hl : lv_has ls 2 [(0, .ref h), (1, .int v_)] := hl
  rw [S_m_isTheme] at hF
  obtain ⟨RES, hE⟩ : ∃ xRES, f_m_isTheme G v_ = xRES := ⟨_, rfl⟩
  rw [hE] at hret
  rw [f_m_isTheme] at hE
  refine lv_iload_n hx hb dX10_isTheme_0 rfl (lv_at hl 1 rfl) ?_
  refine lv_i2l (v := v_.toInt64) hx hb dX10_isTheme_1 rfl ?_
  refine lv_lconst (v := 0) hx hb dX10_isTheme_2 rfl ?_
  refine lv_aload_n hx hb dX10_isTheme_3 rfl (lv_at hl 0 rfl) ?_
  refine va_get (D := D) (ci := 10) (v := .int (G 4)) (C := RX10) (T := TX10) (N := 45) hx hb hts iX10 hown hK hP 0 rfl rfl 4 (Nat.le_of_ble_eq_true rfl) (hts _ wd_500) (fun _ h9 => h9) rfl dX10_isTheme_4 ?_
  refine lv_iconst (v := 1) hx hb dX10_isTheme_7 rfl ?_
  refine lv_isub hx hb dX10_isTheme_8 ?_
  refine lv_i2l (v := (((G 4) - 1)).toInt64) hx hb dX10_isTheme_9 rfl ?_
  obtain ⟨hs_1, hF⟩ := hF
  refine cSi (wr := [(h, .inr (10, ML G Rf))]) (rest := []) (m_in v_.toInt64 0 ((((G 4) - 1)).toInt64) hs_1) okS_X10_in wd_495 hx hb hml hown hts hK hP hD hS hA hN hl.1 [] [0] rfl rfl rfl rfl (of_decide_eq_true rfl) rfl (Nat.le_of_ble_eq_true rfl) (Nat.le_of_ble_eq_true rfl) (Nat.le_of_ble_eq_true rfl) (Nat.le_of_ble_eq_true rfl) (Nat.le_of_ble_eq_true rfl) dX10_isTheme_10 (fun r_3 u_2 H locs hw_u_2 hP hD hS => ?_)
  replace hw_u_2 : r_3 = (f_m_in v_.toInt64 0 ((((G 4) - 1)).toInt64)) := hw_u_2
  rw [hw_u_2]
  clear hw_u_2
  have hP : va_P D classes [(h, .inr (10, ML G Rf))] H := hP
  have hD : va_D A [(h, .inr (10, ML G Rf))] := hD
  exact hret (f_m_in v_.toInt64 0 ((((G 4) - 1)).toInt64)) () _ _ _ _ dX10_isTheme_13 (narrow_b01 (m_in01 _ _ _)) hE hP hD hS
noncomputable def f_m_isBarge (G : Nat → Int32) (v_ : Int32) : Int32 := (f_m_in v_.toInt64 0 ((((G 6) - 1)).toInt64))
def S_m_isBarge (G : Nat → Int32) (v_ : Int32) : Prop := ((S_m_in v_.toInt64 0 ((((G 6) - 1)).toInt64)) ∧ True)
def rm_m_isBarge : Room := { frames := 1, cells := 0, slots := 0, locals := 25 }
set_option maxHeartbeats 4000000 in
set_option maxRecDepth 100000 in
theorem m_isBarge {l : Launch} {D : va_G} {cI cZ : ClassId} {sz : Nat} (Rf : Nat → Nat) (h : Nat) (G : Nat → Int32) (v_ : Int32) (hF : S_m_isBarge G v_) : KI l yX10_isBarge cX10_isBarge 2 (some .boolean) rm_m_isBarge D cI cZ [.ref h, .int v_] sz [(h, .inr (10, ML G Rf))] (fun (r : Int32) (_ : Unit) => r = f_m_isBarge G v_) (fun (_ : Unit) => [(h, .inr (10, ML G Rf))]) := by
  refine KI.go rfl (Nat.le_of_ble_eq_true rfl) ?_
  intro p e s m args below meth c ls A Q hx hb hml hts hown hin hP hK hD hS hA hN hl hret
  have hl : lv_has ls 2 [(0, .ref h), (1, .int v_)] := hl
  rw [S_m_isBarge] at hF
  obtain ⟨RES, hE⟩ : ∃ xRES, f_m_isBarge G v_ = xRES := ⟨_, rfl⟩
  rw [hE] at hret
  rw [f_m_isBarge] at hE
  refine lv_iload_n hx hb dX10_isBarge_0 rfl (lv_at hl 1 rfl) ?_
  refine lv_i2l (v := v_.toInt64) hx hb dX10_isBarge_1 rfl ?_
  refine lv_lconst (v := 0) hx hb dX10_isBarge_2 rfl ?_
  refine lv_aload_n hx hb dX10_isBarge_3 rfl (lv_at hl 0 rfl) ?_
  refine va_get (D := D) (ci := 10) (v := .int (G 6)) (C := RX10) (T := TX10) (N := 45) hx hb hts iX10 hown hK hP 0 rfl rfl 6 (Nat.le_of_ble_eq_true rfl) (hts _ wd_501) (fun _ h9 => h9) rfl dX10_isBarge_4 ?_
  refine lv_iconst (v := 1) hx hb dX10_isBarge_7 rfl ?_
  refine lv_isub hx hb dX10_isBarge_8 ?_
  refine lv_i2l (v := (((G 6) - 1)).toInt64) hx hb dX10_isBarge_9 rfl ?_
  obtain ⟨hs_1, hF⟩ := hF
  refine cSi (wr := [(h, .inr (10, ML G Rf))]) (rest := []) (m_in v_.toInt64 0 ((((G 6) - 1)).toInt64) hs_1) okS_X10_in wd_495 hx hb hml hown hts hK hP hD hS hA hN hl.1 [] [0] rfl rfl rfl rfl (of_decide_eq_true rfl) rfl (Nat.le_of_ble_eq_true rfl) (Nat.le_of_ble_eq_true rfl) (Nat.le_of_ble_eq_true rfl) (Nat.le_of_ble_eq_true rfl) (Nat.le_of_ble_eq_true rfl) dX10_isBarge_10 (fun r_3 u_2 H locs hw_u_2 hP hD hS => ?_)
  replace hw_u_2 : r_3 = (f_m_in v_.toInt64 0 ((((G 6) - 1)).toInt64)) := hw_u_2
  rw [hw_u_2]
  clear hw_u_2
  have hP : va_P D classes [(h, .inr (10, ML G Rf))] H := hP
  have hD : va_D A [(h, .inr (10, ML G Rf))] := hD
  exact hret (f_m_in v_.toInt64 0 ((((G 6) - 1)).toInt64)) () _ _ _ _ dX10_isBarge_13 (narrow_b01 (m_in01 _ _ _)) hE hP hD hS
noncomputable def f_m_isDone (f0 : Nat → Int32) (c_ : Int32) : Int32 := (f_m_has (f0 (18 : Int32).toNatClampNeg) c_)
def S_m_isDone (f0 : Nat → Int32) (c_ : Int32) : Prop := ((S_m_has (f0 (18 : Int32).toNatClampNeg) c_) ∧ True)
def rm_m_isDone : Room := { frames := 1, cells := 0, slots := 0, locals := 21 }
set_option maxHeartbeats 4000000 in
set_option maxRecDepth 100000 in
theorem m_isDone {l : Launch} {D : va_G} {cI cZ : ClassId} {sz : Nat} (Rf : Nat → Nat) (h : Nat) (G : Nat → Int32) (f0 : Nat → Int32) (c_ : Int32) (hF : S_m_isDone f0 c_) : KI l yX10_isDone cX10_isDone 2 (some .boolean) rm_m_isDone D cI cZ [.ref h, .int c_] sz [(h, .inr (10, ML G Rf)), ((Rf 0), .inl (cI, 1302, .inl f0))] (fun (r : Int32) (_ : Unit) => r = f_m_isDone f0 c_) (fun (_ : Unit) => [(h, .inr (10, ML G Rf)), ((Rf 0), .inl (cI, 1302, .inl f0))]) := by
  refine KI.go rfl (Nat.le_of_ble_eq_true rfl) ?_
  intro p e s m args below meth c ls A Q hx hb hml hts hown hin hP hK hD hS hA hN hl hret
  have hl : lv_has ls 2 [(0, .ref h), (1, .int c_)] := hl
  rw [S_m_isDone] at hF
  obtain ⟨RES, hE⟩ : ∃ xRES, f_m_isDone f0 c_ = xRES := ⟨_, rfl⟩
  rw [hE] at hret
  rw [f_m_isDone] at hE
  refine lv_aload_n hx hb dX10_isDone_0 rfl (lv_at hl 0 rfl) ?_
  refine va_get (D := D) (ci := 10) (v := .ref (Rf 0)) (C := RX10) (T := TX10) (N := 45) hx hb hts iX10 hown hK hP 0 rfl rfl 0 (Nat.le_of_ble_eq_true rfl) (hts _ wd_491) (fun _ h9 => h9) rfl dX10_isDone_1 ?_
  refine lv_bipush (v := 18) hx hb dX10_isDone_4 rfl ?_
  refine va_iald hx hb hK hP 1 0 rfl rfl (show ¬ ((18 : Int32) < 0 ∨ 1302 ≤ (18 : Int32).toNatClampNeg) by decide +kernel) dX10_isDone_6 ?_
  refine lv_iload_n hx hb dX10_isDone_7 rfl (lv_at hl 1 rfl) ?_
  obtain ⟨hs_1, hF⟩ := hF
  refine cSi (wr := [(h, .inr (10, ML G Rf)), ((Rf 0), .inl (cI, 1302, .inl f0))]) (rest := []) (m_has (f0 (18 : Int32).toNatClampNeg) c_ hs_1) okS_X10_has wd_502 hx hb hml hown hts hK hP hD hS hA hN hl.1 [] [0, 1] rfl rfl rfl rfl (of_decide_eq_true rfl) rfl (Nat.le_of_ble_eq_true rfl) (Nat.le_of_ble_eq_true rfl) (Nat.le_of_ble_eq_true rfl) (Nat.le_of_ble_eq_true rfl) (Nat.le_of_ble_eq_true rfl) dX10_isDone_8 (fun r_3 u_2 H locs hw_u_2 hP hD hS => ?_)
  replace hw_u_2 : r_3 = (f_m_has (f0 (18 : Int32).toNatClampNeg) c_) := hw_u_2
  rw [hw_u_2]
  clear hw_u_2
  have hP : va_P D classes [(h, .inr (10, ML G Rf)), ((Rf 0), .inl (cI, 1302, .inl f0))] H := hP
  have hD : va_D A [(h, .inr (10, ML G Rf)), ((Rf 0), .inl (cI, 1302, .inl f0))] := hD
  exact hret (f_m_has (f0 (18 : Int32).toNatClampNeg) c_) () _ _ _ _ dX10_isDone_11 (narrow_b01 (m_has01 _ _)) hE hP hD hS
noncomputable def f_m_feed (G : Nat → Int32) (f13 : Nat → Int32) (c_ : Int32) : Int32 × (Nat → Int32) × (Nat → Int32) := (if (f_m_in c_.toInt64 0 255) = 0 then ((-1000000002), G, f13) else (if (G 14) = 240 then ((-1000000004), G, f13) else (((G 14) + 1), (upd G 14 ((G 14) + 1)), (upd f13 ((G 14) : Int32).toNatClampNeg c_))))
def S_m_feed (G : Nat → Int32) (f13 : Nat → Int32) (c_ : Int32) : Prop := ((S_m_in c_.toInt64 0 255) ∧ (((f_m_in c_.toInt64 0 255) = 0 → True) ∧ (¬ (f_m_in c_.toInt64 0 255) = 0 → (((G 14) = 240 → True) ∧ (¬ (G 14) = 240 → (vp_in (G 14) 240 ∧ True))))))
def rm_m_feed : Room := { frames := 1, cells := 0, slots := 0, locals := 25 }
set_option maxHeartbeats 4000000 in
set_option maxRecDepth 100000 in
theorem m_feed {l : Launch} {D : va_G} {cI cZ : ClassId} {sz : Nat} (Rf : Nat → Nat) (h : Nat) (G : Nat → Int32) (f13 : Nat → Int32) (c_ : Int32) (hF : S_m_feed G f13 c_) : KI l yX10_feed cX10_feed 2 (some .int) rm_m_feed D cI cZ [.ref h, .int c_] sz [(h, .inr (10, ML G Rf)), ((Rf 13), .inl (cI, 240, .inl f13))] (fun (r : Int32) (u : (Nat → Int32) × (Nat → Int32)) => (r, u) = f_m_feed G f13 c_) (fun (u : (Nat → Int32) × (Nat → Int32)) => [(h, .inr (10, ML u.1 Rf)), ((Rf 13), .inl (cI, 240, .inl u.2))]) := by
  refine KI.go rfl (Nat.le_of_ble_eq_true rfl) ?_
  intro p e s m args below meth c ls A Q hx hb hml hts hown hin hP hK hD hS hA hN hl hret
  have hl : lv_has ls 2 [(0, .ref h), (1, .int c_)] := hl
  rw [S_m_feed] at hF
  obtain ⟨RES, hE⟩ : ∃ xRES, f_m_feed G f13 c_ = xRES := ⟨_, rfl⟩
  rw [hE] at hret
  rw [f_m_feed] at hE
  refine lv_iload_n hx hb dX10_feed_0 rfl (lv_at hl 1 rfl) ?_
  refine lv_i2l (v := c_.toInt64) hx hb dX10_feed_1 rfl ?_
  refine lv_lconst (v := 0) hx hb dX10_feed_2 rfl ?_
  refine lv_ldc2 (v := 255) hx hb hown (hts _ wd_505) dX10_feed_3 ?_
  obtain ⟨hs_1, hF⟩ := hF
  refine cSi (wr := [(h, .inr (10, ML G Rf)), ((Rf 13), .inl (cI, 240, .inl f13))]) (rest := []) (m_in c_.toInt64 0 255 hs_1) okS_X10_in wd_495 hx hb hml hown hts hK hP hD hS hA hN hl.1 [] [0, 1] rfl rfl rfl rfl (of_decide_eq_true rfl) rfl (Nat.le_of_ble_eq_true rfl) (Nat.le_of_ble_eq_true rfl) (Nat.le_of_ble_eq_true rfl) (Nat.le_of_ble_eq_true rfl) (Nat.le_of_ble_eq_true rfl) dX10_feed_6 (fun r_3 u_2 H locs hw_u_2 hP hD hS => ?_)
  replace hw_u_2 : r_3 = (f_m_in c_.toInt64 0 255) := hw_u_2
  rw [hw_u_2]
  clear hw_u_2
  have hP : va_P D classes [(h, .inr (10, ML G Rf)), ((Rf 13), .inl (cI, 240, .inl f13))] H := hP
  have hD : va_D A [(h, .inr (10, ML G Rf)), ((Rf 13), .inl (cI, 240, .inl f13))] := hD
  refine lv_if_ne (tgt := 15) hx hb dX10_feed_9 rfl (fun c_4 => ?_) (fun c_4 => ?_)
  · replace hF := hF.2 c_4
    rw [if_neg c_4] at hE
    refine lv_aload_n hx hb dX10_feed_15 rfl (lv_at hl 0 rfl) ?_
    refine va_get (D := D) (ci := 10) (v := .int (G 14)) (C := RX10) (T := TX10) (N := 45) hx hb hts iX10 hown hK hP 0 rfl rfl 14 (Nat.le_of_ble_eq_true rfl) (hts _ wd_492) (fun _ h9 => h9) rfl dX10_feed_16 ?_
    refine lv_sipush (v := 240) hx hb dX10_feed_19 rfl ?_
    refine lv_icmp_ne (tgt := 28) hx hb dX10_feed_22 rfl (fun c_5 => ?_) (fun c_5 => ?_)
    · replace hF := hF.2 c_5
      rw [if_neg c_5] at hE
      refine lv_aload_n hx hb dX10_feed_28 rfl (lv_at hl 0 rfl) ?_
      refine va_get (D := D) (ci := 10) (v := .ref (Rf 13)) (C := RX10) (T := TX10) (N := 45) hx hb hts iX10 hown hK hP 0 rfl rfl 13 (Nat.le_of_ble_eq_true rfl) (hts _ wd_493) (fun _ h9 => h9) rfl dX10_feed_29 ?_
      refine lv_aload_n hx hb dX10_feed_32 rfl (lv_at hl 0 rfl) ?_
      refine va_get (D := D) (ci := 10) (v := .int (G 14)) (C := RX10) (T := TX10) (N := 45) hx hb hts iX10 hown hK hP 0 rfl rfl 14 (Nat.le_of_ble_eq_true rfl) (hts _ wd_492) (fun _ h9 => h9) rfl dX10_feed_33 ?_
      refine lv_iload_n hx hb dX10_feed_36 rfl (lv_at hl 1 rfl) ?_
      obtain ⟨hv_6, hF⟩ := hF
      refine va_iast hx hb hK hP hD hS 1 0 rfl rfl hv_6 dX10_feed_37 (fun H locs hP hD hS => ?_)
      have hP : va_P D classes [(h, .inr (10, ML G Rf)), ((Rf 13), .inl (cI, 240, .inl (upd f13 ((G 14) : Int32).toNatClampNeg c_)))] H := hP
      have hD : va_D A [(h, .inr (10, ML G Rf)), ((Rf 13), .inl (cI, 240, .inl (upd f13 ((G 14) : Int32).toNatClampNeg c_)))] := hD
      refine lv_aload_n hx hb dX10_feed_38 rfl (lv_at hl 0 rfl) ?_
      refine lv_dup hx hb dX10_feed_39 rfl ?_
      refine va_get (D := D) (ci := 10) (v := .int (G 14)) (C := RX10) (T := TX10) (N := 45) hx hb hts iX10 hown hK hP 0 rfl rfl 14 (Nat.le_of_ble_eq_true rfl) (hts _ wd_492) (fun _ h9 => h9) rfl dX10_feed_40 ?_
      refine lv_iconst (v := 1) hx hb dX10_feed_43 rfl ?_
      refine lv_iadd hx hb dX10_feed_44 ?_
      refine va_put (D := D) (ci := 10) (v := .int ((G 14) + 1)) (ty := .int) (C := RX10) (T := TX10) (N := 45) hx hb hts iX10 tyX10 tyX10_ok nmX10 hown hK hP hD hS 0 rfl rfl 14 (Nat.le_of_ble_eq_true rfl) (hts _ wd_492) (fun _ h9 => h9) rfl (by decide +kernel) rfl rfl (Nat.le_of_ble_eq_true rfl) dX10_feed_45 (fun H locs hP hD hS => ?_)
      have hP : va_P D classes [(h, .inr (10, ML (upd G 14 ((G 14) + 1)) Rf)), ((Rf 13), .inl (cI, 240, .inl (upd f13 ((G 14) : Int32).toNatClampNeg c_)))] H := hP
      have hD : va_D A [(h, .inr (10, ML (upd G 14 ((G 14) + 1)) Rf)), ((Rf 13), .inl (cI, 240, .inl (upd f13 ((G 14) : Int32).toNatClampNeg c_)))] := hD
      refine lv_aload_n hx hb dX10_feed_48 rfl (lv_at hl 0 rfl) ?_
      refine va_get (D := D) (ci := 10) (v := .int ((G 14) + 1)) (C := RX10) (T := TX10) (N := 45) hx hb hts iX10 hown hK hP 0 rfl rfl 14 (Nat.le_of_ble_eq_true rfl) (hts _ wd_492) (fun _ h9 => h9) rfl dX10_feed_49 ?_
      exact hret ((G 14) + 1) ((upd G 14 ((G 14) + 1)), (upd f13 ((G 14) : Int32).toNatClampNeg c_)) _ _ _ _ dX10_feed_52 rfl hE hP hD hS
    · replace hF := hF.1 c_5
      rw [if_pos c_5] at hE
      refine lv_ldc (v := (-1000000004)) hx hb hown (hts _ wd_506) dX10_feed_25 ?_
      exact hret (-1000000004) (G, f13) _ _ _ _ dX10_feed_27 rfl hE hP hD hS
  · replace hF := hF.1 c_4
    rw [if_pos c_4] at hE
    refine lv_ldc (v := (-1000000002)) hx hb hown (hts _ wd_507) dX10_feed_12 ?_
    exact hret (-1000000002) (G, f13) _ _ _ _ dX10_feed_14 rfl hE hP hD hS
noncomputable def f_m_here_0 (f13 : Nat → Int32) (n : Nat) : (Nat → Int32) → (Nat → Int32) := Nat.rec (motive := fun _ => (Nat → Int32) → (Nat → Int32)) (fun w_1m0 => w_1m0) (fun n ih w_1m0 => (if (f_m_letterAt w_1m0 f13 (w_1m0 15)) = 32 then (ih (upd w_1m0 15 ((w_1m0 15) + 1))) else w_1m0)) n
theorem f_m_here_0_s (f13 : Nat → Int32) (n : Nat) (w_1m0 : (Nat → Int32)) : f_m_here_0 f13 (n + 1) w_1m0 = (if (f_m_letterAt w_1m0 f13 (w_1m0 15)) = 32 then (f_m_here_0 f13 n (upd w_1m0 15 ((w_1m0 15) + 1))) else w_1m0) := rfl
def S_m_here_0 (f13 : Nat → Int32) (K : (Nat → Int32) → Prop) (n : Nat) : (Nat → Int32) → Prop := Nat.rec (motive := fun _ => (Nat → Int32) → Prop) (fun _ => False) (fun n ih w_1m0 => ((S_m_letterAt w_1m0 f13 (w_1m0 15)) ∧ (((f_m_letterAt w_1m0 f13 (w_1m0 15)) = 32 → (ih (upd w_1m0 15 ((w_1m0 15) + 1)))) ∧ (¬ (f_m_letterAt w_1m0 f13 (w_1m0 15)) = 32 → (K w_1m0))))) n
theorem S_m_here_0_s (f13 : Nat → Int32) (K : (Nat → Int32) → Prop) (n : Nat) (w_1m0 : (Nat → Int32)) : S_m_here_0 f13 K (n + 1) w_1m0 = (((S_m_letterAt w_1m0 f13 (w_1m0 15)) ∧ (((f_m_letterAt w_1m0 f13 (w_1m0 15)) = 32 → (S_m_here_0 f13 K n (upd w_1m0 15 ((w_1m0 15) + 1)))) ∧ (¬ (f_m_letterAt w_1m0 f13 (w_1m0 15)) = 32 → (K w_1m0))))) := rfl
noncomputable def f_m_here (G : Nat → Int32) (f13 : Nat → Int32) : Int32 × (Nat → Int32) := (match ((f_m_here_0 f13 300 G) : (Nat → Int32)) with | w_1m0 => ((f_m_letterAt (upd w_1m0 16 (w_1m0 15)) f13 (w_1m0 15)), (upd w_1m0 16 (w_1m0 15))))
def S_m_here (G : Nat → Int32) (f13 : Nat → Int32) : Prop := (S_m_here_0 f13 (fun (w_1m0 : (Nat → Int32)) => ((S_m_letterAt (upd w_1m0 16 (w_1m0 15)) f13 (w_1m0 15)) ∧ True)) 300 G)
def rm_m_here : Room := { frames := 1, cells := 0, slots := 0, locals := 21 }
set_option maxHeartbeats 4000000 in
set_option maxRecDepth 100000 in
theorem m_here {l : Launch} {D : va_G} {cI cZ : ClassId} {sz : Nat} (Rf : Nat → Nat) (h : Nat) (G : Nat → Int32) (f13 : Nat → Int32) (hF : S_m_here G f13) : KI l yX10_here cX10_here 1 (some .int) rm_m_here D cI cZ [.ref h] sz [(h, .inr (10, ML G Rf)), ((Rf 13), .inl (cI, 240, .inl f13))] (fun (r : Int32) (u : (Nat → Int32)) => (r, u) = f_m_here G f13) (fun (u : (Nat → Int32)) => [(h, .inr (10, ML u Rf)), ((Rf 13), .inl (cI, 240, .inl f13))]) := by
  refine KI.go rfl (Nat.le_of_ble_eq_true rfl) ?_
  intro p e s m args below meth c ls A Q hx hb hml hts hown hin hP hK hD hS hA hN hl hret
  have hl : lv_has ls 1 [(0, .ref h)] := hl
  rw [S_m_here] at hF
  obtain ⟨RES, hE⟩ : ∃ xRES, f_m_here G f13 = xRES := ⟨_, rfl⟩
  rw [hE] at hret
  rw [f_m_here] at hE
  have ex_0_w_1 : ∀ (w_1m0 : (Nat → Int32)) (H : Heap) (locs : List Loc) (ls : Array Slot), va_P D classes [(h, .inr (10, ML w_1m0 Rf)), ((Rf 13), .inl (cI, 240, .inl f13))] H → va_D A [(h, .inr (10, ML w_1m0 Rf)), ((Rf 13), .inl (cI, 240, .inl f13))] → va_S A s.heap H locs → lv_has ls 1 [(0, .ref h)] → (((S_m_letterAt (upd w_1m0 16 (w_1m0 15)) f13 (w_1m0 15)) ∧ True)) → ((((f_m_letterAt (upd w_1m0 16 (w_1m0 15)) f13 (w_1m0 15)), (upd w_1m0 16 (w_1m0 15)))) : Int32 × (Nat → Int32)) = RES → W p l e rm_m_here s m args below meth c H locs 0 0 Q (F0 m 26 ls []) := by
    intro w_1m0 H locs ls hP hD hS hl hF hE
    refine lv_aload_n hx hb dX10_here_26 rfl (lv_at hl 0 rfl) ?_
    refine lv_aload_n hx hb dX10_here_27 rfl (lv_at hl 0 rfl) ?_
    refine va_get (D := D) (ci := 10) (v := .int (w_1m0 15)) (C := RX10) (T := TX10) (N := 45) hx hb hts iX10 hown hK hP 0 rfl rfl 15 (Nat.le_of_ble_eq_true rfl) (hts _ wd_508) (fun _ h9 => h9) rfl dX10_here_28 ?_
    refine va_put (D := D) (ci := 10) (v := .int (w_1m0 15)) (ty := .int) (C := RX10) (T := TX10) (N := 45) hx hb hts iX10 tyX10 tyX10_ok nmX10 hown hK hP hD hS 0 rfl rfl 16 (Nat.le_of_ble_eq_true rfl) (hts _ wd_509) (fun _ h9 => h9) rfl (by decide +kernel) rfl rfl (Nat.le_of_ble_eq_true rfl) dX10_here_31 (fun H locs hP hD hS => ?_)
    have hP : va_P D classes [(h, .inr (10, ML (upd w_1m0 16 (w_1m0 15)) Rf)), ((Rf 13), .inl (cI, 240, .inl f13))] H := hP
    have hD : va_D A [(h, .inr (10, ML (upd w_1m0 16 (w_1m0 15)) Rf)), ((Rf 13), .inl (cI, 240, .inl f13))] := hD
    refine lv_aload_n hx hb dX10_here_34 rfl (lv_at hl 0 rfl) ?_
    refine lv_aload_n hx hb dX10_here_35 rfl (lv_at hl 0 rfl) ?_
    refine va_get (D := D) (ci := 10) (v := .int (w_1m0 15)) (C := RX10) (T := TX10) (N := 45) hx hb hts iX10 hown hK hP 0 rfl rfl 15 (Nat.le_of_ble_eq_true rfl) (hts _ wd_508) (fun _ h9 => h9) rfl dX10_here_36 ?_
    obtain ⟨hs_2, hF⟩ := hF
    refine cVi (wr := []) (rest := []) (m_letterAt Rf h (upd w_1m0 16 (w_1m0 15)) f13 (w_1m0 15) hs_2) okV_X10_letterAt wd_510 hx hb hml hown hts hK hP hD hS hA hN hl.1 [0, 1] [] rfl rfl rfl rfl (of_decide_eq_true rfl) rfl rfl rfl (Nat.le_of_ble_eq_true rfl) (Nat.le_of_ble_eq_true rfl) (Nat.le_of_ble_eq_true rfl) (Nat.le_of_ble_eq_true rfl) (Nat.le_of_ble_eq_true rfl) dX10_here_39 (fun r_4 u_3 H locs hw_u_3 hP hD hS => ?_)
    replace hw_u_3 : r_4 = (f_m_letterAt (upd w_1m0 16 (w_1m0 15)) f13 (w_1m0 15)) := hw_u_3
    rw [hw_u_3]
    clear hw_u_3
    have hP : va_P D classes [(h, .inr (10, ML (upd w_1m0 16 (w_1m0 15)) Rf)), ((Rf 13), .inl (cI, 240, .inl f13))] H := hP
    have hD : va_D A [(h, .inr (10, ML (upd w_1m0 16 (w_1m0 15)) Rf)), ((Rf 13), .inl (cI, 240, .inl f13))] := hD
    exact hret (f_m_letterAt (upd w_1m0 16 (w_1m0 15)) f13 (w_1m0 15)) (upd w_1m0 16 (w_1m0 15)) _ _ _ _ dX10_here_42 rfl hE hP hD hS
  have lp_0_w_1 : ∀ (n_w_1 : Nat) (w_1m0 : (Nat → Int32)) (H : Heap) (locs : List Loc) (ls : Array Slot), va_P D classes [(h, .inr (10, ML w_1m0 Rf)), ((Rf 13), .inl (cI, 240, .inl f13))] H → va_D A [(h, .inr (10, ML w_1m0 Rf)), ((Rf 13), .inl (cI, 240, .inl f13))] → va_S A s.heap H locs → lv_has ls 1 [(0, .ref h)] → (S_m_here_0 f13 (fun (w_1m0 : (Nat → Int32)) => ((S_m_letterAt (upd w_1m0 16 (w_1m0 15)) f13 (w_1m0 15)) ∧ True)) n_w_1 w_1m0) → ((match ((f_m_here_0 f13 n_w_1 w_1m0) : (Nat → Int32)) with | w_1m0 => ((f_m_letterAt (upd w_1m0 16 (w_1m0 15)) f13 (w_1m0 15)), (upd w_1m0 16 (w_1m0 15)))) : Int32 × (Nat → Int32)) = RES → W p l e rm_m_here s m args below meth c H locs 0 0 Q (F0 m 0 ls []) := by
    intro n_w_1
    induction n_w_1 with
    | zero => intro w_1m0 H locs ls hP hD hS hl hF hE; exact False.elim hF
    | succ n_w_1 ih_w_1 =>
      intro w_1m0 H locs ls hP hD hS hl hF hE
      rw [S_m_here_0_s] at hF
      rw [f_m_here_0_s] at hE
      refine lv_aload_n hx hb dX10_here_0 rfl (lv_at hl 0 rfl) ?_
      refine lv_aload_n hx hb dX10_here_1 rfl (lv_at hl 0 rfl) ?_
      refine va_get (D := D) (ci := 10) (v := .int (w_1m0 15)) (C := RX10) (T := TX10) (N := 45) hx hb hts iX10 hown hK hP 0 rfl rfl 15 (Nat.le_of_ble_eq_true rfl) (hts _ wd_508) (fun _ h9 => h9) rfl dX10_here_2 ?_
      obtain ⟨hs_5, hF⟩ := hF
      refine cVi (wr := []) (rest := []) (m_letterAt Rf h w_1m0 f13 (w_1m0 15) hs_5) okV_X10_letterAt wd_510 hx hb hml hown hts hK hP hD hS hA hN hl.1 [0, 1] [] rfl rfl rfl rfl (of_decide_eq_true rfl) rfl rfl rfl (Nat.le_of_ble_eq_true rfl) (Nat.le_of_ble_eq_true rfl) (Nat.le_of_ble_eq_true rfl) (Nat.le_of_ble_eq_true rfl) (Nat.le_of_ble_eq_true rfl) dX10_here_5 (fun r_7 u_6 H locs hw_u_6 hP hD hS => ?_)
      replace hw_u_6 : r_7 = (f_m_letterAt w_1m0 f13 (w_1m0 15)) := hw_u_6
      rw [hw_u_6]
      clear hw_u_6
      have hP : va_P D classes [(h, .inr (10, ML w_1m0 Rf)), ((Rf 13), .inl (cI, 240, .inl f13))] H := hP
      have hD : va_D A [(h, .inr (10, ML w_1m0 Rf)), ((Rf 13), .inl (cI, 240, .inl f13))] := hD
      refine lv_bipush (v := 32) hx hb dX10_here_8 rfl ?_
      refine lv_icmp_ne (tgt := 26) hx hb dX10_here_10 rfl (fun c_8 => ?_) (fun c_8 => ?_)
      · replace hF := hF.2 c_8
        rw [if_neg c_8] at hE
        exact ex_0_w_1 w_1m0 _ _ ls hP hD hS (lv_sub hl [0] rfl) hF hE
      · replace hF := hF.1 c_8
        rw [if_pos c_8] at hE
        refine lv_aload_n hx hb dX10_here_13 rfl (lv_at hl 0 rfl) ?_
        refine lv_dup hx hb dX10_here_14 rfl ?_
        refine va_get (D := D) (ci := 10) (v := .int (w_1m0 15)) (C := RX10) (T := TX10) (N := 45) hx hb hts iX10 hown hK hP 0 rfl rfl 15 (Nat.le_of_ble_eq_true rfl) (hts _ wd_508) (fun _ h9 => h9) rfl dX10_here_15 ?_
        refine lv_iconst (v := 1) hx hb dX10_here_18 rfl ?_
        refine lv_iadd hx hb dX10_here_19 ?_
        refine va_put (D := D) (ci := 10) (v := .int ((w_1m0 15) + 1)) (ty := .int) (C := RX10) (T := TX10) (N := 45) hx hb hts iX10 tyX10 tyX10_ok nmX10 hown hK hP hD hS 0 rfl rfl 15 (Nat.le_of_ble_eq_true rfl) (hts _ wd_508) (fun _ h9 => h9) rfl (by decide +kernel) rfl rfl (Nat.le_of_ble_eq_true rfl) dX10_here_20 (fun H locs hP hD hS => ?_)
        have hP : va_P D classes [(h, .inr (10, ML (upd w_1m0 15 ((w_1m0 15) + 1)) Rf)), ((Rf 13), .inl (cI, 240, .inl f13))] H := hP
        have hD : va_D A [(h, .inr (10, ML (upd w_1m0 15 ((w_1m0 15) + 1)) Rf)), ((Rf 13), .inl (cI, 240, .inl f13))] := hD
        refine lv_goto (tgt := 0) hx hb dX10_here_23 rfl ?_
        exact ih_w_1 (upd w_1m0 15 ((w_1m0 15) + 1)) _ _ ls hP hD hS (lv_sub hl [0] rfl) hF hE
  exact lp_0_w_1 300 G _ _ ls hP hD hS hl hF hE
noncomputable def f_m_fails (G : Nat → Int32) (k_ : Int32) (p_ : Int32) : Int32 × (Nat → Int32) := (0, (upd (upd G 18 k_) 19 p_))
def S_m_fails (G : Nat → Int32) (k_ : Int32) (p_ : Int32) : Prop := True
def rm_m_fails : Room := { frames := 0, cells := 0, slots := 0, locals := 0 }
set_option maxHeartbeats 4000000 in
set_option maxRecDepth 100000 in
theorem m_fails {l : Launch} {D : va_G} {cI cZ : ClassId} {sz : Nat} (Rf : Nat → Nat) (h : Nat) (G : Nat → Int32) (k_ : Int32) (p_ : Int32) (hF : S_m_fails G k_ p_) : KI l yX10_fails cX10_fails 3 (some .boolean) rm_m_fails D cI cZ [.ref h, .int k_, .int p_] sz [(h, .inr (10, ML G Rf))] (fun (r : Int32) (u : (Nat → Int32)) => (r, u) = f_m_fails G k_ p_) (fun (u : (Nat → Int32)) => [(h, .inr (10, ML u Rf))]) := by
  refine KI.go rfl (Nat.le_of_ble_eq_true rfl) ?_
  intro p e s m args below meth c ls A Q hx hb hml hts hown hin hP hK hD hS hA hN hl hret
  have hl : lv_has ls 3 [(0, .ref h), (1, .int k_), (2, .int p_)] := hl
  rw [S_m_fails] at hF
  obtain ⟨RES, hE⟩ : ∃ xRES, f_m_fails G k_ p_ = xRES := ⟨_, rfl⟩
  rw [hE] at hret
  rw [f_m_fails] at hE
  refine lv_aload_n hx hb dX10_fails_0 rfl (lv_at hl 0 rfl) ?_
  refine lv_iload_n hx hb dX10_fails_1 rfl (lv_at hl 1 rfl) ?_
  refine va_put (D := D) (ci := 10) (v := .int k_) (ty := .int) (C := RX10) (T := TX10) (N := 45) hx hb hts iX10 tyX10 tyX10_ok nmX10 hown hK hP hD hS 0 rfl rfl 18 (Nat.le_of_ble_eq_true rfl) (hts _ wd_514) (fun _ h9 => h9) rfl (by decide +kernel) rfl rfl (Nat.le_of_ble_eq_true rfl) dX10_fails_2 (fun H locs hP hD hS => ?_)
  have hP : va_P D classes [(h, .inr (10, ML (upd G 18 k_) Rf))] H := hP
  have hD : va_D A [(h, .inr (10, ML (upd G 18 k_) Rf))] := hD
  refine lv_aload_n hx hb dX10_fails_5 rfl (lv_at hl 0 rfl) ?_
  refine lv_iload_n hx hb dX10_fails_6 rfl (lv_at hl 2 rfl) ?_
  refine va_put (D := D) (ci := 10) (v := .int p_) (ty := .int) (C := RX10) (T := TX10) (N := 45) hx hb hts iX10 tyX10 tyX10_ok nmX10 hown hK hP hD hS 0 rfl rfl 19 (Nat.le_of_ble_eq_true rfl) (hts _ wd_515) (fun _ h9 => h9) rfl (by decide +kernel) rfl rfl (Nat.le_of_ble_eq_true rfl) dX10_fails_7 (fun H locs hP hD hS => ?_)
  have hP : va_P D classes [(h, .inr (10, ML (upd (upd G 18 k_) 19 p_) Rf))] H := hP
  have hD : va_D A [(h, .inr (10, ML (upd (upd G 18 k_) 19 p_) Rf))] := hD
  refine lv_iconst (v := 0) hx hb dX10_fails_10 rfl ?_
  exact hret 0 (upd (upd G 18 k_) 19 p_) _ _ _ _ dX10_fails_11 rfl hE hP hD hS
noncomputable def f_m_takes (G : Nat → Int32) (f13 : Nat → Int32) (c_ : Int32) : Int32 × (Nat → Int32) := (match (f_m_here G f13) with | (r_3, u_2) => (if r_3 = c_ then (1, (upd u_2 15 ((u_2 15) + 1))) else (match (f_m_fails u_2 1 (u_2 16)) with | (r_7, u_6) => (r_7, u_6))))
def S_m_takes (G : Nat → Int32) (f13 : Nat → Int32) (c_ : Int32) : Prop := ((S_m_here G f13) ∧ (∀ (r_3 : Int32) (u_2 : (Nat → Int32)), (r_3, u_2) = (f_m_here G f13) → ((r_3 = c_ → True) ∧ (¬ r_3 = c_ → ((S_m_fails u_2 1 (u_2 16)) ∧ (∀ (r_7 : Int32) (u_6 : (Nat → Int32)), (r_7, u_6) = (f_m_fails u_2 1 (u_2 16)) → True))))))
def rm_m_takes : Room := { frames := 2, cells := 0, slots := 0, locals := 41 }
set_option maxHeartbeats 4000000 in
set_option maxRecDepth 100000 in
theorem m_takes {l : Launch} {D : va_G} {cI cZ : ClassId} {sz : Nat} (Rf : Nat → Nat) (h : Nat) (G : Nat → Int32) (f13 : Nat → Int32) (c_ : Int32) (hF : S_m_takes G f13 c_) : KI l yX10_takes cX10_takes 2 (some .boolean) rm_m_takes D cI cZ [.ref h, .int c_] sz [(h, .inr (10, ML G Rf)), ((Rf 13), .inl (cI, 240, .inl f13))] (fun (r : Int32) (u : (Nat → Int32)) => (r, u) = f_m_takes G f13 c_) (fun (u : (Nat → Int32)) => [(h, .inr (10, ML u Rf)), ((Rf 13), .inl (cI, 240, .inl f13))]) := by
  refine KI.go rfl (Nat.le_of_ble_eq_true rfl) ?_
  intro p e s m args below meth c ls A Q hx hb hml hts hown hin hP hK hD hS hA hN hl hret
  have hl : lv_has ls 2 [(0, .ref h), (1, .int c_)] := hl
  rw [S_m_takes] at hF
  obtain ⟨RES, hE⟩ : ∃ xRES, f_m_takes G f13 c_ = xRES := ⟨_, rfl⟩
  rw [hE] at hret
  rw [f_m_takes] at hE
  refine lv_aload_n hx hb dX10_takes_0 rfl (lv_at hl 0 rfl) ?_
  obtain ⟨hs_1, hF⟩ := hF
  refine cVi (wr := []) (rest := []) (m_here Rf h G f13 hs_1) okV_X10_here wd_516 hx hb hml hown hts hK hP hD hS hA hN hl.1 [0, 1] [] rfl rfl rfl rfl (of_decide_eq_true rfl) rfl rfl rfl (Nat.le_of_ble_eq_true rfl) (Nat.le_of_ble_eq_true rfl) (Nat.le_of_ble_eq_true rfl) (Nat.le_of_ble_eq_true rfl) (Nat.le_of_ble_eq_true rfl) dX10_takes_1 (fun r_3 u_2 H locs hw_u_2 hP hD hS => ?_)
  replace hw_u_2 : (r_3, u_2) = (f_m_here G f13) := hw_u_2
  replace hF := hF r_3 u_2 hw_u_2
  rw [← hw_u_2] at hE
  replace hE : ((if r_3 = c_ then (1, (upd u_2 15 ((u_2 15) + 1))) else (match (f_m_fails u_2 1 (u_2 16)) with | (r_7, u_6) => (r_7, u_6))) : Int32 × (Nat → Int32)) = RES := hE
  have hP : va_P D classes [(h, .inr (10, ML u_2 Rf)), ((Rf 13), .inl (cI, 240, .inl f13))] H := hP
  have hD : va_D A [(h, .inr (10, ML u_2 Rf)), ((Rf 13), .inl (cI, 240, .inl f13))] := hD
  refine lv_iload_n hx hb dX10_takes_4 rfl (lv_at hl 1 rfl) ?_
  refine lv_icmp_eq (tgt := 18) hx hb dX10_takes_5 rfl (fun c_4 => ?_) (fun c_4 => ?_)
  · replace hF := hF.1 c_4
    rw [if_pos c_4] at hE
    refine lv_aload_n hx hb dX10_takes_18 rfl (lv_at hl 0 rfl) ?_
    refine lv_dup hx hb dX10_takes_19 rfl ?_
    refine va_get (D := D) (ci := 10) (v := .int (u_2 15)) (C := RX10) (T := TX10) (N := 45) hx hb hts iX10 hown hK hP 0 rfl rfl 15 (Nat.le_of_ble_eq_true rfl) (hts _ wd_508) (fun _ h9 => h9) rfl dX10_takes_20 ?_
    refine lv_iconst (v := 1) hx hb dX10_takes_23 rfl ?_
    refine lv_iadd hx hb dX10_takes_24 ?_
    refine va_put (D := D) (ci := 10) (v := .int ((u_2 15) + 1)) (ty := .int) (C := RX10) (T := TX10) (N := 45) hx hb hts iX10 tyX10 tyX10_ok nmX10 hown hK hP hD hS 0 rfl rfl 15 (Nat.le_of_ble_eq_true rfl) (hts _ wd_508) (fun _ h9 => h9) rfl (by decide +kernel) rfl rfl (Nat.le_of_ble_eq_true rfl) dX10_takes_25 (fun H locs hP hD hS => ?_)
    have hP : va_P D classes [(h, .inr (10, ML (upd u_2 15 ((u_2 15) + 1)) Rf)), ((Rf 13), .inl (cI, 240, .inl f13))] H := hP
    have hD : va_D A [(h, .inr (10, ML (upd u_2 15 ((u_2 15) + 1)) Rf)), ((Rf 13), .inl (cI, 240, .inl f13))] := hD
    refine lv_iconst (v := 1) hx hb dX10_takes_28 rfl ?_
    exact hret 1 (upd u_2 15 ((u_2 15) + 1)) _ _ _ _ dX10_takes_29 rfl hE hP hD hS
  · replace hF := hF.2 c_4
    rw [if_neg c_4] at hE
    refine lv_aload_n hx hb dX10_takes_8 rfl (lv_at hl 0 rfl) ?_
    refine lv_iconst (v := 1) hx hb dX10_takes_9 rfl ?_
    refine lv_aload_n hx hb dX10_takes_10 rfl (lv_at hl 0 rfl) ?_
    refine va_get (D := D) (ci := 10) (v := .int (u_2 16)) (C := RX10) (T := TX10) (N := 45) hx hb hts iX10 hown hK hP 0 rfl rfl 16 (Nat.le_of_ble_eq_true rfl) (hts _ wd_509) (fun _ h9 => h9) rfl dX10_takes_11 ?_
    obtain ⟨hs_5, hF⟩ := hF
    refine cVi (wr := [((Rf 13), .inl (cI, 240, .inl f13))]) (rest := []) (m_fails Rf h u_2 1 (u_2 16) hs_5) okV_X10_fails wd_520 hx hb hml hown hts hK hP hD hS hA hN hl.1 [0] [1] rfl rfl rfl rfl (of_decide_eq_true rfl) rfl rfl rfl (Nat.le_of_ble_eq_true rfl) (Nat.le_of_ble_eq_true rfl) (Nat.le_of_ble_eq_true rfl) (Nat.le_of_ble_eq_true rfl) (Nat.le_of_ble_eq_true rfl) dX10_takes_14 (fun r_7 u_6 H locs hw_u_6 hP hD hS => ?_)
    replace hw_u_6 : (r_7, u_6) = (f_m_fails u_2 1 (u_2 16)) := hw_u_6
    replace hF := hF r_7 u_6 hw_u_6
    rw [← hw_u_6] at hE
    replace hE : ((r_7, u_6) : Int32 × (Nat → Int32)) = RES := hE
    have hP : va_P D classes [((Rf 13), .inl (cI, 240, .inl f13)), (h, .inr (10, ML u_6 Rf))] H := hP
    have hD : va_D A [((Rf 13), .inl (cI, 240, .inl f13)), (h, .inr (10, ML u_6 Rf))] := hD
    exact hret r_7 u_6 _ _ _ _ dX10_takes_17 (narrow_b01 (Or.inl (congrArg Prod.fst hw_u_6))) hE (cutP (isC := [1, 0]) hP rfl) (cutD (isC := [1, 0]) hD rfl rfl) hS
end
section
def fw_cX10_takesNumber : List (List Nat) := [[42, 182, 0, 111, 133, 20, 0, 119, 20, 0, 121, 184, 0, 84, 154, 0, 13, 42], [13, 42, 4, 42, 180, 0, 105, 182, 0, 115, 172, 42, 3, 181, 0, 123, 42, 42], [42, 42, 180, 0, 98, 182, 0, 101, 133, 20, 0, 119, 20, 0, 121, 184, 0, 84], [0, 84, 153, 0, 59, 42, 42, 180, 0, 98, 42, 180, 0, 105, 100, 6, 162, 0], [162, 0, 25, 16, 10, 42, 180, 0, 123, 104, 42, 42, 180, 0, 98, 182, 0, 101], [0, 101, 96, 16, 48, 100, 167, 0, 7, 42, 180, 0, 123, 181, 0, 123, 42, 89], [42, 89, 180, 0, 98, 4, 96, 181, 0, 98, 167, 255, 182, 42, 180, 0, 98, 42], [98, 42, 180, 0, 105, 100, 7, 162, 0, 18, 42, 180, 0, 123, 133, 27, 133, 28], [133, 28, 133, 184, 0, 84, 154, 0, 15, 42, 5, 42, 180, 0, 105, 182, 0, 115], [0, 115, 153, 0, 7, 4, 167, 0, 4, 3, 172]]
theorem fW_cX10_takesNumber : fq_wins 10 cX10_takesNumber.data.toList = fw_cX10_takesNumber := by decide +kernel
theorem fk_cX10_takesNumber_0 : fq_ck cX10_takesNumber 0 [42, 182, 0, 111, 133, 20, 0, 119, 20, 0, 121, 184, 0, 84, 154, 0, 13, 42] := fq_of fW_cX10_takesNumber 0 rfl rfl
theorem dX10_takesNumber_0 : decode cX10_takesNumber 0 = .ok (.aload_n 0, 1) := fq_42 fk_cX10_takesNumber_0 0 rfl rfl
theorem dX10_takesNumber_1 : decode cX10_takesNumber 1 = .ok (.invokevirtual 111, 3) := fq_182 fk_cX10_takesNumber_0 1 rfl rfl rfl rfl rfl
theorem dX10_takesNumber_4 : decode cX10_takesNumber 4 = .ok (.i2l, 1) := fq_133 fk_cX10_takesNumber_0 4 rfl rfl
theorem wd_524 : Cond.constantLong RX10 119 (48) ∈ BG := BG_at4 238 (by decide +kernel) rfl
theorem dX10_takesNumber_5 : decode cX10_takesNumber 5 = .ok (.ldc2_w 119, 3) := fq_20 fk_cX10_takesNumber_0 5 rfl rfl rfl rfl rfl
theorem wd_525 : Cond.constantLong RX10 121 (57) ∈ BG := BG_at4 239 (by decide +kernel) rfl
theorem dX10_takesNumber_8 : decode cX10_takesNumber 8 = .ok (.ldc2_w 121, 3) := fq_20 fk_cX10_takesNumber_0 8 rfl rfl rfl rfl rfl
theorem dX10_takesNumber_11 : decode cX10_takesNumber 11 = .ok (.invokestatic 84, 3) := fq_184 fk_cX10_takesNumber_0 11 rfl rfl rfl rfl rfl
theorem dX10_takesNumber_14 : decode cX10_takesNumber 14 = .ok (.ifCond .ne 13, 3) := fq_154 fk_cX10_takesNumber_0 14 rfl rfl rfl rfl rfl
theorem fk_cX10_takesNumber_1 : fq_ck cX10_takesNumber 16 [13, 42, 4, 42, 180, 0, 105, 182, 0, 115, 172, 42, 3, 181, 0, 123, 42, 42] := fq_of fW_cX10_takesNumber 1 rfl rfl
theorem dX10_takesNumber_27 : decode cX10_takesNumber 27 = .ok (.aload_n 0, 1) := fq_42 fk_cX10_takesNumber_1 11 rfl rfl
theorem dX10_takesNumber_28 : decode cX10_takesNumber 28 = .ok (.iconst 0, 1) := fq_3 fk_cX10_takesNumber_1 12 rfl rfl
theorem wd_526 : Cond.fieldLink RX10 123 "QuarrelBridgesModel" "number" "I" ∈ BG := BG_at4 80 (by decide +kernel) rfl
theorem dX10_takesNumber_29 : decode cX10_takesNumber 29 = .ok (.putfield 123, 3) := fq_181 fk_cX10_takesNumber_1 13 rfl rfl rfl rfl rfl
theorem fk_cX10_takesNumber_6 : fq_ck cX10_takesNumber 96 [42, 89, 180, 0, 98, 4, 96, 181, 0, 98, 167, 255, 182, 42, 180, 0, 98, 42] := fq_of fW_cX10_takesNumber 6 rfl rfl
theorem dX10_takesNumber_109 : decode cX10_takesNumber 109 = .ok (.aload_n 0, 1) := fq_42 fk_cX10_takesNumber_6 13 rfl rfl
theorem dX10_takesNumber_110 : decode cX10_takesNumber 110 = .ok (.getfield 98, 3) := fq_180 fk_cX10_takesNumber_6 14 rfl rfl rfl rfl rfl
theorem fk_cX10_takesNumber_7 : fq_ck cX10_takesNumber 112 [98, 42, 180, 0, 105, 100, 7, 162, 0, 18, 42, 180, 0, 123, 133, 27, 133, 28] := fq_of fW_cX10_takesNumber 7 rfl rfl
theorem dX10_takesNumber_113 : decode cX10_takesNumber 113 = .ok (.aload_n 0, 1) := fq_42 fk_cX10_takesNumber_7 1 rfl rfl
theorem dX10_takesNumber_114 : decode cX10_takesNumber 114 = .ok (.getfield 105, 3) := fq_180 fk_cX10_takesNumber_7 2 rfl rfl rfl rfl rfl
theorem dX10_takesNumber_117 : decode cX10_takesNumber 117 = .ok (.isub, 1) := fq_100 fk_cX10_takesNumber_7 5 rfl rfl
theorem dX10_takesNumber_118 : decode cX10_takesNumber 118 = .ok (.iconst 4, 1) := fq_7 fk_cX10_takesNumber_7 6 rfl rfl
theorem dX10_takesNumber_119 : decode cX10_takesNumber 119 = .ok (.if_icmp .ge 18, 3) := fq_162 fk_cX10_takesNumber_7 7 rfl rfl rfl rfl rfl
theorem fk_cX10_takesNumber_8 : fq_ck cX10_takesNumber 128 [133, 28, 133, 184, 0, 84, 154, 0, 15, 42, 5, 42, 180, 0, 105, 182, 0, 115] := fq_of fW_cX10_takesNumber 8 rfl rfl
theorem dX10_takesNumber_137 : decode cX10_takesNumber 137 = .ok (.aload_n 0, 1) := fq_42 fk_cX10_takesNumber_8 9 rfl rfl
theorem dX10_takesNumber_138 : decode cX10_takesNumber 138 = .ok (.iconst 2, 1) := fq_5 fk_cX10_takesNumber_8 10 rfl rfl
theorem dX10_takesNumber_139 : decode cX10_takesNumber 139 = .ok (.aload_n 0, 1) := fq_42 fk_cX10_takesNumber_8 11 rfl rfl
theorem dX10_takesNumber_140 : decode cX10_takesNumber 140 = .ok (.getfield 105, 3) := fq_180 fk_cX10_takesNumber_8 12 rfl rfl rfl rfl rfl
theorem dX10_takesNumber_143 : decode cX10_takesNumber 143 = .ok (.invokevirtual 115, 3) := fq_182 fk_cX10_takesNumber_8 15 rfl rfl rfl rfl rfl
theorem fk_cX10_takesNumber_9 : fq_ck cX10_takesNumber 144 [0, 115, 153, 0, 7, 4, 167, 0, 4, 3, 172] := fq_of fW_cX10_takesNumber 9 rfl rfl
theorem dX10_takesNumber_146 : decode cX10_takesNumber 146 = .ok (.ifCond .eq 7, 3) := fq_153 fk_cX10_takesNumber_9 2 rfl rfl rfl rfl rfl
theorem dX10_takesNumber_153 : decode cX10_takesNumber 153 = .ok (.iconst 0, 1) := fq_3 fk_cX10_takesNumber_9 9 rfl rfl
theorem dX10_takesNumber_154 : decode cX10_takesNumber 154 = .ok (.ireturn, 1) := fq_172 fk_cX10_takesNumber_9 10 rfl rfl
theorem dX10_takesNumber_149 : decode cX10_takesNumber 149 = .ok (.iconst 1, 1) := fq_4 fk_cX10_takesNumber_9 5 rfl rfl
theorem dX10_takesNumber_150 : decode cX10_takesNumber 150 = .ok (.goto 4, 3) := fq_167 fk_cX10_takesNumber_9 6 rfl rfl rfl rfl rfl
theorem dX10_takesNumber_122 : decode cX10_takesNumber 122 = .ok (.aload_n 0, 1) := fq_42 fk_cX10_takesNumber_7 10 rfl rfl
theorem dX10_takesNumber_123 : decode cX10_takesNumber 123 = .ok (.getfield 123, 3) := fq_180 fk_cX10_takesNumber_7 11 rfl rfl rfl rfl rfl
theorem dX10_takesNumber_126 : decode cX10_takesNumber 126 = .ok (.i2l, 1) := fq_133 fk_cX10_takesNumber_7 14 rfl rfl
theorem dX10_takesNumber_127 : decode cX10_takesNumber 127 = .ok (.iload_n 1, 1) := fq_27 fk_cX10_takesNumber_7 15 rfl rfl
theorem dX10_takesNumber_128 : decode cX10_takesNumber 128 = .ok (.i2l, 1) := fq_133 fk_cX10_takesNumber_8 0 rfl rfl
theorem dX10_takesNumber_129 : decode cX10_takesNumber 129 = .ok (.iload_n 2, 1) := fq_28 fk_cX10_takesNumber_8 1 rfl rfl
theorem dX10_takesNumber_130 : decode cX10_takesNumber 130 = .ok (.i2l, 1) := fq_133 fk_cX10_takesNumber_8 2 rfl rfl
theorem dX10_takesNumber_131 : decode cX10_takesNumber 131 = .ok (.invokestatic 84, 3) := fq_184 fk_cX10_takesNumber_8 3 rfl rfl rfl rfl rfl
theorem dX10_takesNumber_134 : decode cX10_takesNumber 134 = .ok (.ifCond .ne 15, 3) := fq_154 fk_cX10_takesNumber_8 6 rfl rfl rfl rfl rfl
theorem fk_cX10_takesNumber_2 : fq_ck cX10_takesNumber 32 [42, 42, 180, 0, 98, 182, 0, 101, 133, 20, 0, 119, 20, 0, 121, 184, 0, 84] := fq_of fW_cX10_takesNumber 2 rfl rfl
theorem dX10_takesNumber_32 : decode cX10_takesNumber 32 = .ok (.aload_n 0, 1) := fq_42 fk_cX10_takesNumber_2 0 rfl rfl
theorem dX10_takesNumber_33 : decode cX10_takesNumber 33 = .ok (.aload_n 0, 1) := fq_42 fk_cX10_takesNumber_2 1 rfl rfl
theorem dX10_takesNumber_34 : decode cX10_takesNumber 34 = .ok (.getfield 98, 3) := fq_180 fk_cX10_takesNumber_2 2 rfl rfl rfl rfl rfl
theorem dX10_takesNumber_37 : decode cX10_takesNumber 37 = .ok (.invokevirtual 101, 3) := fq_182 fk_cX10_takesNumber_2 5 rfl rfl rfl rfl rfl
theorem dX10_takesNumber_40 : decode cX10_takesNumber 40 = .ok (.i2l, 1) := fq_133 fk_cX10_takesNumber_2 8 rfl rfl
theorem dX10_takesNumber_41 : decode cX10_takesNumber 41 = .ok (.ldc2_w 119, 3) := fq_20 fk_cX10_takesNumber_2 9 rfl rfl rfl rfl rfl
theorem dX10_takesNumber_44 : decode cX10_takesNumber 44 = .ok (.ldc2_w 121, 3) := fq_20 fk_cX10_takesNumber_2 12 rfl rfl rfl rfl rfl
theorem dX10_takesNumber_47 : decode cX10_takesNumber 47 = .ok (.invokestatic 84, 3) := fq_184 fk_cX10_takesNumber_2 15 rfl rfl rfl rfl rfl
theorem fk_cX10_takesNumber_3 : fq_ck cX10_takesNumber 48 [0, 84, 153, 0, 59, 42, 42, 180, 0, 98, 42, 180, 0, 105, 100, 6, 162, 0] := fq_of fW_cX10_takesNumber 3 rfl rfl
theorem dX10_takesNumber_50 : decode cX10_takesNumber 50 = .ok (.ifCond .eq 59, 3) := fq_153 fk_cX10_takesNumber_3 2 rfl rfl rfl rfl rfl
theorem dX10_takesNumber_53 : decode cX10_takesNumber 53 = .ok (.aload_n 0, 1) := fq_42 fk_cX10_takesNumber_3 5 rfl rfl
theorem dX10_takesNumber_54 : decode cX10_takesNumber 54 = .ok (.aload_n 0, 1) := fq_42 fk_cX10_takesNumber_3 6 rfl rfl
theorem dX10_takesNumber_55 : decode cX10_takesNumber 55 = .ok (.getfield 98, 3) := fq_180 fk_cX10_takesNumber_3 7 rfl rfl rfl rfl rfl
theorem dX10_takesNumber_58 : decode cX10_takesNumber 58 = .ok (.aload_n 0, 1) := fq_42 fk_cX10_takesNumber_3 10 rfl rfl
theorem dX10_takesNumber_59 : decode cX10_takesNumber 59 = .ok (.getfield 105, 3) := fq_180 fk_cX10_takesNumber_3 11 rfl rfl rfl rfl rfl
theorem dX10_takesNumber_62 : decode cX10_takesNumber 62 = .ok (.isub, 1) := fq_100 fk_cX10_takesNumber_3 14 rfl rfl
theorem dX10_takesNumber_63 : decode cX10_takesNumber 63 = .ok (.iconst 3, 1) := fq_6 fk_cX10_takesNumber_3 15 rfl rfl
theorem fk_cX10_takesNumber_4 : fq_ck cX10_takesNumber 64 [162, 0, 25, 16, 10, 42, 180, 0, 123, 104, 42, 42, 180, 0, 98, 182, 0, 101] := fq_of fW_cX10_takesNumber 4 rfl rfl
theorem dX10_takesNumber_64 : decode cX10_takesNumber 64 = .ok (.if_icmp .ge 25, 3) := fq_162 fk_cX10_takesNumber_4 0 rfl rfl rfl rfl rfl
theorem fk_cX10_takesNumber_5 : fq_ck cX10_takesNumber 80 [0, 101, 96, 16, 48, 100, 167, 0, 7, 42, 180, 0, 123, 181, 0, 123, 42, 89] := fq_of fW_cX10_takesNumber 5 rfl rfl
theorem dX10_takesNumber_89 : decode cX10_takesNumber 89 = .ok (.aload_n 0, 1) := fq_42 fk_cX10_takesNumber_5 9 rfl rfl
theorem dX10_takesNumber_90 : decode cX10_takesNumber 90 = .ok (.getfield 123, 3) := fq_180 fk_cX10_takesNumber_5 10 rfl rfl rfl rfl rfl
theorem dX10_takesNumber_93 : decode cX10_takesNumber 93 = .ok (.putfield 123, 3) := fq_181 fk_cX10_takesNumber_5 13 rfl rfl rfl rfl rfl
theorem dX10_takesNumber_96 : decode cX10_takesNumber 96 = .ok (.aload_n 0, 1) := fq_42 fk_cX10_takesNumber_6 0 rfl rfl
theorem dX10_takesNumber_97 : decode cX10_takesNumber 97 = .ok (.dup, 1) := fq_89 fk_cX10_takesNumber_6 1 rfl rfl
theorem dX10_takesNumber_98 : decode cX10_takesNumber 98 = .ok (.getfield 98, 3) := fq_180 fk_cX10_takesNumber_6 2 rfl rfl rfl rfl rfl
theorem dX10_takesNumber_101 : decode cX10_takesNumber 101 = .ok (.iconst 1, 1) := fq_4 fk_cX10_takesNumber_6 5 rfl rfl
theorem dX10_takesNumber_102 : decode cX10_takesNumber 102 = .ok (.iadd, 1) := fq_96 fk_cX10_takesNumber_6 6 rfl rfl
theorem dX10_takesNumber_103 : decode cX10_takesNumber 103 = .ok (.putfield 98, 3) := fq_181 fk_cX10_takesNumber_6 7 rfl rfl rfl rfl rfl
theorem dX10_takesNumber_106 : decode cX10_takesNumber 106 = .ok (.goto (-74), 3) := fq_167 fk_cX10_takesNumber_6 10 rfl rfl rfl rfl rfl
theorem dX10_takesNumber_67 : decode cX10_takesNumber 67 = .ok (.bipush 10, 2) := fq_16 fk_cX10_takesNumber_4 3 rfl rfl rfl rfl
theorem dX10_takesNumber_69 : decode cX10_takesNumber 69 = .ok (.aload_n 0, 1) := fq_42 fk_cX10_takesNumber_4 5 rfl rfl
theorem dX10_takesNumber_70 : decode cX10_takesNumber 70 = .ok (.getfield 123, 3) := fq_180 fk_cX10_takesNumber_4 6 rfl rfl rfl rfl rfl
theorem dX10_takesNumber_73 : decode cX10_takesNumber 73 = .ok (.imul, 1) := fq_104 fk_cX10_takesNumber_4 9 rfl rfl
theorem dX10_takesNumber_74 : decode cX10_takesNumber 74 = .ok (.aload_n 0, 1) := fq_42 fk_cX10_takesNumber_4 10 rfl rfl
theorem dX10_takesNumber_75 : decode cX10_takesNumber 75 = .ok (.aload_n 0, 1) := fq_42 fk_cX10_takesNumber_4 11 rfl rfl
theorem dX10_takesNumber_76 : decode cX10_takesNumber 76 = .ok (.getfield 98, 3) := fq_180 fk_cX10_takesNumber_4 12 rfl rfl rfl rfl rfl
theorem dX10_takesNumber_79 : decode cX10_takesNumber 79 = .ok (.invokevirtual 101, 3) := fq_182 fk_cX10_takesNumber_4 15 rfl rfl rfl rfl rfl
theorem dX10_takesNumber_82 : decode cX10_takesNumber 82 = .ok (.iadd, 1) := fq_96 fk_cX10_takesNumber_5 2 rfl rfl
theorem dX10_takesNumber_83 : decode cX10_takesNumber 83 = .ok (.bipush 48, 2) := fq_16 fk_cX10_takesNumber_5 3 rfl rfl rfl rfl
theorem dX10_takesNumber_85 : decode cX10_takesNumber 85 = .ok (.isub, 1) := fq_100 fk_cX10_takesNumber_5 5 rfl rfl
theorem dX10_takesNumber_86 : decode cX10_takesNumber 86 = .ok (.goto 7, 3) := fq_167 fk_cX10_takesNumber_5 6 rfl rfl rfl rfl rfl
theorem dX10_takesNumber_17 : decode cX10_takesNumber 17 = .ok (.aload_n 0, 1) := fq_42 fk_cX10_takesNumber_1 1 rfl rfl
theorem dX10_takesNumber_18 : decode cX10_takesNumber 18 = .ok (.iconst 1, 1) := fq_4 fk_cX10_takesNumber_1 2 rfl rfl
theorem dX10_takesNumber_19 : decode cX10_takesNumber 19 = .ok (.aload_n 0, 1) := fq_42 fk_cX10_takesNumber_1 3 rfl rfl
theorem dX10_takesNumber_20 : decode cX10_takesNumber 20 = .ok (.getfield 105, 3) := fq_180 fk_cX10_takesNumber_1 4 rfl rfl rfl rfl rfl
theorem dX10_takesNumber_23 : decode cX10_takesNumber 23 = .ok (.invokevirtual 115, 3) := fq_182 fk_cX10_takesNumber_1 7 rfl rfl rfl rfl rfl
theorem dX10_takesNumber_26 : decode cX10_takesNumber 26 = .ok (.ireturn, 1) := fq_172 fk_cX10_takesNumber_1 10 rfl rfl
noncomputable def f_m_takesNumber_32 (f13 : Nat → Int32) (n : Nat) : (Nat → Int32) → (Nat → Int32) := Nat.rec (motive := fun _ => (Nat → Int32) → (Nat → Int32)) (fun w_8m0 => w_8m0) (fun n ih w_8m0 => (if (f_m_in (((f_m_letterAt w_8m0 f13 (w_8m0 15))).toInt64) 48 57) = 0 then w_8m0 else (if 3 ≤ ((w_8m0 15) - (w_8m0 16)) then (ih (upd (upd w_8m0 17 (w_8m0 17)) 15 ((w_8m0 15) + 1))) else (ih (upd (upd w_8m0 17 (((10 * (w_8m0 17)) + (f_m_letterAt w_8m0 f13 (w_8m0 15))) - 48)) 15 ((w_8m0 15) + 1)))))) n
theorem f_m_takesNumber_32_s (f13 : Nat → Int32) (n : Nat) (w_8m0 : (Nat → Int32)) : f_m_takesNumber_32 f13 (n + 1) w_8m0 = (if (f_m_in (((f_m_letterAt w_8m0 f13 (w_8m0 15))).toInt64) 48 57) = 0 then w_8m0 else (if 3 ≤ ((w_8m0 15) - (w_8m0 16)) then (f_m_takesNumber_32 f13 n (upd (upd w_8m0 17 (w_8m0 17)) 15 ((w_8m0 15) + 1))) else (f_m_takesNumber_32 f13 n (upd (upd w_8m0 17 (((10 * (w_8m0 17)) + (f_m_letterAt w_8m0 f13 (w_8m0 15))) - 48)) 15 ((w_8m0 15) + 1))))) := rfl
def S_m_takesNumber_32 (f13 : Nat → Int32) (K : (Nat → Int32) → Prop) (n : Nat) : (Nat → Int32) → Prop := Nat.rec (motive := fun _ => (Nat → Int32) → Prop) (fun _ => False) (fun n ih w_8m0 => ((S_m_letterAt w_8m0 f13 (w_8m0 15)) ∧ ((S_m_in (((f_m_letterAt w_8m0 f13 (w_8m0 15))).toInt64) 48 57) ∧ (((f_m_in (((f_m_letterAt w_8m0 f13 (w_8m0 15))).toInt64) 48 57) = 0 → (K w_8m0)) ∧ (¬ (f_m_in (((f_m_letterAt w_8m0 f13 (w_8m0 15))).toInt64) 48 57) = 0 → ((3 ≤ ((w_8m0 15) - (w_8m0 16)) → (ih (upd (upd w_8m0 17 (w_8m0 17)) 15 ((w_8m0 15) + 1)))) ∧ (¬ 3 ≤ ((w_8m0 15) - (w_8m0 16)) → ((S_m_letterAt w_8m0 f13 (w_8m0 15)) ∧ (ih (upd (upd w_8m0 17 (((10 * (w_8m0 17)) + (f_m_letterAt w_8m0 f13 (w_8m0 15))) - 48)) 15 ((w_8m0 15) + 1))))))))))) n
theorem S_m_takesNumber_32_s (f13 : Nat → Int32) (K : (Nat → Int32) → Prop) (n : Nat) (w_8m0 : (Nat → Int32)) : S_m_takesNumber_32 f13 K (n + 1) w_8m0 = (((S_m_letterAt w_8m0 f13 (w_8m0 15)) ∧ ((S_m_in (((f_m_letterAt w_8m0 f13 (w_8m0 15))).toInt64) 48 57) ∧ (((f_m_in (((f_m_letterAt w_8m0 f13 (w_8m0 15))).toInt64) 48 57) = 0 → (K w_8m0)) ∧ (¬ (f_m_in (((f_m_letterAt w_8m0 f13 (w_8m0 15))).toInt64) 48 57) = 0 → ((3 ≤ ((w_8m0 15) - (w_8m0 16)) → (S_m_takesNumber_32 f13 K n (upd (upd w_8m0 17 (w_8m0 17)) 15 ((w_8m0 15) + 1)))) ∧ (¬ 3 ≤ ((w_8m0 15) - (w_8m0 16)) → ((S_m_letterAt w_8m0 f13 (w_8m0 15)) ∧ (S_m_takesNumber_32 f13 K n (upd (upd w_8m0 17 (((10 * (w_8m0 17)) + (f_m_letterAt w_8m0 f13 (w_8m0 15))) - 48)) 15 ((w_8m0 15) + 1))))))))))) := rfl
noncomputable def f_m_takesNumber (G : Nat → Int32) (f13 : Nat → Int32) (lo_ : Int32) (hi_ : Int32) : Int32 × (Nat → Int32) := (match (f_m_here G f13) with | (r_3, u_2) => (if (f_m_in r_3.toInt64 48 57) = 0 then (match (f_m_fails u_2 1 (u_2 16)) with | (r_35, u_34) => (r_35, u_34)) else (match ((f_m_takesNumber_32 f13 300 (upd u_2 17 0)) : (Nat → Int32)) with | w_8m0 => (if 4 ≤ ((w_8m0 15) - (w_8m0 16)) then (match (f_m_fails w_8m0 2 (w_8m0 16)) with | (r_12, u_11) => (if r_12 = 0 then (0, u_11) else (1, u_11))) else (if (f_m_in (((w_8m0 17)).toInt64) lo_.toInt64 hi_.toInt64) = 0 then (match (f_m_fails w_8m0 2 (w_8m0 16)) with | (r_20, u_19) => (if r_20 = 0 then (0, u_19) else (1, u_19))) else (1, w_8m0))))))
def S_m_takesNumber (G : Nat → Int32) (f13 : Nat → Int32) (lo_ : Int32) (hi_ : Int32) : Prop := ((S_m_here G f13) ∧ (∀ (r_3 : Int32) (u_2 : (Nat → Int32)), (r_3, u_2) = (f_m_here G f13) → ((S_m_in r_3.toInt64 48 57) ∧ (((f_m_in r_3.toInt64 48 57) = 0 → ((S_m_fails u_2 1 (u_2 16)) ∧ (∀ (r_35 : Int32) (u_34 : (Nat → Int32)), (r_35, u_34) = (f_m_fails u_2 1 (u_2 16)) → True))) ∧ (¬ (f_m_in r_3.toInt64 48 57) = 0 → (S_m_takesNumber_32 f13 (fun (w_8m0 : (Nat → Int32)) => ((4 ≤ ((w_8m0 15) - (w_8m0 16)) → ((S_m_fails w_8m0 2 (w_8m0 16)) ∧ (∀ (r_12 : Int32) (u_11 : (Nat → Int32)), (r_12, u_11) = (f_m_fails w_8m0 2 (w_8m0 16)) → ((r_12 = 0 → True) ∧ (¬ r_12 = 0 → True))))) ∧ (¬ 4 ≤ ((w_8m0 15) - (w_8m0 16)) → ((S_m_in (((w_8m0 17)).toInt64) lo_.toInt64 hi_.toInt64) ∧ (((f_m_in (((w_8m0 17)).toInt64) lo_.toInt64 hi_.toInt64) = 0 → ((S_m_fails w_8m0 2 (w_8m0 16)) ∧ (∀ (r_20 : Int32) (u_19 : (Nat → Int32)), (r_20, u_19) = (f_m_fails w_8m0 2 (w_8m0 16)) → ((r_20 = 0 → True) ∧ (¬ r_20 = 0 → True))))) ∧ (¬ (f_m_in (((w_8m0 17)).toInt64) lo_.toInt64 hi_.toInt64) = 0 → True)))))) 300 (upd u_2 17 0)))))))
def rm_m_takesNumber : Room := { frames := 2, cells := 0, slots := 0, locals := 41 }
set_option maxHeartbeats 4000000 in
set_option maxRecDepth 100000 in
theorem m_takesNumber {l : Launch} {D : va_G} {cI cZ : ClassId} {sz : Nat} (Rf : Nat → Nat) (h : Nat) (G : Nat → Int32) (f13 : Nat → Int32) (lo_ : Int32) (hi_ : Int32) (hF : S_m_takesNumber G f13 lo_ hi_) : KI l yX10_takesNumber cX10_takesNumber 3 (some .boolean) rm_m_takesNumber D cI cZ [.ref h, .int lo_, .int hi_] sz [(h, .inr (10, ML G Rf)), ((Rf 13), .inl (cI, 240, .inl f13))] (fun (r : Int32) (u : (Nat → Int32)) => (r, u) = f_m_takesNumber G f13 lo_ hi_) (fun (u : (Nat → Int32)) => [(h, .inr (10, ML u Rf)), ((Rf 13), .inl (cI, 240, .inl f13))]) := by
  refine KI.go rfl (Nat.le_of_ble_eq_true rfl) ?_
  intro p e s m args below meth c ls A Q hx hb hml hts hown hin hP hK hD hS hA hN hl hret
  have hl : lv_has ls 3 [(0, .ref h), (1, .int lo_), (2, .int hi_)] := hl
  rw [S_m_takesNumber] at hF
  obtain ⟨RES, hE⟩ : ∃ xRES, f_m_takesNumber G f13 lo_ hi_ = xRES := ⟨_, rfl⟩
  rw [hE] at hret
  rw [f_m_takesNumber] at hE
  refine lv_aload_n hx hb dX10_takesNumber_0 rfl (lv_at hl 0 rfl) ?_
  obtain ⟨hs_1, hF⟩ := hF
  refine cVi (wr := []) (rest := []) (m_here Rf h G f13 hs_1) okV_X10_here wd_516 hx hb hml hown hts hK hP hD hS hA hN hl.1 [0, 1] [] rfl rfl rfl rfl (of_decide_eq_true rfl) rfl rfl rfl (Nat.le_of_ble_eq_true rfl) (Nat.le_of_ble_eq_true rfl) (Nat.le_of_ble_eq_true rfl) (Nat.le_of_ble_eq_true rfl) (Nat.le_of_ble_eq_true rfl) dX10_takesNumber_1 (fun r_3 u_2 H locs hw_u_2 hP hD hS => ?_)
  replace hw_u_2 : (r_3, u_2) = (f_m_here G f13) := hw_u_2
  replace hF := hF r_3 u_2 hw_u_2
  rw [← hw_u_2] at hE
  replace hE : ((if (f_m_in r_3.toInt64 48 57) = 0 then (match (f_m_fails u_2 1 (u_2 16)) with | (r_35, u_34) => (r_35, u_34)) else (match ((f_m_takesNumber_32 f13 300 (upd u_2 17 0)) : (Nat → Int32)) with | w_8m0 => (if 4 ≤ ((w_8m0 15) - (w_8m0 16)) then (match (f_m_fails w_8m0 2 (w_8m0 16)) with | (r_12, u_11) => (if r_12 = 0 then (0, u_11) else (1, u_11))) else (if (f_m_in (((w_8m0 17)).toInt64) lo_.toInt64 hi_.toInt64) = 0 then (match (f_m_fails w_8m0 2 (w_8m0 16)) with | (r_20, u_19) => (if r_20 = 0 then (0, u_19) else (1, u_19))) else (1, w_8m0))))) : Int32 × (Nat → Int32)) = RES := hE
  have hP : va_P D classes [(h, .inr (10, ML u_2 Rf)), ((Rf 13), .inl (cI, 240, .inl f13))] H := hP
  have hD : va_D A [(h, .inr (10, ML u_2 Rf)), ((Rf 13), .inl (cI, 240, .inl f13))] := hD
  refine lv_i2l (v := r_3.toInt64) hx hb dX10_takesNumber_4 rfl ?_
  refine lv_ldc2 (v := 48) hx hb hown (hts _ wd_524) dX10_takesNumber_5 ?_
  refine lv_ldc2 (v := 57) hx hb hown (hts _ wd_525) dX10_takesNumber_8 ?_
  obtain ⟨hs_4, hF⟩ := hF
  refine cSi (wr := [(h, .inr (10, ML u_2 Rf)), ((Rf 13), .inl (cI, 240, .inl f13))]) (rest := []) (m_in r_3.toInt64 48 57 hs_4) okS_X10_in wd_495 hx hb hml hown hts hK hP hD hS hA hN hl.1 [] [0, 1] rfl rfl rfl rfl (of_decide_eq_true rfl) rfl (Nat.le_of_ble_eq_true rfl) (Nat.le_of_ble_eq_true rfl) (Nat.le_of_ble_eq_true rfl) (Nat.le_of_ble_eq_true rfl) (Nat.le_of_ble_eq_true rfl) dX10_takesNumber_11 (fun r_6 u_5 H locs hw_u_5 hP hD hS => ?_)
  replace hw_u_5 : r_6 = (f_m_in r_3.toInt64 48 57) := hw_u_5
  rw [hw_u_5]
  clear hw_u_5
  have hP : va_P D classes [(h, .inr (10, ML u_2 Rf)), ((Rf 13), .inl (cI, 240, .inl f13))] H := hP
  have hD : va_D A [(h, .inr (10, ML u_2 Rf)), ((Rf 13), .inl (cI, 240, .inl f13))] := hD
  refine lv_if_ne (tgt := 27) hx hb dX10_takesNumber_14 rfl (fun c_7 => ?_) (fun c_7 => ?_)
  · replace hF := hF.2 c_7
    rw [if_neg c_7] at hE
    refine lv_aload_n hx hb dX10_takesNumber_27 rfl (lv_at hl 0 rfl) ?_
    refine lv_iconst (v := 0) hx hb dX10_takesNumber_28 rfl ?_
    refine va_put (D := D) (ci := 10) (v := .int 0) (ty := .int) (C := RX10) (T := TX10) (N := 45) hx hb hts iX10 tyX10 tyX10_ok nmX10 hown hK hP hD hS 0 rfl rfl 17 (Nat.le_of_ble_eq_true rfl) (hts _ wd_526) (fun _ h9 => h9) rfl (by decide +kernel) rfl rfl (Nat.le_of_ble_eq_true rfl) dX10_takesNumber_29 (fun H locs hP hD hS => ?_)
    have hP : va_P D classes [(h, .inr (10, ML (upd u_2 17 0) Rf)), ((Rf 13), .inl (cI, 240, .inl f13))] H := hP
    have hD : va_D A [(h, .inr (10, ML (upd u_2 17 0) Rf)), ((Rf 13), .inl (cI, 240, .inl f13))] := hD
    have ex_32_w_8 : ∀ (w_8m0 : (Nat → Int32)) (H : Heap) (locs : List Loc) (ls : Array Slot), va_P D classes [(h, .inr (10, ML w_8m0 Rf)), ((Rf 13), .inl (cI, 240, .inl f13))] H → va_D A [(h, .inr (10, ML w_8m0 Rf)), ((Rf 13), .inl (cI, 240, .inl f13))] → va_S A s.heap H locs → lv_has ls 3 [(0, .ref h), (1, .int lo_), (2, .int hi_)] → (((4 ≤ ((w_8m0 15) - (w_8m0 16)) → ((S_m_fails w_8m0 2 (w_8m0 16)) ∧ (∀ (r_12 : Int32) (u_11 : (Nat → Int32)), (r_12, u_11) = (f_m_fails w_8m0 2 (w_8m0 16)) → ((r_12 = 0 → True) ∧ (¬ r_12 = 0 → True))))) ∧ (¬ 4 ≤ ((w_8m0 15) - (w_8m0 16)) → ((S_m_in (((w_8m0 17)).toInt64) lo_.toInt64 hi_.toInt64) ∧ (((f_m_in (((w_8m0 17)).toInt64) lo_.toInt64 hi_.toInt64) = 0 → ((S_m_fails w_8m0 2 (w_8m0 16)) ∧ (∀ (r_20 : Int32) (u_19 : (Nat → Int32)), (r_20, u_19) = (f_m_fails w_8m0 2 (w_8m0 16)) → ((r_20 = 0 → True) ∧ (¬ r_20 = 0 → True))))) ∧ (¬ (f_m_in (((w_8m0 17)).toInt64) lo_.toInt64 hi_.toInt64) = 0 → True)))))) → (((if 4 ≤ ((w_8m0 15) - (w_8m0 16)) then (match (f_m_fails w_8m0 2 (w_8m0 16)) with | (r_12, u_11) => (if r_12 = 0 then (0, u_11) else (1, u_11))) else (if (f_m_in (((w_8m0 17)).toInt64) lo_.toInt64 hi_.toInt64) = 0 then (match (f_m_fails w_8m0 2 (w_8m0 16)) with | (r_20, u_19) => (if r_20 = 0 then (0, u_19) else (1, u_19))) else (1, w_8m0)))) : Int32 × (Nat → Int32)) = RES → W p l e rm_m_takesNumber s m args below meth c H locs 0 0 Q (F0 m 109 ls []) := by
      intro w_8m0 H locs ls hP hD hS hl hF hE
      refine lv_aload_n hx hb dX10_takesNumber_109 rfl (lv_at hl 0 rfl) ?_
      refine va_get (D := D) (ci := 10) (v := .int (w_8m0 15)) (C := RX10) (T := TX10) (N := 45) hx hb hts iX10 hown hK hP 0 rfl rfl 15 (Nat.le_of_ble_eq_true rfl) (hts _ wd_508) (fun _ h9 => h9) rfl dX10_takesNumber_110 ?_
      refine lv_aload_n hx hb dX10_takesNumber_113 rfl (lv_at hl 0 rfl) ?_
      refine va_get (D := D) (ci := 10) (v := .int (w_8m0 16)) (C := RX10) (T := TX10) (N := 45) hx hb hts iX10 hown hK hP 0 rfl rfl 16 (Nat.le_of_ble_eq_true rfl) (hts _ wd_509) (fun _ h9 => h9) rfl dX10_takesNumber_114 ?_
      refine lv_isub hx hb dX10_takesNumber_117 ?_
      refine lv_iconst (v := 4) hx hb dX10_takesNumber_118 rfl ?_
      refine lv_icmp_ge (tgt := 137) hx hb dX10_takesNumber_119 rfl (fun c_9 => ?_) (fun c_9 => ?_)
      · replace hF := hF.1 c_9
        rw [if_pos c_9] at hE
        refine lv_aload_n hx hb dX10_takesNumber_137 rfl (lv_at hl 0 rfl) ?_
        refine lv_iconst (v := 2) hx hb dX10_takesNumber_138 rfl ?_
        refine lv_aload_n hx hb dX10_takesNumber_139 rfl (lv_at hl 0 rfl) ?_
        refine va_get (D := D) (ci := 10) (v := .int (w_8m0 16)) (C := RX10) (T := TX10) (N := 45) hx hb hts iX10 hown hK hP 0 rfl rfl 16 (Nat.le_of_ble_eq_true rfl) (hts _ wd_509) (fun _ h9 => h9) rfl dX10_takesNumber_140 ?_
        obtain ⟨hs_10, hF⟩ := hF
        refine cVi (wr := [((Rf 13), .inl (cI, 240, .inl f13))]) (rest := []) (m_fails Rf h w_8m0 2 (w_8m0 16) hs_10) okV_X10_fails wd_520 hx hb hml hown hts hK hP hD hS hA hN hl.1 [0] [1] rfl rfl rfl rfl (of_decide_eq_true rfl) rfl rfl rfl (Nat.le_of_ble_eq_true rfl) (Nat.le_of_ble_eq_true rfl) (Nat.le_of_ble_eq_true rfl) (Nat.le_of_ble_eq_true rfl) (Nat.le_of_ble_eq_true rfl) dX10_takesNumber_143 (fun r_12 u_11 H locs hw_u_11 hP hD hS => ?_)
        replace hw_u_11 : (r_12, u_11) = (f_m_fails w_8m0 2 (w_8m0 16)) := hw_u_11
        replace hF := hF r_12 u_11 hw_u_11
        rw [← hw_u_11] at hE
        replace hE : ((if r_12 = 0 then (0, u_11) else (1, u_11)) : Int32 × (Nat → Int32)) = RES := hE
        have hP : va_P D classes [((Rf 13), .inl (cI, 240, .inl f13)), (h, .inr (10, ML u_11 Rf))] H := hP
        have hD : va_D A [((Rf 13), .inl (cI, 240, .inl f13)), (h, .inr (10, ML u_11 Rf))] := hD
        refine lv_if_eq (tgt := 153) hx hb dX10_takesNumber_146 rfl (fun c_13 => ?_) (fun c_13 => ?_)
        · replace hF := hF.1 c_13
          rw [if_pos c_13] at hE
          subst c_13
          refine lv_iconst (v := 0) hx hb dX10_takesNumber_153 rfl ?_
          exact hret 0 u_11 _ _ _ _ dX10_takesNumber_154 rfl hE (cutP (isC := [1, 0]) hP rfl) (cutD (isC := [1, 0]) hD rfl rfl) hS
        · replace hF := hF.2 c_13
          rw [if_neg c_13] at hE
          refine lv_iconst (v := 1) hx hb dX10_takesNumber_149 rfl ?_
          refine lv_goto (tgt := 154) hx hb dX10_takesNumber_150 rfl ?_
          exact hret 1 u_11 _ _ _ _ dX10_takesNumber_154 rfl hE (cutP (isC := [1, 0]) hP rfl) (cutD (isC := [1, 0]) hD rfl rfl) hS
      · replace hF := hF.2 c_9
        rw [if_neg c_9] at hE
        refine lv_aload_n hx hb dX10_takesNumber_122 rfl (lv_at hl 0 rfl) ?_
        refine va_get (D := D) (ci := 10) (v := .int (w_8m0 17)) (C := RX10) (T := TX10) (N := 45) hx hb hts iX10 hown hK hP 0 rfl rfl 17 (Nat.le_of_ble_eq_true rfl) (hts _ wd_526) (fun _ h9 => h9) rfl dX10_takesNumber_123 ?_
        refine lv_i2l (v := ((w_8m0 17)).toInt64) hx hb dX10_takesNumber_126 rfl ?_
        refine lv_iload_n hx hb dX10_takesNumber_127 rfl (lv_at hl 1 rfl) ?_
        refine lv_i2l (v := lo_.toInt64) hx hb dX10_takesNumber_128 rfl ?_
        refine lv_iload_n hx hb dX10_takesNumber_129 rfl (lv_at hl 2 rfl) ?_
        refine lv_i2l (v := hi_.toInt64) hx hb dX10_takesNumber_130 rfl ?_
        obtain ⟨hs_14, hF⟩ := hF
        refine cSi (wr := [(h, .inr (10, ML w_8m0 Rf)), ((Rf 13), .inl (cI, 240, .inl f13))]) (rest := []) (m_in (((w_8m0 17)).toInt64) lo_.toInt64 hi_.toInt64 hs_14) okS_X10_in wd_495 hx hb hml hown hts hK hP hD hS hA hN hl.1 [] [0, 1] rfl rfl rfl rfl (of_decide_eq_true rfl) rfl (Nat.le_of_ble_eq_true rfl) (Nat.le_of_ble_eq_true rfl) (Nat.le_of_ble_eq_true rfl) (Nat.le_of_ble_eq_true rfl) (Nat.le_of_ble_eq_true rfl) dX10_takesNumber_131 (fun r_16 u_15 H locs hw_u_15 hP hD hS => ?_)
        replace hw_u_15 : r_16 = (f_m_in (((w_8m0 17)).toInt64) lo_.toInt64 hi_.toInt64) := hw_u_15
        rw [hw_u_15]
        clear hw_u_15
        have hP : va_P D classes [(h, .inr (10, ML w_8m0 Rf)), ((Rf 13), .inl (cI, 240, .inl f13))] H := hP
        have hD : va_D A [(h, .inr (10, ML w_8m0 Rf)), ((Rf 13), .inl (cI, 240, .inl f13))] := hD
        refine lv_if_ne (tgt := 149) hx hb dX10_takesNumber_134 rfl (fun c_17 => ?_) (fun c_17 => ?_)
        · replace hF := hF.2 c_17
          rw [if_neg c_17] at hE
          refine lv_iconst (v := 1) hx hb dX10_takesNumber_149 rfl ?_
          refine lv_goto (tgt := 154) hx hb dX10_takesNumber_150 rfl ?_
          exact hret 1 w_8m0 _ _ _ _ dX10_takesNumber_154 rfl hE hP hD hS
        · replace hF := hF.1 c_17
          rw [if_pos c_17] at hE
          refine lv_aload_n hx hb dX10_takesNumber_137 rfl (lv_at hl 0 rfl) ?_
          refine lv_iconst (v := 2) hx hb dX10_takesNumber_138 rfl ?_
          refine lv_aload_n hx hb dX10_takesNumber_139 rfl (lv_at hl 0 rfl) ?_
          refine va_get (D := D) (ci := 10) (v := .int (w_8m0 16)) (C := RX10) (T := TX10) (N := 45) hx hb hts iX10 hown hK hP 0 rfl rfl 16 (Nat.le_of_ble_eq_true rfl) (hts _ wd_509) (fun _ h9 => h9) rfl dX10_takesNumber_140 ?_
          obtain ⟨hs_18, hF⟩ := hF
          refine cVi (wr := [((Rf 13), .inl (cI, 240, .inl f13))]) (rest := []) (m_fails Rf h w_8m0 2 (w_8m0 16) hs_18) okV_X10_fails wd_520 hx hb hml hown hts hK hP hD hS hA hN hl.1 [0] [1] rfl rfl rfl rfl (of_decide_eq_true rfl) rfl rfl rfl (Nat.le_of_ble_eq_true rfl) (Nat.le_of_ble_eq_true rfl) (Nat.le_of_ble_eq_true rfl) (Nat.le_of_ble_eq_true rfl) (Nat.le_of_ble_eq_true rfl) dX10_takesNumber_143 (fun r_20 u_19 H locs hw_u_19 hP hD hS => ?_)
          replace hw_u_19 : (r_20, u_19) = (f_m_fails w_8m0 2 (w_8m0 16)) := hw_u_19
          replace hF := hF r_20 u_19 hw_u_19
          rw [← hw_u_19] at hE
          replace hE : ((if r_20 = 0 then (0, u_19) else (1, u_19)) : Int32 × (Nat → Int32)) = RES := hE
          have hP : va_P D classes [((Rf 13), .inl (cI, 240, .inl f13)), (h, .inr (10, ML u_19 Rf))] H := hP
          have hD : va_D A [((Rf 13), .inl (cI, 240, .inl f13)), (h, .inr (10, ML u_19 Rf))] := hD
          refine lv_if_eq (tgt := 153) hx hb dX10_takesNumber_146 rfl (fun c_21 => ?_) (fun c_21 => ?_)
          · replace hF := hF.1 c_21
            rw [if_pos c_21] at hE
            subst c_21
            refine lv_iconst (v := 0) hx hb dX10_takesNumber_153 rfl ?_
            exact hret 0 u_19 _ _ _ _ dX10_takesNumber_154 rfl hE (cutP (isC := [1, 0]) hP rfl) (cutD (isC := [1, 0]) hD rfl rfl) hS
          · replace hF := hF.2 c_21
            rw [if_neg c_21] at hE
            refine lv_iconst (v := 1) hx hb dX10_takesNumber_149 rfl ?_
            refine lv_goto (tgt := 154) hx hb dX10_takesNumber_150 rfl ?_
            exact hret 1 u_19 _ _ _ _ dX10_takesNumber_154 rfl hE (cutP (isC := [1, 0]) hP rfl) (cutD (isC := [1, 0]) hD rfl rfl) hS
    have lp_32_w_8 : ∀ (n_w_8 : Nat) (w_8m0 : (Nat → Int32)) (H : Heap) (locs : List Loc) (ls : Array Slot), va_P D classes [(h, .inr (10, ML w_8m0 Rf)), ((Rf 13), .inl (cI, 240, .inl f13))] H → va_D A [(h, .inr (10, ML w_8m0 Rf)), ((Rf 13), .inl (cI, 240, .inl f13))] → va_S A s.heap H locs → lv_has ls 3 [(0, .ref h), (1, .int lo_), (2, .int hi_)] → (S_m_takesNumber_32 f13 (fun (w_8m0 : (Nat → Int32)) => ((4 ≤ ((w_8m0 15) - (w_8m0 16)) → ((S_m_fails w_8m0 2 (w_8m0 16)) ∧ (∀ (r_12 : Int32) (u_11 : (Nat → Int32)), (r_12, u_11) = (f_m_fails w_8m0 2 (w_8m0 16)) → ((r_12 = 0 → True) ∧ (¬ r_12 = 0 → True))))) ∧ (¬ 4 ≤ ((w_8m0 15) - (w_8m0 16)) → ((S_m_in (((w_8m0 17)).toInt64) lo_.toInt64 hi_.toInt64) ∧ (((f_m_in (((w_8m0 17)).toInt64) lo_.toInt64 hi_.toInt64) = 0 → ((S_m_fails w_8m0 2 (w_8m0 16)) ∧ (∀ (r_20 : Int32) (u_19 : (Nat → Int32)), (r_20, u_19) = (f_m_fails w_8m0 2 (w_8m0 16)) → ((r_20 = 0 → True) ∧ (¬ r_20 = 0 → True))))) ∧ (¬ (f_m_in (((w_8m0 17)).toInt64) lo_.toInt64 hi_.toInt64) = 0 → True)))))) n_w_8 w_8m0) → ((match ((f_m_takesNumber_32 f13 n_w_8 w_8m0) : (Nat → Int32)) with | w_8m0 => (if 4 ≤ ((w_8m0 15) - (w_8m0 16)) then (match (f_m_fails w_8m0 2 (w_8m0 16)) with | (r_12, u_11) => (if r_12 = 0 then (0, u_11) else (1, u_11))) else (if (f_m_in (((w_8m0 17)).toInt64) lo_.toInt64 hi_.toInt64) = 0 then (match (f_m_fails w_8m0 2 (w_8m0 16)) with | (r_20, u_19) => (if r_20 = 0 then (0, u_19) else (1, u_19))) else (1, w_8m0)))) : Int32 × (Nat → Int32)) = RES → W p l e rm_m_takesNumber s m args below meth c H locs 0 0 Q (F0 m 32 ls []) := by
      intro n_w_8
      induction n_w_8 with
      | zero => intro w_8m0 H locs ls hP hD hS hl hF hE; exact False.elim hF
      | succ n_w_8 ih_w_8 =>
        intro w_8m0 H locs ls hP hD hS hl hF hE
        rw [S_m_takesNumber_32_s] at hF
        rw [f_m_takesNumber_32_s] at hE
        refine lv_aload_n hx hb dX10_takesNumber_32 rfl (lv_at hl 0 rfl) ?_
        refine lv_aload_n hx hb dX10_takesNumber_33 rfl (lv_at hl 0 rfl) ?_
        refine va_get (D := D) (ci := 10) (v := .int (w_8m0 15)) (C := RX10) (T := TX10) (N := 45) hx hb hts iX10 hown hK hP 0 rfl rfl 15 (Nat.le_of_ble_eq_true rfl) (hts _ wd_508) (fun _ h9 => h9) rfl dX10_takesNumber_34 ?_
        obtain ⟨hs_22, hF⟩ := hF
        refine cVi (wr := []) (rest := []) (m_letterAt Rf h w_8m0 f13 (w_8m0 15) hs_22) okV_X10_letterAt wd_510 hx hb hml hown hts hK hP hD hS hA hN hl.1 [0, 1] [] rfl rfl rfl rfl (of_decide_eq_true rfl) rfl rfl rfl (Nat.le_of_ble_eq_true rfl) (Nat.le_of_ble_eq_true rfl) (Nat.le_of_ble_eq_true rfl) (Nat.le_of_ble_eq_true rfl) (Nat.le_of_ble_eq_true rfl) dX10_takesNumber_37 (fun r_24 u_23 H locs hw_u_23 hP hD hS => ?_)
        replace hw_u_23 : r_24 = (f_m_letterAt w_8m0 f13 (w_8m0 15)) := hw_u_23
        rw [hw_u_23]
        clear hw_u_23
        have hP : va_P D classes [(h, .inr (10, ML w_8m0 Rf)), ((Rf 13), .inl (cI, 240, .inl f13))] H := hP
        have hD : va_D A [(h, .inr (10, ML w_8m0 Rf)), ((Rf 13), .inl (cI, 240, .inl f13))] := hD
        refine lv_i2l (v := ((f_m_letterAt w_8m0 f13 (w_8m0 15))).toInt64) hx hb dX10_takesNumber_40 rfl ?_
        refine lv_ldc2 (v := 48) hx hb hown (hts _ wd_524) dX10_takesNumber_41 ?_
        refine lv_ldc2 (v := 57) hx hb hown (hts _ wd_525) dX10_takesNumber_44 ?_
        obtain ⟨hs_25, hF⟩ := hF
        refine cSi (wr := [(h, .inr (10, ML w_8m0 Rf)), ((Rf 13), .inl (cI, 240, .inl f13))]) (rest := []) (m_in (((f_m_letterAt w_8m0 f13 (w_8m0 15))).toInt64) 48 57 hs_25) okS_X10_in wd_495 hx hb hml hown hts hK hP hD hS hA hN hl.1 [] [0, 1] rfl rfl rfl rfl (of_decide_eq_true rfl) rfl (Nat.le_of_ble_eq_true rfl) (Nat.le_of_ble_eq_true rfl) (Nat.le_of_ble_eq_true rfl) (Nat.le_of_ble_eq_true rfl) (Nat.le_of_ble_eq_true rfl) dX10_takesNumber_47 (fun r_27 u_26 H locs hw_u_26 hP hD hS => ?_)
        replace hw_u_26 : r_27 = (f_m_in (((f_m_letterAt w_8m0 f13 (w_8m0 15))).toInt64) 48 57) := hw_u_26
        rw [hw_u_26]
        clear hw_u_26
        have hP : va_P D classes [(h, .inr (10, ML w_8m0 Rf)), ((Rf 13), .inl (cI, 240, .inl f13))] H := hP
        have hD : va_D A [(h, .inr (10, ML w_8m0 Rf)), ((Rf 13), .inl (cI, 240, .inl f13))] := hD
        refine lv_if_eq (tgt := 109) hx hb dX10_takesNumber_50 rfl (fun c_28 => ?_) (fun c_28 => ?_)
        · replace hF := hF.1 c_28
          rw [if_pos c_28] at hE
          exact ex_32_w_8 w_8m0 _ _ ls hP hD hS (lv_sub hl [0, 1, 2] rfl) hF hE
        · replace hF := hF.2 c_28
          rw [if_neg c_28] at hE
          refine lv_aload_n hx hb dX10_takesNumber_53 rfl (lv_at hl 0 rfl) ?_
          refine lv_aload_n hx hb dX10_takesNumber_54 rfl (lv_at hl 0 rfl) ?_
          refine va_get (D := D) (ci := 10) (v := .int (w_8m0 15)) (C := RX10) (T := TX10) (N := 45) hx hb hts iX10 hown hK hP 0 rfl rfl 15 (Nat.le_of_ble_eq_true rfl) (hts _ wd_508) (fun _ h9 => h9) rfl dX10_takesNumber_55 ?_
          refine lv_aload_n hx hb dX10_takesNumber_58 rfl (lv_at hl 0 rfl) ?_
          refine va_get (D := D) (ci := 10) (v := .int (w_8m0 16)) (C := RX10) (T := TX10) (N := 45) hx hb hts iX10 hown hK hP 0 rfl rfl 16 (Nat.le_of_ble_eq_true rfl) (hts _ wd_509) (fun _ h9 => h9) rfl dX10_takesNumber_59 ?_
          refine lv_isub hx hb dX10_takesNumber_62 ?_
          refine lv_iconst (v := 3) hx hb dX10_takesNumber_63 rfl ?_
          refine lv_icmp_ge (tgt := 89) hx hb dX10_takesNumber_64 rfl (fun c_29 => ?_) (fun c_29 => ?_)
          · replace hF := hF.1 c_29
            rw [if_pos c_29] at hE
            refine lv_aload_n hx hb dX10_takesNumber_89 rfl (lv_at hl 0 rfl) ?_
            refine va_get (D := D) (ci := 10) (v := .int (w_8m0 17)) (C := RX10) (T := TX10) (N := 45) hx hb hts iX10 hown hK hP 0 rfl rfl 17 (Nat.le_of_ble_eq_true rfl) (hts _ wd_526) (fun _ h9 => h9) rfl dX10_takesNumber_90 ?_
            refine va_put (D := D) (ci := 10) (v := .int (w_8m0 17)) (ty := .int) (C := RX10) (T := TX10) (N := 45) hx hb hts iX10 tyX10 tyX10_ok nmX10 hown hK hP hD hS 0 rfl rfl 17 (Nat.le_of_ble_eq_true rfl) (hts _ wd_526) (fun _ h9 => h9) rfl (by decide +kernel) rfl rfl (Nat.le_of_ble_eq_true rfl) dX10_takesNumber_93 (fun H locs hP hD hS => ?_)
            have hP : va_P D classes [(h, .inr (10, ML (upd w_8m0 17 (w_8m0 17)) Rf)), ((Rf 13), .inl (cI, 240, .inl f13))] H := hP
            have hD : va_D A [(h, .inr (10, ML (upd w_8m0 17 (w_8m0 17)) Rf)), ((Rf 13), .inl (cI, 240, .inl f13))] := hD
            refine lv_aload_n hx hb dX10_takesNumber_96 rfl (lv_at hl 0 rfl) ?_
            refine lv_dup hx hb dX10_takesNumber_97 rfl ?_
            refine va_get (D := D) (ci := 10) (v := .int (w_8m0 15)) (C := RX10) (T := TX10) (N := 45) hx hb hts iX10 hown hK hP 0 rfl rfl 15 (Nat.le_of_ble_eq_true rfl) (hts _ wd_508) (fun _ h9 => h9) rfl dX10_takesNumber_98 ?_
            refine lv_iconst (v := 1) hx hb dX10_takesNumber_101 rfl ?_
            refine lv_iadd hx hb dX10_takesNumber_102 ?_
            refine va_put (D := D) (ci := 10) (v := .int ((w_8m0 15) + 1)) (ty := .int) (C := RX10) (T := TX10) (N := 45) hx hb hts iX10 tyX10 tyX10_ok nmX10 hown hK hP hD hS 0 rfl rfl 15 (Nat.le_of_ble_eq_true rfl) (hts _ wd_508) (fun _ h9 => h9) rfl (by decide +kernel) rfl rfl (Nat.le_of_ble_eq_true rfl) dX10_takesNumber_103 (fun H locs hP hD hS => ?_)
            have hP : va_P D classes [(h, .inr (10, ML (upd (upd w_8m0 17 (w_8m0 17)) 15 ((w_8m0 15) + 1)) Rf)), ((Rf 13), .inl (cI, 240, .inl f13))] H := hP
            have hD : va_D A [(h, .inr (10, ML (upd (upd w_8m0 17 (w_8m0 17)) 15 ((w_8m0 15) + 1)) Rf)), ((Rf 13), .inl (cI, 240, .inl f13))] := hD
            refine lv_goto (tgt := 32) hx hb dX10_takesNumber_106 rfl ?_
            exact ih_w_8 (upd (upd w_8m0 17 (w_8m0 17)) 15 ((w_8m0 15) + 1)) _ _ ls hP hD hS (lv_sub hl [0, 1, 2] rfl) hF hE
          · replace hF := hF.2 c_29
            rw [if_neg c_29] at hE
            refine lv_bipush (v := 10) hx hb dX10_takesNumber_67 rfl ?_
            refine lv_aload_n hx hb dX10_takesNumber_69 rfl (lv_at hl 0 rfl) ?_
            refine va_get (D := D) (ci := 10) (v := .int (w_8m0 17)) (C := RX10) (T := TX10) (N := 45) hx hb hts iX10 hown hK hP 0 rfl rfl 17 (Nat.le_of_ble_eq_true rfl) (hts _ wd_526) (fun _ h9 => h9) rfl dX10_takesNumber_70 ?_
            refine lv_imul hx hb dX10_takesNumber_73 ?_
            refine lv_aload_n hx hb dX10_takesNumber_74 rfl (lv_at hl 0 rfl) ?_
            refine lv_aload_n hx hb dX10_takesNumber_75 rfl (lv_at hl 0 rfl) ?_
            refine va_get (D := D) (ci := 10) (v := .int (w_8m0 15)) (C := RX10) (T := TX10) (N := 45) hx hb hts iX10 hown hK hP 0 rfl rfl 15 (Nat.le_of_ble_eq_true rfl) (hts _ wd_508) (fun _ h9 => h9) rfl dX10_takesNumber_76 ?_
            obtain ⟨hs_30, hF⟩ := hF
            refine cVi (wr := []) (rest := [.int (10 * (w_8m0 17)), .ref h]) (m_letterAt Rf h w_8m0 f13 (w_8m0 15) hs_30) okV_X10_letterAt wd_510 hx hb hml hown hts hK hP hD hS hA hN hl.1 [0, 1] [] rfl rfl rfl rfl (of_decide_eq_true rfl) rfl rfl rfl (Nat.le_of_ble_eq_true rfl) (Nat.le_of_ble_eq_true rfl) (Nat.le_of_ble_eq_true rfl) (Nat.le_of_ble_eq_true rfl) (Nat.le_of_ble_eq_true rfl) dX10_takesNumber_79 (fun r_32 u_31 H locs hw_u_31 hP hD hS => ?_)
            replace hw_u_31 : r_32 = (f_m_letterAt w_8m0 f13 (w_8m0 15)) := hw_u_31
            rw [hw_u_31]
            clear hw_u_31
            have hP : va_P D classes [(h, .inr (10, ML w_8m0 Rf)), ((Rf 13), .inl (cI, 240, .inl f13))] H := hP
            have hD : va_D A [(h, .inr (10, ML w_8m0 Rf)), ((Rf 13), .inl (cI, 240, .inl f13))] := hD
            refine lv_iadd hx hb dX10_takesNumber_82 ?_
            refine lv_bipush (v := 48) hx hb dX10_takesNumber_83 rfl ?_
            refine lv_isub hx hb dX10_takesNumber_85 ?_
            refine lv_goto (tgt := 93) hx hb dX10_takesNumber_86 rfl ?_
            refine va_put (D := D) (ci := 10) (v := .int (((10 * (w_8m0 17)) + (f_m_letterAt w_8m0 f13 (w_8m0 15))) - 48)) (ty := .int) (C := RX10) (T := TX10) (N := 45) hx hb hts iX10 tyX10 tyX10_ok nmX10 hown hK hP hD hS 0 rfl rfl 17 (Nat.le_of_ble_eq_true rfl) (hts _ wd_526) (fun _ h9 => h9) rfl (by decide +kernel) rfl rfl (Nat.le_of_ble_eq_true rfl) dX10_takesNumber_93 (fun H locs hP hD hS => ?_)
            have hP : va_P D classes [(h, .inr (10, ML (upd w_8m0 17 (((10 * (w_8m0 17)) + (f_m_letterAt w_8m0 f13 (w_8m0 15))) - 48)) Rf)), ((Rf 13), .inl (cI, 240, .inl f13))] H := hP
            have hD : va_D A [(h, .inr (10, ML (upd w_8m0 17 (((10 * (w_8m0 17)) + (f_m_letterAt w_8m0 f13 (w_8m0 15))) - 48)) Rf)), ((Rf 13), .inl (cI, 240, .inl f13))] := hD
            refine lv_aload_n hx hb dX10_takesNumber_96 rfl (lv_at hl 0 rfl) ?_
            refine lv_dup hx hb dX10_takesNumber_97 rfl ?_
            refine va_get (D := D) (ci := 10) (v := .int (w_8m0 15)) (C := RX10) (T := TX10) (N := 45) hx hb hts iX10 hown hK hP 0 rfl rfl 15 (Nat.le_of_ble_eq_true rfl) (hts _ wd_508) (fun _ h9 => h9) rfl dX10_takesNumber_98 ?_
            refine lv_iconst (v := 1) hx hb dX10_takesNumber_101 rfl ?_
            refine lv_iadd hx hb dX10_takesNumber_102 ?_
            refine va_put (D := D) (ci := 10) (v := .int ((w_8m0 15) + 1)) (ty := .int) (C := RX10) (T := TX10) (N := 45) hx hb hts iX10 tyX10 tyX10_ok nmX10 hown hK hP hD hS 0 rfl rfl 15 (Nat.le_of_ble_eq_true rfl) (hts _ wd_508) (fun _ h9 => h9) rfl (by decide +kernel) rfl rfl (Nat.le_of_ble_eq_true rfl) dX10_takesNumber_103 (fun H locs hP hD hS => ?_)
            have hP : va_P D classes [(h, .inr (10, ML (upd (upd w_8m0 17 (((10 * (w_8m0 17)) + (f_m_letterAt w_8m0 f13 (w_8m0 15))) - 48)) 15 ((w_8m0 15) + 1)) Rf)), ((Rf 13), .inl (cI, 240, .inl f13))] H := hP
            have hD : va_D A [(h, .inr (10, ML (upd (upd w_8m0 17 (((10 * (w_8m0 17)) + (f_m_letterAt w_8m0 f13 (w_8m0 15))) - 48)) 15 ((w_8m0 15) + 1)) Rf)), ((Rf 13), .inl (cI, 240, .inl f13))] := hD
            refine lv_goto (tgt := 32) hx hb dX10_takesNumber_106 rfl ?_
            exact ih_w_8 (upd (upd w_8m0 17 (((10 * (w_8m0 17)) + (f_m_letterAt w_8m0 f13 (w_8m0 15))) - 48)) 15 ((w_8m0 15) + 1)) _ _ ls hP hD hS (lv_sub hl [0, 1, 2] rfl) hF hE
    exact lp_32_w_8 300 (upd u_2 17 0) _ _ ls hP hD hS hl hF hE
  · replace hF := hF.1 c_7
    rw [if_pos c_7] at hE
    refine lv_aload_n hx hb dX10_takesNumber_17 rfl (lv_at hl 0 rfl) ?_
    refine lv_iconst (v := 1) hx hb dX10_takesNumber_18 rfl ?_
    refine lv_aload_n hx hb dX10_takesNumber_19 rfl (lv_at hl 0 rfl) ?_
    refine va_get (D := D) (ci := 10) (v := .int (u_2 16)) (C := RX10) (T := TX10) (N := 45) hx hb hts iX10 hown hK hP 0 rfl rfl 16 (Nat.le_of_ble_eq_true rfl) (hts _ wd_509) (fun _ h9 => h9) rfl dX10_takesNumber_20 ?_
    obtain ⟨hs_33, hF⟩ := hF
    refine cVi (wr := [((Rf 13), .inl (cI, 240, .inl f13))]) (rest := []) (m_fails Rf h u_2 1 (u_2 16) hs_33) okV_X10_fails wd_520 hx hb hml hown hts hK hP hD hS hA hN hl.1 [0] [1] rfl rfl rfl rfl (of_decide_eq_true rfl) rfl rfl rfl (Nat.le_of_ble_eq_true rfl) (Nat.le_of_ble_eq_true rfl) (Nat.le_of_ble_eq_true rfl) (Nat.le_of_ble_eq_true rfl) (Nat.le_of_ble_eq_true rfl) dX10_takesNumber_23 (fun r_35 u_34 H locs hw_u_34 hP hD hS => ?_)
    replace hw_u_34 : (r_35, u_34) = (f_m_fails u_2 1 (u_2 16)) := hw_u_34
    replace hF := hF r_35 u_34 hw_u_34
    rw [← hw_u_34] at hE
    replace hE : ((r_35, u_34) : Int32 × (Nat → Int32)) = RES := hE
    have hP : va_P D classes [((Rf 13), .inl (cI, 240, .inl f13)), (h, .inr (10, ML u_34 Rf))] H := hP
    have hD : va_D A [((Rf 13), .inl (cI, 240, .inl f13)), (h, .inr (10, ML u_34 Rf))] := hD
    exact hret r_35 u_34 _ _ _ _ dX10_takesNumber_26 (narrow_b01 (Or.inl (congrArg Prod.fst hw_u_34))) hE (cutP (isC := [1, 0]) hP rfl) (cutD (isC := [1, 0]) hD rfl rfl) hS
end
section
def fw_cX10_takesBridges : List (List Nat) := [[4, 60, 27, 153, 0, 93, 42, 180, 0, 126, 16, 6, 160, 0, 13, 42, 4, 42], [4, 42, 180, 0, 105, 182, 0, 115, 172, 42, 4, 16, 60, 182, 0, 129, 154, 0], [154, 0, 5, 3, 172, 42, 180, 0, 42, 42, 180, 0, 126, 42, 180, 0, 123, 79], [123, 79, 42, 89, 180, 0, 126, 4, 96, 181, 0, 126, 42, 182, 0, 111, 16, 44], [16, 44, 160, 0, 7, 4, 167, 0, 4, 3, 60, 42, 89, 180, 0, 98, 27, 153], [27, 153, 0, 7, 4, 167, 0, 4, 3, 96, 181, 0, 98, 167, 255, 165, 4, 172], [4, 172]]
theorem fW_cX10_takesBridges : fq_wins 7 cX10_takesBridges.data.toList = fw_cX10_takesBridges := by decide +kernel
theorem fk_cX10_takesBridges_0 : fq_ck cX10_takesBridges 0 [4, 60, 27, 153, 0, 93, 42, 180, 0, 126, 16, 6, 160, 0, 13, 42, 4, 42] := fq_of fW_cX10_takesBridges 0 rfl rfl
theorem dX10_takesBridges_0 : decode cX10_takesBridges 0 = .ok (.iconst 1, 1) := fq_4 fk_cX10_takesBridges_0 0 rfl rfl
theorem dX10_takesBridges_1 : decode cX10_takesBridges 1 = .ok (.istore_n 1, 1) := fq_60 fk_cX10_takesBridges_0 1 rfl rfl
theorem fk_cX10_takesBridges_6 : fq_ck cX10_takesBridges 96 [4, 172] := fq_of fW_cX10_takesBridges 6 rfl rfl
theorem dX10_takesBridges_96 : decode cX10_takesBridges 96 = .ok (.iconst 1, 1) := fq_4 fk_cX10_takesBridges_6 0 rfl rfl
theorem dX10_takesBridges_97 : decode cX10_takesBridges 97 = .ok (.ireturn, 1) := fq_172 fk_cX10_takesBridges_6 1 rfl rfl
theorem dX10_takesBridges_2 : decode cX10_takesBridges 2 = .ok (.iload_n 1, 1) := fq_27 fk_cX10_takesBridges_0 2 rfl rfl
theorem dX10_takesBridges_3 : decode cX10_takesBridges 3 = .ok (.ifCond .eq 93, 3) := fq_153 fk_cX10_takesBridges_0 3 rfl rfl rfl rfl rfl
theorem dX10_takesBridges_6 : decode cX10_takesBridges 6 = .ok (.aload_n 0, 1) := fq_42 fk_cX10_takesBridges_0 6 rfl rfl
theorem wd_527 : Cond.fieldLink RX10 126 "QuarrelBridgesModel" "readBridges" "I" ∈ BG := BG_at4 83 (by decide +kernel) rfl
theorem dX10_takesBridges_7 : decode cX10_takesBridges 7 = .ok (.getfield 126, 3) := fq_180 fk_cX10_takesBridges_0 7 rfl rfl rfl rfl rfl
theorem dX10_takesBridges_10 : decode cX10_takesBridges 10 = .ok (.bipush 6, 2) := fq_16 fk_cX10_takesBridges_0 10 rfl rfl rfl rfl
theorem dX10_takesBridges_12 : decode cX10_takesBridges 12 = .ok (.if_icmp .ne 13, 3) := fq_160 fk_cX10_takesBridges_0 12 rfl rfl rfl rfl rfl
theorem fk_cX10_takesBridges_1 : fq_ck cX10_takesBridges 16 [4, 42, 180, 0, 105, 182, 0, 115, 172, 42, 4, 16, 60, 182, 0, 129, 154, 0] := fq_of fW_cX10_takesBridges 1 rfl rfl
theorem dX10_takesBridges_25 : decode cX10_takesBridges 25 = .ok (.aload_n 0, 1) := fq_42 fk_cX10_takesBridges_1 9 rfl rfl
theorem dX10_takesBridges_26 : decode cX10_takesBridges 26 = .ok (.iconst 1, 1) := fq_4 fk_cX10_takesBridges_1 10 rfl rfl
theorem dX10_takesBridges_27 : decode cX10_takesBridges 27 = .ok (.bipush 60, 2) := fq_16 fk_cX10_takesBridges_1 11 rfl rfl rfl rfl
theorem dX10_takesBridges_29 : decode cX10_takesBridges 29 = .ok (.invokevirtual 129, 3) := fq_182 fk_cX10_takesBridges_1 13 rfl rfl rfl rfl rfl
theorem wd_528 : Cond.methodLink RX10 129 yX10_takesNumber ∈ BG := BG_at4 234 (by decide +kernel) rfl
theorem wd_529 : Cond.code yX10_takesNumber cX10_takesNumber 3 (some .boolean) ∈ BG := BG_at4 237 rfl rfl
theorem wd_530 : Cond.instanceMethod yX10_takesNumber ∈ BG := BG_at4 236 (by decide +kernel) rfl
theorem wd_531 : Cond.selects RX10 yX10_takesNumber yX10_takesNumber ∈ BG := BG_in (by decide +kernel) rfl
theorem okV_X10_takesNumber : okV yX10_takesNumber cX10_takesNumber 3 (some .boolean) 2 := ⟨⟨wd_529, wd_497, by decide +kernel⟩, wd_530, wd_531⟩
theorem fk_cX10_takesBridges_2 : fq_ck cX10_takesBridges 32 [154, 0, 5, 3, 172, 42, 180, 0, 42, 42, 180, 0, 126, 42, 180, 0, 123, 79] := fq_of fW_cX10_takesBridges 2 rfl rfl
theorem dX10_takesBridges_32 : decode cX10_takesBridges 32 = .ok (.ifCond .ne 5, 3) := fq_154 fk_cX10_takesBridges_2 0 rfl rfl rfl rfl rfl
theorem dX10_takesBridges_37 : decode cX10_takesBridges 37 = .ok (.aload_n 0, 1) := fq_42 fk_cX10_takesBridges_2 5 rfl rfl
theorem wd_532 : Cond.fieldLink RX10 42 "QuarrelBridgesModel" "readNeeds" "[I" ∈ BG := BG_at4 90 (by decide +kernel) rfl
theorem dX10_takesBridges_38 : decode cX10_takesBridges 38 = .ok (.getfield 42, 3) := fq_180 fk_cX10_takesBridges_2 6 rfl rfl rfl rfl rfl
theorem dX10_takesBridges_41 : decode cX10_takesBridges 41 = .ok (.aload_n 0, 1) := fq_42 fk_cX10_takesBridges_2 9 rfl rfl
theorem dX10_takesBridges_42 : decode cX10_takesBridges 42 = .ok (.getfield 126, 3) := fq_180 fk_cX10_takesBridges_2 10 rfl rfl rfl rfl rfl
theorem dX10_takesBridges_45 : decode cX10_takesBridges 45 = .ok (.aload_n 0, 1) := fq_42 fk_cX10_takesBridges_2 13 rfl rfl
theorem dX10_takesBridges_46 : decode cX10_takesBridges 46 = .ok (.getfield 123, 3) := fq_180 fk_cX10_takesBridges_2 14 rfl rfl rfl rfl rfl
theorem fk_cX10_takesBridges_3 : fq_ck cX10_takesBridges 48 [123, 79, 42, 89, 180, 0, 126, 4, 96, 181, 0, 126, 42, 182, 0, 111, 16, 44] := fq_of fW_cX10_takesBridges 3 rfl rfl
theorem dX10_takesBridges_49 : decode cX10_takesBridges 49 = .ok (.iastore, 1) := fq_79 fk_cX10_takesBridges_3 1 rfl rfl
theorem dX10_takesBridges_50 : decode cX10_takesBridges 50 = .ok (.aload_n 0, 1) := fq_42 fk_cX10_takesBridges_3 2 rfl rfl
theorem dX10_takesBridges_51 : decode cX10_takesBridges 51 = .ok (.dup, 1) := fq_89 fk_cX10_takesBridges_3 3 rfl rfl
theorem dX10_takesBridges_52 : decode cX10_takesBridges 52 = .ok (.getfield 126, 3) := fq_180 fk_cX10_takesBridges_3 4 rfl rfl rfl rfl rfl
theorem dX10_takesBridges_55 : decode cX10_takesBridges 55 = .ok (.iconst 1, 1) := fq_4 fk_cX10_takesBridges_3 7 rfl rfl
theorem dX10_takesBridges_56 : decode cX10_takesBridges 56 = .ok (.iadd, 1) := fq_96 fk_cX10_takesBridges_3 8 rfl rfl
theorem dX10_takesBridges_57 : decode cX10_takesBridges 57 = .ok (.putfield 126, 3) := fq_181 fk_cX10_takesBridges_3 9 rfl rfl rfl rfl rfl
theorem dX10_takesBridges_60 : decode cX10_takesBridges 60 = .ok (.aload_n 0, 1) := fq_42 fk_cX10_takesBridges_3 12 rfl rfl
theorem dX10_takesBridges_61 : decode cX10_takesBridges 61 = .ok (.invokevirtual 111, 3) := fq_182 fk_cX10_takesBridges_3 13 rfl rfl rfl rfl rfl
theorem fk_cX10_takesBridges_4 : fq_ck cX10_takesBridges 64 [16, 44, 160, 0, 7, 4, 167, 0, 4, 3, 60, 42, 89, 180, 0, 98, 27, 153] := fq_of fW_cX10_takesBridges 4 rfl rfl
theorem dX10_takesBridges_64 : decode cX10_takesBridges 64 = .ok (.bipush 44, 2) := fq_16 fk_cX10_takesBridges_4 0 rfl rfl rfl rfl
theorem dX10_takesBridges_66 : decode cX10_takesBridges 66 = .ok (.if_icmp .ne 7, 3) := fq_160 fk_cX10_takesBridges_4 2 rfl rfl rfl rfl rfl
theorem dX10_takesBridges_73 : decode cX10_takesBridges 73 = .ok (.iconst 0, 1) := fq_3 fk_cX10_takesBridges_4 9 rfl rfl
theorem dX10_takesBridges_74 : decode cX10_takesBridges 74 = .ok (.istore_n 1, 1) := fq_60 fk_cX10_takesBridges_4 10 rfl rfl
theorem dX10_takesBridges_75 : decode cX10_takesBridges 75 = .ok (.aload_n 0, 1) := fq_42 fk_cX10_takesBridges_4 11 rfl rfl
theorem dX10_takesBridges_76 : decode cX10_takesBridges 76 = .ok (.dup, 1) := fq_89 fk_cX10_takesBridges_4 12 rfl rfl
theorem dX10_takesBridges_77 : decode cX10_takesBridges 77 = .ok (.getfield 98, 3) := fq_180 fk_cX10_takesBridges_4 13 rfl rfl rfl rfl rfl
theorem fk_cX10_takesBridges_5 : fq_ck cX10_takesBridges 80 [27, 153, 0, 7, 4, 167, 0, 4, 3, 96, 181, 0, 98, 167, 255, 165, 4, 172] := fq_of fW_cX10_takesBridges 5 rfl rfl
theorem dX10_takesBridges_80 : decode cX10_takesBridges 80 = .ok (.iload_n 1, 1) := fq_27 fk_cX10_takesBridges_5 0 rfl rfl
theorem dX10_takesBridges_81 : decode cX10_takesBridges 81 = .ok (.ifCond .eq 7, 3) := fq_153 fk_cX10_takesBridges_5 1 rfl rfl rfl rfl rfl
theorem dX10_takesBridges_88 : decode cX10_takesBridges 88 = .ok (.iconst 0, 1) := fq_3 fk_cX10_takesBridges_5 8 rfl rfl
theorem dX10_takesBridges_89 : decode cX10_takesBridges 89 = .ok (.iadd, 1) := fq_96 fk_cX10_takesBridges_5 9 rfl rfl
theorem dX10_takesBridges_90 : decode cX10_takesBridges 90 = .ok (.putfield 98, 3) := fq_181 fk_cX10_takesBridges_5 10 rfl rfl rfl rfl rfl
theorem dX10_takesBridges_93 : decode cX10_takesBridges 93 = .ok (.goto (-91), 3) := fq_167 fk_cX10_takesBridges_5 13 rfl rfl rfl rfl rfl
theorem dX10_takesBridges_69 : decode cX10_takesBridges 69 = .ok (.iconst 1, 1) := fq_4 fk_cX10_takesBridges_4 5 rfl rfl
theorem dX10_takesBridges_70 : decode cX10_takesBridges 70 = .ok (.goto 4, 3) := fq_167 fk_cX10_takesBridges_4 6 rfl rfl rfl rfl rfl
theorem dX10_takesBridges_84 : decode cX10_takesBridges 84 = .ok (.iconst 1, 1) := fq_4 fk_cX10_takesBridges_5 4 rfl rfl
theorem dX10_takesBridges_85 : decode cX10_takesBridges 85 = .ok (.goto 4, 3) := fq_167 fk_cX10_takesBridges_5 5 rfl rfl rfl rfl rfl
theorem dX10_takesBridges_35 : decode cX10_takesBridges 35 = .ok (.iconst 0, 1) := fq_3 fk_cX10_takesBridges_2 3 rfl rfl
theorem dX10_takesBridges_36 : decode cX10_takesBridges 36 = .ok (.ireturn, 1) := fq_172 fk_cX10_takesBridges_2 4 rfl rfl
theorem dX10_takesBridges_15 : decode cX10_takesBridges 15 = .ok (.aload_n 0, 1) := fq_42 fk_cX10_takesBridges_0 15 rfl rfl
theorem dX10_takesBridges_16 : decode cX10_takesBridges 16 = .ok (.iconst 1, 1) := fq_4 fk_cX10_takesBridges_1 0 rfl rfl
theorem dX10_takesBridges_17 : decode cX10_takesBridges 17 = .ok (.aload_n 0, 1) := fq_42 fk_cX10_takesBridges_1 1 rfl rfl
theorem dX10_takesBridges_18 : decode cX10_takesBridges 18 = .ok (.getfield 105, 3) := fq_180 fk_cX10_takesBridges_1 2 rfl rfl rfl rfl rfl
theorem dX10_takesBridges_21 : decode cX10_takesBridges 21 = .ok (.invokevirtual 115, 3) := fq_182 fk_cX10_takesBridges_1 5 rfl rfl rfl rfl rfl
theorem dX10_takesBridges_24 : decode cX10_takesBridges 24 = .ok (.ireturn, 1) := fq_172 fk_cX10_takesBridges_1 8 rfl rfl
noncomputable def f_m_takesBridges_2 (f13 : Nat → Int32) (n : Nat) : Int32 → (Nat → Int32) → (Nat → Int32) → (Int32 × (Nat → Int32) × (Nat → Int32)) ⊕ (Int32 × (Nat → Int32) × (Nat → Int32)) := Nat.rec (motive := fun _ => Int32 → (Nat → Int32) → (Nat → Int32) → (Int32 × (Nat → Int32) × (Nat → Int32)) ⊕ (Int32 × (Nat → Int32) × (Nat → Int32))) (fun w_1l1 w_1m0 w_1m1 => Sum.inl (w_1l1, w_1m0, w_1m1)) (fun n ih w_1l1 w_1m0 w_1m1 => (if w_1l1 = 0 then (Sum.inl (w_1l1, w_1m0, w_1m1)) else (if (w_1m0 20) = 6 then (match (f_m_fails w_1m0 1 (w_1m0 16)) with | (r_17, u_16) => (Sum.inr (r_17, u_16, w_1m1))) else (match (f_m_takesNumber w_1m0 f13 1 60) with | (r_6, u_5) => (if r_6 = 0 then (Sum.inr (0, u_5, w_1m1)) else (match (f_m_here (upd u_5 20 ((u_5 20) + 1)) f13) with | (r_11, u_10) => (if r_11 = 44 then (ih 1 (upd u_10 15 ((u_10 15) + 1)) (upd w_1m1 ((u_5 20) : Int32).toNatClampNeg (u_5 17))) else (ih 0 (upd u_10 15 ((u_10 15) + 0)) (upd w_1m1 ((u_5 20) : Int32).toNatClampNeg (u_5 17)))))))))) n
theorem f_m_takesBridges_2_s (f13 : Nat → Int32) (n : Nat) (w_1l1 : Int32) (w_1m0 : (Nat → Int32)) (w_1m1 : (Nat → Int32)) : f_m_takesBridges_2 f13 (n + 1) w_1l1 w_1m0 w_1m1 = (if w_1l1 = 0 then (Sum.inl (w_1l1, w_1m0, w_1m1)) else (if (w_1m0 20) = 6 then (match (f_m_fails w_1m0 1 (w_1m0 16)) with | (r_17, u_16) => (Sum.inr (r_17, u_16, w_1m1))) else (match (f_m_takesNumber w_1m0 f13 1 60) with | (r_6, u_5) => (if r_6 = 0 then (Sum.inr (0, u_5, w_1m1)) else (match (f_m_here (upd u_5 20 ((u_5 20) + 1)) f13) with | (r_11, u_10) => (if r_11 = 44 then (f_m_takesBridges_2 f13 n 1 (upd u_10 15 ((u_10 15) + 1)) (upd w_1m1 ((u_5 20) : Int32).toNatClampNeg (u_5 17))) else (f_m_takesBridges_2 f13 n 0 (upd u_10 15 ((u_10 15) + 0)) (upd w_1m1 ((u_5 20) : Int32).toNatClampNeg (u_5 17))))))))) := rfl
def S_m_takesBridges_2 (f13 : Nat → Int32) (K : Int32 → (Nat → Int32) → (Nat → Int32) → Prop) (n : Nat) : Int32 → (Nat → Int32) → (Nat → Int32) → Prop := Nat.rec (motive := fun _ => Int32 → (Nat → Int32) → (Nat → Int32) → Prop) (fun _ _ _ => False) (fun n ih w_1l1 w_1m0 w_1m1 => ((w_1l1 = 0 → (K w_1l1 w_1m0 w_1m1)) ∧ (¬ w_1l1 = 0 → (((w_1m0 20) = 6 → ((S_m_fails w_1m0 1 (w_1m0 16)) ∧ (∀ (r_17 : Int32) (u_16 : (Nat → Int32)), (r_17, u_16) = (f_m_fails w_1m0 1 (w_1m0 16)) → True))) ∧ (¬ (w_1m0 20) = 6 → ((S_m_takesNumber w_1m0 f13 1 60) ∧ (∀ (r_6 : Int32) (u_5 : (Nat → Int32)), (r_6, u_5) = (f_m_takesNumber w_1m0 f13 1 60) → ((r_6 = 0 → True) ∧ (¬ r_6 = 0 → (vp_in (u_5 20) 6 ∧ ((S_m_here (upd u_5 20 ((u_5 20) + 1)) f13) ∧ (∀ (r_11 : Int32) (u_10 : (Nat → Int32)), (r_11, u_10) = (f_m_here (upd u_5 20 ((u_5 20) + 1)) f13) → ((r_11 = 44 → (ih 1 (upd u_10 15 ((u_10 15) + 1)) (upd w_1m1 ((u_5 20) : Int32).toNatClampNeg (u_5 17)))) ∧ (¬ r_11 = 44 → (ih 0 (upd u_10 15 ((u_10 15) + 0)) (upd w_1m1 ((u_5 20) : Int32).toNatClampNeg (u_5 17))))))))))))))))) n
theorem S_m_takesBridges_2_s (f13 : Nat → Int32) (K : Int32 → (Nat → Int32) → (Nat → Int32) → Prop) (n : Nat) (w_1l1 : Int32) (w_1m0 : (Nat → Int32)) (w_1m1 : (Nat → Int32)) : S_m_takesBridges_2 f13 K (n + 1) w_1l1 w_1m0 w_1m1 = (((w_1l1 = 0 → (K w_1l1 w_1m0 w_1m1)) ∧ (¬ w_1l1 = 0 → (((w_1m0 20) = 6 → ((S_m_fails w_1m0 1 (w_1m0 16)) ∧ (∀ (r_17 : Int32) (u_16 : (Nat → Int32)), (r_17, u_16) = (f_m_fails w_1m0 1 (w_1m0 16)) → True))) ∧ (¬ (w_1m0 20) = 6 → ((S_m_takesNumber w_1m0 f13 1 60) ∧ (∀ (r_6 : Int32) (u_5 : (Nat → Int32)), (r_6, u_5) = (f_m_takesNumber w_1m0 f13 1 60) → ((r_6 = 0 → True) ∧ (¬ r_6 = 0 → (vp_in (u_5 20) 6 ∧ ((S_m_here (upd u_5 20 ((u_5 20) + 1)) f13) ∧ (∀ (r_11 : Int32) (u_10 : (Nat → Int32)), (r_11, u_10) = (f_m_here (upd u_5 20 ((u_5 20) + 1)) f13) → ((r_11 = 44 → (S_m_takesBridges_2 f13 K n 1 (upd u_10 15 ((u_10 15) + 1)) (upd w_1m1 ((u_5 20) : Int32).toNatClampNeg (u_5 17)))) ∧ (¬ r_11 = 44 → (S_m_takesBridges_2 f13 K n 0 (upd u_10 15 ((u_10 15) + 0)) (upd w_1m1 ((u_5 20) : Int32).toNatClampNeg (u_5 17))))))))))))))))) := rfl
noncomputable def f_m_takesBridges (G : Nat → Int32) (f13 : Nat → Int32) (f27 : Nat → Int32) : Int32 × (Nat → Int32) × (Nat → Int32) := (match ((f_m_takesBridges_2 f13 10 1 G f27) : (Int32 × (Nat → Int32) × (Nat → Int32)) ⊕ (Int32 × (Nat → Int32) × (Nat → Int32))) with | Sum.inl (w_1l1, w_1m0, w_1m1) => (1, w_1m0, w_1m1) | Sum.inr o => o)
def S_m_takesBridges (G : Nat → Int32) (f13 : Nat → Int32) (f27 : Nat → Int32) : Prop := (S_m_takesBridges_2 f13 (fun (w_1l1 : Int32) (w_1m0 : (Nat → Int32)) (w_1m1 : (Nat → Int32)) => True) 10 1 G f27)
def rm_m_takesBridges : Room := { frames := 3, cells := 0, slots := 0, locals := 63 }
set_option maxHeartbeats 4000000 in
set_option maxRecDepth 100000 in
theorem m_takesBridges {l : Launch} {D : va_G} {cI cZ : ClassId} {sz : Nat} (Rf : Nat → Nat) (h : Nat) (G : Nat → Int32) (f13 : Nat → Int32) (f27 : Nat → Int32) (hF : S_m_takesBridges G f13 f27) : KI l yX10_takesBridges cX10_takesBridges 2 (some .boolean) rm_m_takesBridges D cI cZ [.ref h] sz [(h, .inr (10, ML G Rf)), ((Rf 13), .inl (cI, 240, .inl f13)), ((Rf 27), .inl (cI, 6, .inl f27))] (fun (r : Int32) (u : (Nat → Int32) × (Nat → Int32)) => (r, u) = f_m_takesBridges G f13 f27) (fun (u : (Nat → Int32) × (Nat → Int32)) => [(h, .inr (10, ML u.1 Rf)), ((Rf 13), .inl (cI, 240, .inl f13)), ((Rf 27), .inl (cI, 6, .inl u.2))]) := by
  refine KI.go rfl (Nat.le_of_ble_eq_true rfl) ?_
  intro p e s m args below meth c ls A Q hx hb hml hts hown hin hP hK hD hS hA hN hl hret
  have hl : lv_has ls 2 [(0, .ref h)] := hl
  rw [S_m_takesBridges] at hF
  obtain ⟨RES, hE⟩ : ∃ xRES, f_m_takesBridges G f13 f27 = xRES := ⟨_, rfl⟩
  rw [hE] at hret
  rw [f_m_takesBridges] at hE
  refine lv_iconst (v := 1) hx hb dX10_takesBridges_0 rfl ?_
  refine lv_istore_n (lv' := [(1, .int 1), (0, .ref h)]) hx hb dX10_takesBridges_1 rfl hl (Nat.le_of_ble_eq_true rfl) rfl (fun ls hl => ?_)
  have ex_2_w_1 : ∀ (w_1l1 : Int32) (w_1m0 : (Nat → Int32)) (w_1m1 : (Nat → Int32)) (H : Heap) (locs : List Loc) (ls : Array Slot), va_P D classes [(h, .inr (10, ML w_1m0 Rf)), ((Rf 13), .inl (cI, 240, .inl f13)), ((Rf 27), .inl (cI, 6, .inl w_1m1))] H → va_D A [(h, .inr (10, ML w_1m0 Rf)), ((Rf 13), .inl (cI, 240, .inl f13)), ((Rf 27), .inl (cI, 6, .inl w_1m1))] → va_S A s.heap H locs → lv_has ls 2 [(1, .int w_1l1), (0, .ref h)] → (True) → (((1, w_1m0, w_1m1)) : Int32 × (Nat → Int32) × (Nat → Int32)) = RES → W p l e rm_m_takesBridges s m args below meth c H locs 0 0 Q (F0 m 96 ls []) := by
    intro w_1l1 w_1m0 w_1m1 H locs ls hP hD hS hl hF hE
    refine lv_iconst (v := 1) hx hb dX10_takesBridges_96 rfl ?_
    exact hret 1 (w_1m0, w_1m1) _ _ _ _ dX10_takesBridges_97 rfl hE hP hD hS
  have lp_2_w_1 : ∀ (n_w_1 : Nat) (w_1l1 : Int32) (w_1m0 : (Nat → Int32)) (w_1m1 : (Nat → Int32)) (H : Heap) (locs : List Loc) (ls : Array Slot), va_P D classes [(h, .inr (10, ML w_1m0 Rf)), ((Rf 13), .inl (cI, 240, .inl f13)), ((Rf 27), .inl (cI, 6, .inl w_1m1))] H → va_D A [(h, .inr (10, ML w_1m0 Rf)), ((Rf 13), .inl (cI, 240, .inl f13)), ((Rf 27), .inl (cI, 6, .inl w_1m1))] → va_S A s.heap H locs → lv_has ls 2 [(1, .int w_1l1), (0, .ref h)] → (S_m_takesBridges_2 f13 (fun (w_1l1 : Int32) (w_1m0 : (Nat → Int32)) (w_1m1 : (Nat → Int32)) => True) n_w_1 w_1l1 w_1m0 w_1m1) → ((match ((f_m_takesBridges_2 f13 n_w_1 w_1l1 w_1m0 w_1m1) : (Int32 × (Nat → Int32) × (Nat → Int32)) ⊕ (Int32 × (Nat → Int32) × (Nat → Int32))) with | Sum.inl (w_1l1, w_1m0, w_1m1) => (1, w_1m0, w_1m1) | Sum.inr o => o) : Int32 × (Nat → Int32) × (Nat → Int32)) = RES → W p l e rm_m_takesBridges s m args below meth c H locs 0 0 Q (F0 m 2 ls []) := by
    intro n_w_1
    induction n_w_1 with
    | zero => intro w_1l1 w_1m0 w_1m1 H locs ls hP hD hS hl hF hE; exact False.elim hF
    | succ n_w_1 ih_w_1 =>
      intro w_1l1 w_1m0 w_1m1 H locs ls hP hD hS hl hF hE
      rw [S_m_takesBridges_2_s] at hF
      rw [f_m_takesBridges_2_s] at hE
      refine lv_iload_n hx hb dX10_takesBridges_2 rfl (lv_at hl 0 rfl) ?_
      refine lv_if_eq (tgt := 96) hx hb dX10_takesBridges_3 rfl (fun c_2 => ?_) (fun c_2 => ?_)
      · replace hF := hF.1 c_2
        rw [if_pos c_2] at hE
        exact ex_2_w_1 w_1l1 w_1m0 w_1m1 _ _ ls hP hD hS (lv_sub hl [0, 1] rfl) hF hE
      · replace hF := hF.2 c_2
        rw [if_neg c_2] at hE
        refine lv_aload_n hx hb dX10_takesBridges_6 rfl (lv_at hl 1 rfl) ?_
        refine va_get (D := D) (ci := 10) (v := .int (w_1m0 20)) (C := RX10) (T := TX10) (N := 45) hx hb hts iX10 hown hK hP 0 rfl rfl 20 (Nat.le_of_ble_eq_true rfl) (hts _ wd_527) (fun _ h9 => h9) rfl dX10_takesBridges_7 ?_
        refine lv_bipush (v := 6) hx hb dX10_takesBridges_10 rfl ?_
        refine lv_icmp_ne (tgt := 25) hx hb dX10_takesBridges_12 rfl (fun c_3 => ?_) (fun c_3 => ?_)
        · replace hF := hF.2 c_3
          rw [if_neg c_3] at hE
          refine lv_aload_n hx hb dX10_takesBridges_25 rfl (lv_at hl 1 rfl) ?_
          refine lv_iconst (v := 1) hx hb dX10_takesBridges_26 rfl ?_
          refine lv_bipush (v := 60) hx hb dX10_takesBridges_27 rfl ?_
          obtain ⟨hs_4, hF⟩ := hF
          refine cVi (wr := [((Rf 27), .inl (cI, 6, .inl w_1m1))]) (rest := []) (m_takesNumber Rf h w_1m0 f13 1 60 hs_4) okV_X10_takesNumber wd_528 hx hb hml hown hts hK hP hD hS hA hN hl.1 [0, 1] [2] rfl rfl rfl rfl (of_decide_eq_true rfl) rfl rfl rfl (Nat.le_of_ble_eq_true rfl) (Nat.le_of_ble_eq_true rfl) (Nat.le_of_ble_eq_true rfl) (Nat.le_of_ble_eq_true rfl) (Nat.le_of_ble_eq_true rfl) dX10_takesBridges_29 (fun r_6 u_5 H locs hw_u_5 hP hD hS => ?_)
          replace hw_u_5 : (r_6, u_5) = (f_m_takesNumber w_1m0 f13 1 60) := hw_u_5
          replace hF := hF r_6 u_5 hw_u_5
          rw [← hw_u_5] at hE
          replace hE : ((match ((if r_6 = 0 then (Sum.inr (0, u_5, w_1m1)) else (match (f_m_here (upd u_5 20 ((u_5 20) + 1)) f13) with | (r_11, u_10) => (if r_11 = 44 then (f_m_takesBridges_2 f13 n_w_1 1 (upd u_10 15 ((u_10 15) + 1)) (upd w_1m1 ((u_5 20) : Int32).toNatClampNeg (u_5 17))) else (f_m_takesBridges_2 f13 n_w_1 0 (upd u_10 15 ((u_10 15) + 0)) (upd w_1m1 ((u_5 20) : Int32).toNatClampNeg (u_5 17)))))) : (Int32 × (Nat → Int32) × (Nat → Int32)) ⊕ (Int32 × (Nat → Int32) × (Nat → Int32))) with | Sum.inl (w_1l1, w_1m0, w_1m1) => (1, w_1m0, w_1m1) | Sum.inr o => o) : Int32 × (Nat → Int32) × (Nat → Int32)) = RES := hE
          have hP : va_P D classes [((Rf 27), .inl (cI, 6, .inl w_1m1)), (h, .inr (10, ML u_5 Rf)), ((Rf 13), .inl (cI, 240, .inl f13))] H := hP
          have hD : va_D A [((Rf 27), .inl (cI, 6, .inl w_1m1)), (h, .inr (10, ML u_5 Rf)), ((Rf 13), .inl (cI, 240, .inl f13))] := hD
          refine lv_if_ne (tgt := 37) hx hb dX10_takesBridges_32 rfl (fun c_7 => ?_) (fun c_7 => ?_)
          · replace hF := hF.2 c_7
            rw [if_neg c_7] at hE
            refine lv_aload_n hx hb dX10_takesBridges_37 rfl (lv_at hl 1 rfl) ?_
            refine va_get (D := D) (ci := 10) (v := .ref (Rf 27)) (C := RX10) (T := TX10) (N := 45) hx hb hts iX10 hown hK hP 1 rfl rfl 27 (Nat.le_of_ble_eq_true rfl) (hts _ wd_532) (fun _ h9 => h9) rfl dX10_takesBridges_38 ?_
            refine lv_aload_n hx hb dX10_takesBridges_41 rfl (lv_at hl 1 rfl) ?_
            refine va_get (D := D) (ci := 10) (v := .int (u_5 20)) (C := RX10) (T := TX10) (N := 45) hx hb hts iX10 hown hK hP 1 rfl rfl 20 (Nat.le_of_ble_eq_true rfl) (hts _ wd_527) (fun _ h9 => h9) rfl dX10_takesBridges_42 ?_
            refine lv_aload_n hx hb dX10_takesBridges_45 rfl (lv_at hl 1 rfl) ?_
            refine va_get (D := D) (ci := 10) (v := .int (u_5 17)) (C := RX10) (T := TX10) (N := 45) hx hb hts iX10 hown hK hP 1 rfl rfl 17 (Nat.le_of_ble_eq_true rfl) (hts _ wd_526) (fun _ h9 => h9) rfl dX10_takesBridges_46 ?_
            obtain ⟨hv_8, hF⟩ := hF
            refine va_iast hx hb hK hP hD hS 0 0 rfl rfl hv_8 dX10_takesBridges_49 (fun H locs hP hD hS => ?_)
            have hP : va_P D classes [((Rf 27), .inl (cI, 6, .inl (upd w_1m1 ((u_5 20) : Int32).toNatClampNeg (u_5 17)))), (h, .inr (10, ML u_5 Rf)), ((Rf 13), .inl (cI, 240, .inl f13))] H := hP
            have hD : va_D A [((Rf 27), .inl (cI, 6, .inl (upd w_1m1 ((u_5 20) : Int32).toNatClampNeg (u_5 17)))), (h, .inr (10, ML u_5 Rf)), ((Rf 13), .inl (cI, 240, .inl f13))] := hD
            refine lv_aload_n hx hb dX10_takesBridges_50 rfl (lv_at hl 1 rfl) ?_
            refine lv_dup hx hb dX10_takesBridges_51 rfl ?_
            refine va_get (D := D) (ci := 10) (v := .int (u_5 20)) (C := RX10) (T := TX10) (N := 45) hx hb hts iX10 hown hK hP 1 rfl rfl 20 (Nat.le_of_ble_eq_true rfl) (hts _ wd_527) (fun _ h9 => h9) rfl dX10_takesBridges_52 ?_
            refine lv_iconst (v := 1) hx hb dX10_takesBridges_55 rfl ?_
            refine lv_iadd hx hb dX10_takesBridges_56 ?_
            refine va_put (D := D) (ci := 10) (v := .int ((u_5 20) + 1)) (ty := .int) (C := RX10) (T := TX10) (N := 45) hx hb hts iX10 tyX10 tyX10_ok nmX10 hown hK hP hD hS 1 rfl rfl 20 (Nat.le_of_ble_eq_true rfl) (hts _ wd_527) (fun _ h9 => h9) rfl (by decide +kernel) rfl rfl (Nat.le_of_ble_eq_true rfl) dX10_takesBridges_57 (fun H locs hP hD hS => ?_)
            have hP : va_P D classes [((Rf 27), .inl (cI, 6, .inl (upd w_1m1 ((u_5 20) : Int32).toNatClampNeg (u_5 17)))), (h, .inr (10, ML (upd u_5 20 ((u_5 20) + 1)) Rf)), ((Rf 13), .inl (cI, 240, .inl f13))] H := hP
            have hD : va_D A [((Rf 27), .inl (cI, 6, .inl (upd w_1m1 ((u_5 20) : Int32).toNatClampNeg (u_5 17)))), (h, .inr (10, ML (upd u_5 20 ((u_5 20) + 1)) Rf)), ((Rf 13), .inl (cI, 240, .inl f13))] := hD
            refine lv_aload_n hx hb dX10_takesBridges_60 rfl (lv_at hl 1 rfl) ?_
            obtain ⟨hs_9, hF⟩ := hF
            refine cVi (wr := [((Rf 27), .inl (cI, 6, .inl (upd w_1m1 ((u_5 20) : Int32).toNatClampNeg (u_5 17))))]) (rest := []) (m_here Rf h (upd u_5 20 ((u_5 20) + 1)) f13 hs_9) okV_X10_here wd_516 hx hb hml hown hts hK hP hD hS hA hN hl.1 [1, 2] [0] rfl rfl rfl rfl (of_decide_eq_true rfl) rfl rfl rfl (Nat.le_of_ble_eq_true rfl) (Nat.le_of_ble_eq_true rfl) (Nat.le_of_ble_eq_true rfl) (Nat.le_of_ble_eq_true rfl) (Nat.le_of_ble_eq_true rfl) dX10_takesBridges_61 (fun r_11 u_10 H locs hw_u_10 hP hD hS => ?_)
            replace hw_u_10 : (r_11, u_10) = (f_m_here (upd u_5 20 ((u_5 20) + 1)) f13) := hw_u_10
            replace hF := hF r_11 u_10 hw_u_10
            rw [← hw_u_10] at hE
            replace hE : ((match ((if r_11 = 44 then (f_m_takesBridges_2 f13 n_w_1 1 (upd u_10 15 ((u_10 15) + 1)) (upd w_1m1 ((u_5 20) : Int32).toNatClampNeg (u_5 17))) else (f_m_takesBridges_2 f13 n_w_1 0 (upd u_10 15 ((u_10 15) + 0)) (upd w_1m1 ((u_5 20) : Int32).toNatClampNeg (u_5 17)))) : (Int32 × (Nat → Int32) × (Nat → Int32)) ⊕ (Int32 × (Nat → Int32) × (Nat → Int32))) with | Sum.inl (w_1l1, w_1m0, w_1m1) => (1, w_1m0, w_1m1) | Sum.inr o => o) : Int32 × (Nat → Int32) × (Nat → Int32)) = RES := hE
            have hP : va_P D classes [((Rf 27), .inl (cI, 6, .inl (upd w_1m1 ((u_5 20) : Int32).toNatClampNeg (u_5 17)))), (h, .inr (10, ML u_10 Rf)), ((Rf 13), .inl (cI, 240, .inl f13))] H := hP
            have hD : va_D A [((Rf 27), .inl (cI, 6, .inl (upd w_1m1 ((u_5 20) : Int32).toNatClampNeg (u_5 17)))), (h, .inr (10, ML u_10 Rf)), ((Rf 13), .inl (cI, 240, .inl f13))] := hD
            refine lv_bipush (v := 44) hx hb dX10_takesBridges_64 rfl ?_
            refine lv_icmp_ne (tgt := 73) hx hb dX10_takesBridges_66 rfl (fun c_12 => ?_) (fun c_12 => ?_)
            · replace hF := hF.2 c_12
              rw [if_neg c_12] at hE
              refine lv_iconst (v := 0) hx hb dX10_takesBridges_73 rfl ?_
              refine lv_istore_n (lv' := [(1, .int 0), (0, .ref h)]) hx hb dX10_takesBridges_74 rfl hl (Nat.le_of_ble_eq_true rfl) rfl (fun ls hl => ?_)
              refine lv_aload_n hx hb dX10_takesBridges_75 rfl (lv_at hl 1 rfl) ?_
              refine lv_dup hx hb dX10_takesBridges_76 rfl ?_
              refine va_get (D := D) (ci := 10) (v := .int (u_10 15)) (C := RX10) (T := TX10) (N := 45) hx hb hts iX10 hown hK hP 1 rfl rfl 15 (Nat.le_of_ble_eq_true rfl) (hts _ wd_508) (fun _ h9 => h9) rfl dX10_takesBridges_77 ?_
              refine lv_iload_n hx hb dX10_takesBridges_80 rfl (lv_at hl 0 rfl) ?_
              refine lv_if_eq (tgt := 88) hx hb dX10_takesBridges_81 rfl (fun c_13 => ?_) (fun c_13 => absurd (by decide +kernel) c_13)
              refine lv_iconst (v := 0) hx hb dX10_takesBridges_88 rfl ?_
              refine lv_iadd hx hb dX10_takesBridges_89 ?_
              refine va_put (D := D) (ci := 10) (v := .int ((u_10 15) + 0)) (ty := .int) (C := RX10) (T := TX10) (N := 45) hx hb hts iX10 tyX10 tyX10_ok nmX10 hown hK hP hD hS 1 rfl rfl 15 (Nat.le_of_ble_eq_true rfl) (hts _ wd_508) (fun _ h9 => h9) rfl (by decide +kernel) rfl rfl (Nat.le_of_ble_eq_true rfl) dX10_takesBridges_90 (fun H locs hP hD hS => ?_)
              have hP : va_P D classes [((Rf 27), .inl (cI, 6, .inl (upd w_1m1 ((u_5 20) : Int32).toNatClampNeg (u_5 17)))), (h, .inr (10, ML (upd u_10 15 ((u_10 15) + 0)) Rf)), ((Rf 13), .inl (cI, 240, .inl f13))] H := hP
              have hD : va_D A [((Rf 27), .inl (cI, 6, .inl (upd w_1m1 ((u_5 20) : Int32).toNatClampNeg (u_5 17)))), (h, .inr (10, ML (upd u_10 15 ((u_10 15) + 0)) Rf)), ((Rf 13), .inl (cI, 240, .inl f13))] := hD
              refine lv_goto (tgt := 2) hx hb dX10_takesBridges_93 rfl ?_
              exact ih_w_1 0 (upd u_10 15 ((u_10 15) + 0)) (upd w_1m1 ((u_5 20) : Int32).toNatClampNeg (u_5 17)) _ _ ls (cutP (isC := [1, 2, 0]) hP rfl) (cutD (isC := [1, 2, 0]) hD rfl rfl) hS (lv_sub hl [0, 1] rfl) hF hE
            · replace hF := hF.1 c_12
              rw [if_pos c_12] at hE
              subst c_12
              refine lv_iconst (v := 1) hx hb dX10_takesBridges_69 rfl ?_
              refine lv_goto (tgt := 74) hx hb dX10_takesBridges_70 rfl ?_
              refine lv_istore_n (lv' := [(1, .int 1), (0, .ref h)]) hx hb dX10_takesBridges_74 rfl hl (Nat.le_of_ble_eq_true rfl) rfl (fun ls hl => ?_)
              refine lv_aload_n hx hb dX10_takesBridges_75 rfl (lv_at hl 1 rfl) ?_
              refine lv_dup hx hb dX10_takesBridges_76 rfl ?_
              refine va_get (D := D) (ci := 10) (v := .int (u_10 15)) (C := RX10) (T := TX10) (N := 45) hx hb hts iX10 hown hK hP 1 rfl rfl 15 (Nat.le_of_ble_eq_true rfl) (hts _ wd_508) (fun _ h9 => h9) rfl dX10_takesBridges_77 ?_
              refine lv_iload_n hx hb dX10_takesBridges_80 rfl (lv_at hl 0 rfl) ?_
              refine lv_if_eq (tgt := 88) hx hb dX10_takesBridges_81 rfl (fun c_14 => absurd c_14 (by decide +kernel)) (fun c_14 => ?_)
              refine lv_iconst (v := 1) hx hb dX10_takesBridges_84 rfl ?_
              refine lv_goto (tgt := 89) hx hb dX10_takesBridges_85 rfl ?_
              refine lv_iadd hx hb dX10_takesBridges_89 ?_
              refine va_put (D := D) (ci := 10) (v := .int ((u_10 15) + 1)) (ty := .int) (C := RX10) (T := TX10) (N := 45) hx hb hts iX10 tyX10 tyX10_ok nmX10 hown hK hP hD hS 1 rfl rfl 15 (Nat.le_of_ble_eq_true rfl) (hts _ wd_508) (fun _ h9 => h9) rfl (by decide +kernel) rfl rfl (Nat.le_of_ble_eq_true rfl) dX10_takesBridges_90 (fun H locs hP hD hS => ?_)
              have hP : va_P D classes [((Rf 27), .inl (cI, 6, .inl (upd w_1m1 ((u_5 20) : Int32).toNatClampNeg (u_5 17)))), (h, .inr (10, ML (upd u_10 15 ((u_10 15) + 1)) Rf)), ((Rf 13), .inl (cI, 240, .inl f13))] H := hP
              have hD : va_D A [((Rf 27), .inl (cI, 6, .inl (upd w_1m1 ((u_5 20) : Int32).toNatClampNeg (u_5 17)))), (h, .inr (10, ML (upd u_10 15 ((u_10 15) + 1)) Rf)), ((Rf 13), .inl (cI, 240, .inl f13))] := hD
              refine lv_goto (tgt := 2) hx hb dX10_takesBridges_93 rfl ?_
              exact ih_w_1 1 (upd u_10 15 ((u_10 15) + 1)) (upd w_1m1 ((u_5 20) : Int32).toNatClampNeg (u_5 17)) _ _ ls (cutP (isC := [1, 2, 0]) hP rfl) (cutD (isC := [1, 2, 0]) hD rfl rfl) hS (lv_sub hl [0, 1] rfl) hF hE
          · replace hF := hF.1 c_7
            rw [if_pos c_7] at hE
            subst c_7
            refine lv_iconst (v := 0) hx hb dX10_takesBridges_35 rfl ?_
            exact hret 0 (u_5, w_1m1) _ _ _ _ dX10_takesBridges_36 rfl hE (cutP (isC := [1, 2, 0]) hP rfl) (cutD (isC := [1, 2, 0]) hD rfl rfl) hS
        · replace hF := hF.1 c_3
          rw [if_pos c_3] at hE
          refine lv_aload_n hx hb dX10_takesBridges_15 rfl (lv_at hl 1 rfl) ?_
          refine lv_iconst (v := 1) hx hb dX10_takesBridges_16 rfl ?_
          refine lv_aload_n hx hb dX10_takesBridges_17 rfl (lv_at hl 1 rfl) ?_
          refine va_get (D := D) (ci := 10) (v := .int (w_1m0 16)) (C := RX10) (T := TX10) (N := 45) hx hb hts iX10 hown hK hP 0 rfl rfl 16 (Nat.le_of_ble_eq_true rfl) (hts _ wd_509) (fun _ h9 => h9) rfl dX10_takesBridges_18 ?_
          obtain ⟨hs_15, hF⟩ := hF
          refine cVi (wr := [((Rf 13), .inl (cI, 240, .inl f13)), ((Rf 27), .inl (cI, 6, .inl w_1m1))]) (rest := []) (m_fails Rf h w_1m0 1 (w_1m0 16) hs_15) okV_X10_fails wd_520 hx hb hml hown hts hK hP hD hS hA hN hl.1 [0] [1, 2] rfl rfl rfl rfl (of_decide_eq_true rfl) rfl rfl rfl (Nat.le_of_ble_eq_true rfl) (Nat.le_of_ble_eq_true rfl) (Nat.le_of_ble_eq_true rfl) (Nat.le_of_ble_eq_true rfl) (Nat.le_of_ble_eq_true rfl) dX10_takesBridges_21 (fun r_17 u_16 H locs hw_u_16 hP hD hS => ?_)
          replace hw_u_16 : (r_17, u_16) = (f_m_fails w_1m0 1 (w_1m0 16)) := hw_u_16
          replace hF := hF r_17 u_16 hw_u_16
          rw [← hw_u_16] at hE
          replace hE : ((match ((Sum.inr (r_17, u_16, w_1m1)) : (Int32 × (Nat → Int32) × (Nat → Int32)) ⊕ (Int32 × (Nat → Int32) × (Nat → Int32))) with | Sum.inl (w_1l1, w_1m0, w_1m1) => (1, w_1m0, w_1m1) | Sum.inr o => o) : Int32 × (Nat → Int32) × (Nat → Int32)) = RES := hE
          have hP : va_P D classes [((Rf 13), .inl (cI, 240, .inl f13)), ((Rf 27), .inl (cI, 6, .inl w_1m1)), (h, .inr (10, ML u_16 Rf))] H := hP
          have hD : va_D A [((Rf 13), .inl (cI, 240, .inl f13)), ((Rf 27), .inl (cI, 6, .inl w_1m1)), (h, .inr (10, ML u_16 Rf))] := hD
          exact hret r_17 (u_16, w_1m1) _ _ _ _ dX10_takesBridges_24 (narrow_b01 (Or.inl (congrArg Prod.fst hw_u_16))) hE (cutP (isC := [2, 0, 1]) hP rfl) (cutD (isC := [2, 0, 1]) hD rfl rfl) hS
  exact lp_2_w_1 10 1 G f27 _ _ ls hP hD hS hl hF hE
end
section
def fw_cX10_takesThemes : List (List Nat) := [[42, 4, 181, 0, 132, 42, 4, 8, 182, 0, 129, 154, 0, 5, 3, 172, 42, 42], [42, 42, 180, 0, 123, 181, 0, 136, 4, 172]]
theorem fW_cX10_takesThemes : fq_wins 2 cX10_takesThemes.data.toList = fw_cX10_takesThemes := by decide +kernel
theorem fk_cX10_takesThemes_0 : fq_ck cX10_takesThemes 0 [42, 4, 181, 0, 132, 42, 4, 8, 182, 0, 129, 154, 0, 5, 3, 172, 42, 42] := fq_of fW_cX10_takesThemes 0 rfl rfl
theorem dX10_takesThemes_0 : decode cX10_takesThemes 0 = .ok (.aload_n 0, 1) := fq_42 fk_cX10_takesThemes_0 0 rfl rfl
theorem dX10_takesThemes_1 : decode cX10_takesThemes 1 = .ok (.iconst 1, 1) := fq_4 fk_cX10_takesThemes_0 1 rfl rfl
theorem wd_533 : Cond.fieldLink RX10 132 "QuarrelBridgesModel" "hasThemes" "Z" ∈ BG := BG_at4 85 (by decide +kernel) rfl
theorem dX10_takesThemes_2 : decode cX10_takesThemes 2 = .ok (.putfield 132, 3) := fq_181 fk_cX10_takesThemes_0 2 rfl rfl rfl rfl rfl
theorem dX10_takesThemes_5 : decode cX10_takesThemes 5 = .ok (.aload_n 0, 1) := fq_42 fk_cX10_takesThemes_0 5 rfl rfl
theorem dX10_takesThemes_6 : decode cX10_takesThemes 6 = .ok (.iconst 1, 1) := fq_4 fk_cX10_takesThemes_0 6 rfl rfl
theorem dX10_takesThemes_7 : decode cX10_takesThemes 7 = .ok (.iconst 5, 1) := fq_8 fk_cX10_takesThemes_0 7 rfl rfl
theorem dX10_takesThemes_8 : decode cX10_takesThemes 8 = .ok (.invokevirtual 129, 3) := fq_182 fk_cX10_takesThemes_0 8 rfl rfl rfl rfl rfl
theorem dX10_takesThemes_11 : decode cX10_takesThemes 11 = .ok (.ifCond .ne 5, 3) := fq_154 fk_cX10_takesThemes_0 11 rfl rfl rfl rfl rfl
theorem fk_cX10_takesThemes_1 : fq_ck cX10_takesThemes 16 [42, 42, 180, 0, 123, 181, 0, 136, 4, 172] := fq_of fW_cX10_takesThemes 1 rfl rfl
theorem dX10_takesThemes_16 : decode cX10_takesThemes 16 = .ok (.aload_n 0, 1) := fq_42 fk_cX10_takesThemes_1 0 rfl rfl
theorem dX10_takesThemes_17 : decode cX10_takesThemes 17 = .ok (.aload_n 0, 1) := fq_42 fk_cX10_takesThemes_1 1 rfl rfl
theorem dX10_takesThemes_18 : decode cX10_takesThemes 18 = .ok (.getfield 123, 3) := fq_180 fk_cX10_takesThemes_1 2 rfl rfl rfl rfl rfl
theorem wd_534 : Cond.fieldLink RX10 136 "QuarrelBridgesModel" "readThemes" "I" ∈ BG := BG_at4 84 (by decide +kernel) rfl
theorem dX10_takesThemes_21 : decode cX10_takesThemes 21 = .ok (.putfield 136, 3) := fq_181 fk_cX10_takesThemes_1 5 rfl rfl rfl rfl rfl
theorem dX10_takesThemes_24 : decode cX10_takesThemes 24 = .ok (.iconst 1, 1) := fq_4 fk_cX10_takesThemes_1 8 rfl rfl
theorem dX10_takesThemes_25 : decode cX10_takesThemes 25 = .ok (.ireturn, 1) := fq_172 fk_cX10_takesThemes_1 9 rfl rfl
theorem dX10_takesThemes_14 : decode cX10_takesThemes 14 = .ok (.iconst 0, 1) := fq_3 fk_cX10_takesThemes_0 14 rfl rfl
theorem dX10_takesThemes_15 : decode cX10_takesThemes 15 = .ok (.ireturn, 1) := fq_172 fk_cX10_takesThemes_0 15 rfl rfl
def fw_cX10_takesCouple : List (List Nat) := [[42, 3, 16, 99, 182, 0, 129, 154, 0, 5, 3, 172, 42, 180, 0, 45, 42, 180], [42, 180, 0, 139, 42, 180, 0, 123, 79, 3, 60, 27, 42, 180, 0, 136, 162, 0], [162, 0, 51, 27, 158, 0, 12, 42, 16, 44, 182, 0, 142, 153, 0, 13, 42, 3], [42, 3, 16, 9, 182, 0, 129, 154, 0, 5, 3, 172, 42, 180, 0, 48, 8, 42], [8, 42, 180, 0, 139, 104, 27, 96, 42, 180, 0, 123, 79, 132, 1, 1, 167, 255], [167, 255, 203, 42, 89, 180, 0, 139, 4, 96, 181, 0, 139, 4, 172]]
theorem fW_cX10_takesCouple : fq_wins 6 cX10_takesCouple.data.toList = fw_cX10_takesCouple := by decide +kernel
theorem fk_cX10_takesCouple_0 : fq_ck cX10_takesCouple 0 [42, 3, 16, 99, 182, 0, 129, 154, 0, 5, 3, 172, 42, 180, 0, 45, 42, 180] := fq_of fW_cX10_takesCouple 0 rfl rfl
theorem dX10_takesCouple_0 : decode cX10_takesCouple 0 = .ok (.aload_n 0, 1) := fq_42 fk_cX10_takesCouple_0 0 rfl rfl
theorem dX10_takesCouple_1 : decode cX10_takesCouple 1 = .ok (.iconst 0, 1) := fq_3 fk_cX10_takesCouple_0 1 rfl rfl
theorem dX10_takesCouple_2 : decode cX10_takesCouple 2 = .ok (.bipush 99, 2) := fq_16 fk_cX10_takesCouple_0 2 rfl rfl rfl rfl
theorem dX10_takesCouple_4 : decode cX10_takesCouple 4 = .ok (.invokevirtual 129, 3) := fq_182 fk_cX10_takesCouple_0 4 rfl rfl rfl rfl rfl
theorem dX10_takesCouple_7 : decode cX10_takesCouple 7 = .ok (.ifCond .ne 5, 3) := fq_154 fk_cX10_takesCouple_0 7 rfl rfl rfl rfl rfl
theorem dX10_takesCouple_12 : decode cX10_takesCouple 12 = .ok (.aload_n 0, 1) := fq_42 fk_cX10_takesCouple_0 12 rfl rfl
theorem wd_535 : Cond.fieldLink RX10 45 "QuarrelBridgesModel" "readGrief" "[I" ∈ BG := BG_at4 91 (by decide +kernel) rfl
theorem dX10_takesCouple_13 : decode cX10_takesCouple 13 = .ok (.getfield 45, 3) := fq_180 fk_cX10_takesCouple_0 13 rfl rfl rfl rfl rfl
theorem fk_cX10_takesCouple_1 : fq_ck cX10_takesCouple 16 [42, 180, 0, 139, 42, 180, 0, 123, 79, 3, 60, 27, 42, 180, 0, 136, 162, 0] := fq_of fW_cX10_takesCouple 1 rfl rfl
theorem dX10_takesCouple_16 : decode cX10_takesCouple 16 = .ok (.aload_n 0, 1) := fq_42 fk_cX10_takesCouple_1 0 rfl rfl
theorem wd_536 : Cond.fieldLink RX10 139 "QuarrelBridgesModel" "readCouples" "I" ∈ BG := BG_at4 86 (by decide +kernel) rfl
theorem dX10_takesCouple_17 : decode cX10_takesCouple 17 = .ok (.getfield 139, 3) := fq_180 fk_cX10_takesCouple_1 1 rfl rfl rfl rfl rfl
theorem dX10_takesCouple_20 : decode cX10_takesCouple 20 = .ok (.aload_n 0, 1) := fq_42 fk_cX10_takesCouple_1 4 rfl rfl
theorem dX10_takesCouple_21 : decode cX10_takesCouple 21 = .ok (.getfield 123, 3) := fq_180 fk_cX10_takesCouple_1 5 rfl rfl rfl rfl rfl
theorem dX10_takesCouple_24 : decode cX10_takesCouple 24 = .ok (.iastore, 1) := fq_79 fk_cX10_takesCouple_1 8 rfl rfl
theorem dX10_takesCouple_25 : decode cX10_takesCouple 25 = .ok (.iconst 0, 1) := fq_3 fk_cX10_takesCouple_1 9 rfl rfl
theorem dX10_takesCouple_26 : decode cX10_takesCouple 26 = .ok (.istore_n 1, 1) := fq_60 fk_cX10_takesCouple_1 10 rfl rfl
theorem fk_cX10_takesCouple_5 : fq_ck cX10_takesCouple 80 [167, 255, 203, 42, 89, 180, 0, 139, 4, 96, 181, 0, 139, 4, 172] := fq_of fW_cX10_takesCouple 5 rfl rfl
theorem dX10_takesCouple_83 : decode cX10_takesCouple 83 = .ok (.aload_n 0, 1) := fq_42 fk_cX10_takesCouple_5 3 rfl rfl
theorem dX10_takesCouple_84 : decode cX10_takesCouple 84 = .ok (.dup, 1) := fq_89 fk_cX10_takesCouple_5 4 rfl rfl
theorem dX10_takesCouple_85 : decode cX10_takesCouple 85 = .ok (.getfield 139, 3) := fq_180 fk_cX10_takesCouple_5 5 rfl rfl rfl rfl rfl
theorem dX10_takesCouple_88 : decode cX10_takesCouple 88 = .ok (.iconst 1, 1) := fq_4 fk_cX10_takesCouple_5 8 rfl rfl
theorem dX10_takesCouple_89 : decode cX10_takesCouple 89 = .ok (.iadd, 1) := fq_96 fk_cX10_takesCouple_5 9 rfl rfl
theorem dX10_takesCouple_90 : decode cX10_takesCouple 90 = .ok (.putfield 139, 3) := fq_181 fk_cX10_takesCouple_5 10 rfl rfl rfl rfl rfl
theorem dX10_takesCouple_93 : decode cX10_takesCouple 93 = .ok (.iconst 1, 1) := fq_4 fk_cX10_takesCouple_5 13 rfl rfl
theorem dX10_takesCouple_94 : decode cX10_takesCouple 94 = .ok (.ireturn, 1) := fq_172 fk_cX10_takesCouple_5 14 rfl rfl
theorem dX10_takesCouple_27 : decode cX10_takesCouple 27 = .ok (.iload_n 1, 1) := fq_27 fk_cX10_takesCouple_1 11 rfl rfl
theorem dX10_takesCouple_28 : decode cX10_takesCouple 28 = .ok (.aload_n 0, 1) := fq_42 fk_cX10_takesCouple_1 12 rfl rfl
theorem dX10_takesCouple_29 : decode cX10_takesCouple 29 = .ok (.getfield 136, 3) := fq_180 fk_cX10_takesCouple_1 13 rfl rfl rfl rfl rfl
theorem fk_cX10_takesCouple_2 : fq_ck cX10_takesCouple 32 [162, 0, 51, 27, 158, 0, 12, 42, 16, 44, 182, 0, 142, 153, 0, 13, 42, 3] := fq_of fW_cX10_takesCouple 2 rfl rfl
theorem dX10_takesCouple_32 : decode cX10_takesCouple 32 = .ok (.if_icmp .ge 51, 3) := fq_162 fk_cX10_takesCouple_2 0 rfl rfl rfl rfl rfl
theorem dX10_takesCouple_35 : decode cX10_takesCouple 35 = .ok (.iload_n 1, 1) := fq_27 fk_cX10_takesCouple_2 3 rfl rfl
theorem dX10_takesCouple_36 : decode cX10_takesCouple 36 = .ok (.ifCond .le 12, 3) := fq_158 fk_cX10_takesCouple_2 4 rfl rfl rfl rfl rfl
theorem fk_cX10_takesCouple_3 : fq_ck cX10_takesCouple 48 [42, 3, 16, 9, 182, 0, 129, 154, 0, 5, 3, 172, 42, 180, 0, 48, 8, 42] := fq_of fW_cX10_takesCouple 3 rfl rfl
theorem dX10_takesCouple_48 : decode cX10_takesCouple 48 = .ok (.aload_n 0, 1) := fq_42 fk_cX10_takesCouple_3 0 rfl rfl
theorem dX10_takesCouple_49 : decode cX10_takesCouple 49 = .ok (.iconst 0, 1) := fq_3 fk_cX10_takesCouple_3 1 rfl rfl
theorem dX10_takesCouple_50 : decode cX10_takesCouple 50 = .ok (.bipush 9, 2) := fq_16 fk_cX10_takesCouple_3 2 rfl rfl rfl rfl
theorem dX10_takesCouple_52 : decode cX10_takesCouple 52 = .ok (.invokevirtual 129, 3) := fq_182 fk_cX10_takesCouple_3 4 rfl rfl rfl rfl rfl
theorem dX10_takesCouple_55 : decode cX10_takesCouple 55 = .ok (.ifCond .ne 5, 3) := fq_154 fk_cX10_takesCouple_3 7 rfl rfl rfl rfl rfl
theorem dX10_takesCouple_60 : decode cX10_takesCouple 60 = .ok (.aload_n 0, 1) := fq_42 fk_cX10_takesCouple_3 12 rfl rfl
theorem wd_537 : Cond.fieldLink RX10 48 "QuarrelBridgesModel" "readForces" "[I" ∈ BG := BG_at4 92 (by decide +kernel) rfl
theorem dX10_takesCouple_61 : decode cX10_takesCouple 61 = .ok (.getfield 48, 3) := fq_180 fk_cX10_takesCouple_3 13 rfl rfl rfl rfl rfl
theorem fk_cX10_takesCouple_4 : fq_ck cX10_takesCouple 64 [8, 42, 180, 0, 139, 104, 27, 96, 42, 180, 0, 123, 79, 132, 1, 1, 167, 255] := fq_of fW_cX10_takesCouple 4 rfl rfl
theorem dX10_takesCouple_64 : decode cX10_takesCouple 64 = .ok (.iconst 5, 1) := fq_8 fk_cX10_takesCouple_4 0 rfl rfl
theorem dX10_takesCouple_65 : decode cX10_takesCouple 65 = .ok (.aload_n 0, 1) := fq_42 fk_cX10_takesCouple_4 1 rfl rfl
theorem dX10_takesCouple_66 : decode cX10_takesCouple 66 = .ok (.getfield 139, 3) := fq_180 fk_cX10_takesCouple_4 2 rfl rfl rfl rfl rfl
theorem dX10_takesCouple_69 : decode cX10_takesCouple 69 = .ok (.imul, 1) := fq_104 fk_cX10_takesCouple_4 5 rfl rfl
theorem dX10_takesCouple_70 : decode cX10_takesCouple 70 = .ok (.iload_n 1, 1) := fq_27 fk_cX10_takesCouple_4 6 rfl rfl
theorem dX10_takesCouple_71 : decode cX10_takesCouple 71 = .ok (.iadd, 1) := fq_96 fk_cX10_takesCouple_4 7 rfl rfl
theorem dX10_takesCouple_72 : decode cX10_takesCouple 72 = .ok (.aload_n 0, 1) := fq_42 fk_cX10_takesCouple_4 8 rfl rfl
theorem dX10_takesCouple_73 : decode cX10_takesCouple 73 = .ok (.getfield 123, 3) := fq_180 fk_cX10_takesCouple_4 9 rfl rfl rfl rfl rfl
theorem dX10_takesCouple_76 : decode cX10_takesCouple 76 = .ok (.iastore, 1) := fq_79 fk_cX10_takesCouple_4 12 rfl rfl
theorem dX10_takesCouple_77 : decode cX10_takesCouple 77 = .ok (.iinc 1 1, 3) := fq_132 fk_cX10_takesCouple_4 13 rfl rfl rfl rfl rfl
theorem dX10_takesCouple_80 : decode cX10_takesCouple 80 = .ok (.goto (-53), 3) := fq_167 fk_cX10_takesCouple_5 0 rfl rfl rfl rfl rfl
theorem dX10_takesCouple_58 : decode cX10_takesCouple 58 = .ok (.iconst 0, 1) := fq_3 fk_cX10_takesCouple_3 10 rfl rfl
theorem dX10_takesCouple_59 : decode cX10_takesCouple 59 = .ok (.ireturn, 1) := fq_172 fk_cX10_takesCouple_3 11 rfl rfl
theorem dX10_takesCouple_39 : decode cX10_takesCouple 39 = .ok (.aload_n 0, 1) := fq_42 fk_cX10_takesCouple_2 7 rfl rfl
theorem dX10_takesCouple_40 : decode cX10_takesCouple 40 = .ok (.bipush 44, 2) := fq_16 fk_cX10_takesCouple_2 8 rfl rfl rfl rfl
theorem dX10_takesCouple_42 : decode cX10_takesCouple 42 = .ok (.invokevirtual 142, 3) := fq_182 fk_cX10_takesCouple_2 10 rfl rfl rfl rfl rfl
theorem wd_538 : Cond.methodLink RX10 142 yX10_takes ∈ BG := BG_at5 8 (by decide +kernel) rfl
theorem wd_539 : Cond.code yX10_takes cX10_takes 2 (some .boolean) ∈ BG := BG_at5 11 rfl rfl
theorem wd_540 : Cond.instanceMethod yX10_takes ∈ BG := BG_at5 10 (by decide +kernel) rfl
theorem wd_541 : Cond.selects RX10 yX10_takes yX10_takes ∈ BG := BG_in (by decide +kernel) rfl
theorem okV_X10_takes : okV yX10_takes cX10_takes 2 (some .boolean) 1 := ⟨⟨wd_539, wd_497, by decide +kernel⟩, wd_540, wd_541⟩
theorem dX10_takesCouple_45 : decode cX10_takesCouple 45 = .ok (.ifCond .eq 13, 3) := fq_153 fk_cX10_takesCouple_2 13 rfl rfl rfl rfl rfl
theorem dX10_takesCouple_10 : decode cX10_takesCouple 10 = .ok (.iconst 0, 1) := fq_3 fk_cX10_takesCouple_0 10 rfl rfl
theorem dX10_takesCouple_11 : decode cX10_takesCouple 11 = .ok (.ireturn, 1) := fq_172 fk_cX10_takesCouple_0 11 rfl rfl
def fw_cX10_takesBarge : List (List Nat) := [[42, 3, 42, 180, 0, 126, 4, 100, 182, 0, 129, 154, 0, 5, 3, 172, 42, 180], [42, 180, 0, 51, 42, 180, 0, 146, 42, 180, 0, 123, 79, 42, 4, 17, 1, 44], [1, 44, 182, 0, 129, 154, 0, 5, 3, 172, 42, 180, 0, 54, 42, 180, 0, 146], [0, 146, 42, 180, 0, 123, 79, 42, 89, 180, 0, 146, 4, 96, 181, 0, 146, 4], [146, 4, 172]]
theorem fW_cX10_takesBarge : fq_wins 5 cX10_takesBarge.data.toList = fw_cX10_takesBarge := by decide +kernel
theorem fk_cX10_takesBarge_0 : fq_ck cX10_takesBarge 0 [42, 3, 42, 180, 0, 126, 4, 100, 182, 0, 129, 154, 0, 5, 3, 172, 42, 180] := fq_of fW_cX10_takesBarge 0 rfl rfl
theorem dX10_takesBarge_0 : decode cX10_takesBarge 0 = .ok (.aload_n 0, 1) := fq_42 fk_cX10_takesBarge_0 0 rfl rfl
theorem dX10_takesBarge_1 : decode cX10_takesBarge 1 = .ok (.iconst 0, 1) := fq_3 fk_cX10_takesBarge_0 1 rfl rfl
theorem dX10_takesBarge_2 : decode cX10_takesBarge 2 = .ok (.aload_n 0, 1) := fq_42 fk_cX10_takesBarge_0 2 rfl rfl
theorem dX10_takesBarge_3 : decode cX10_takesBarge 3 = .ok (.getfield 126, 3) := fq_180 fk_cX10_takesBarge_0 3 rfl rfl rfl rfl rfl
theorem dX10_takesBarge_6 : decode cX10_takesBarge 6 = .ok (.iconst 1, 1) := fq_4 fk_cX10_takesBarge_0 6 rfl rfl
theorem dX10_takesBarge_7 : decode cX10_takesBarge 7 = .ok (.isub, 1) := fq_100 fk_cX10_takesBarge_0 7 rfl rfl
theorem dX10_takesBarge_8 : decode cX10_takesBarge 8 = .ok (.invokevirtual 129, 3) := fq_182 fk_cX10_takesBarge_0 8 rfl rfl rfl rfl rfl
theorem dX10_takesBarge_11 : decode cX10_takesBarge 11 = .ok (.ifCond .ne 5, 3) := fq_154 fk_cX10_takesBarge_0 11 rfl rfl rfl rfl rfl
theorem fk_cX10_takesBarge_1 : fq_ck cX10_takesBarge 16 [42, 180, 0, 51, 42, 180, 0, 146, 42, 180, 0, 123, 79, 42, 4, 17, 1, 44] := fq_of fW_cX10_takesBarge 1 rfl rfl
theorem dX10_takesBarge_16 : decode cX10_takesBarge 16 = .ok (.aload_n 0, 1) := fq_42 fk_cX10_takesBarge_1 0 rfl rfl
theorem wd_542 : Cond.fieldLink RX10 51 "QuarrelBridgesModel" "readFar" "[I" ∈ BG := BG_at4 93 (by decide +kernel) rfl
theorem dX10_takesBarge_17 : decode cX10_takesBarge 17 = .ok (.getfield 51, 3) := fq_180 fk_cX10_takesBarge_1 1 rfl rfl rfl rfl rfl
theorem dX10_takesBarge_20 : decode cX10_takesBarge 20 = .ok (.aload_n 0, 1) := fq_42 fk_cX10_takesBarge_1 4 rfl rfl
theorem wd_543 : Cond.fieldLink RX10 146 "QuarrelBridgesModel" "readBarges" "I" ∈ BG := BG_at4 87 (by decide +kernel) rfl
theorem dX10_takesBarge_21 : decode cX10_takesBarge 21 = .ok (.getfield 146, 3) := fq_180 fk_cX10_takesBarge_1 5 rfl rfl rfl rfl rfl
theorem dX10_takesBarge_24 : decode cX10_takesBarge 24 = .ok (.aload_n 0, 1) := fq_42 fk_cX10_takesBarge_1 8 rfl rfl
theorem dX10_takesBarge_25 : decode cX10_takesBarge 25 = .ok (.getfield 123, 3) := fq_180 fk_cX10_takesBarge_1 9 rfl rfl rfl rfl rfl
theorem dX10_takesBarge_28 : decode cX10_takesBarge 28 = .ok (.iastore, 1) := fq_79 fk_cX10_takesBarge_1 12 rfl rfl
theorem dX10_takesBarge_29 : decode cX10_takesBarge 29 = .ok (.aload_n 0, 1) := fq_42 fk_cX10_takesBarge_1 13 rfl rfl
theorem dX10_takesBarge_30 : decode cX10_takesBarge 30 = .ok (.iconst 1, 1) := fq_4 fk_cX10_takesBarge_1 14 rfl rfl
theorem dX10_takesBarge_31 : decode cX10_takesBarge 31 = .ok (.sipush 300, 3) := fq_17 fk_cX10_takesBarge_1 15 rfl rfl rfl rfl rfl
theorem fk_cX10_takesBarge_2 : fq_ck cX10_takesBarge 32 [1, 44, 182, 0, 129, 154, 0, 5, 3, 172, 42, 180, 0, 54, 42, 180, 0, 146] := fq_of fW_cX10_takesBarge 2 rfl rfl
theorem dX10_takesBarge_34 : decode cX10_takesBarge 34 = .ok (.invokevirtual 129, 3) := fq_182 fk_cX10_takesBarge_2 2 rfl rfl rfl rfl rfl
theorem dX10_takesBarge_37 : decode cX10_takesBarge 37 = .ok (.ifCond .ne 5, 3) := fq_154 fk_cX10_takesBarge_2 5 rfl rfl rfl rfl rfl
theorem dX10_takesBarge_42 : decode cX10_takesBarge 42 = .ok (.aload_n 0, 1) := fq_42 fk_cX10_takesBarge_2 10 rfl rfl
theorem wd_544 : Cond.fieldLink RX10 54 "QuarrelBridgesModel" "readDue" "[I" ∈ BG := BG_at4 94 (by decide +kernel) rfl
theorem dX10_takesBarge_43 : decode cX10_takesBarge 43 = .ok (.getfield 54, 3) := fq_180 fk_cX10_takesBarge_2 11 rfl rfl rfl rfl rfl
theorem dX10_takesBarge_46 : decode cX10_takesBarge 46 = .ok (.aload_n 0, 1) := fq_42 fk_cX10_takesBarge_2 14 rfl rfl
theorem dX10_takesBarge_47 : decode cX10_takesBarge 47 = .ok (.getfield 146, 3) := fq_180 fk_cX10_takesBarge_2 15 rfl rfl rfl rfl rfl
theorem fk_cX10_takesBarge_3 : fq_ck cX10_takesBarge 48 [0, 146, 42, 180, 0, 123, 79, 42, 89, 180, 0, 146, 4, 96, 181, 0, 146, 4] := fq_of fW_cX10_takesBarge 3 rfl rfl
theorem dX10_takesBarge_50 : decode cX10_takesBarge 50 = .ok (.aload_n 0, 1) := fq_42 fk_cX10_takesBarge_3 2 rfl rfl
theorem dX10_takesBarge_51 : decode cX10_takesBarge 51 = .ok (.getfield 123, 3) := fq_180 fk_cX10_takesBarge_3 3 rfl rfl rfl rfl rfl
theorem dX10_takesBarge_54 : decode cX10_takesBarge 54 = .ok (.iastore, 1) := fq_79 fk_cX10_takesBarge_3 6 rfl rfl
theorem dX10_takesBarge_55 : decode cX10_takesBarge 55 = .ok (.aload_n 0, 1) := fq_42 fk_cX10_takesBarge_3 7 rfl rfl
theorem dX10_takesBarge_56 : decode cX10_takesBarge 56 = .ok (.dup, 1) := fq_89 fk_cX10_takesBarge_3 8 rfl rfl
theorem dX10_takesBarge_57 : decode cX10_takesBarge 57 = .ok (.getfield 146, 3) := fq_180 fk_cX10_takesBarge_3 9 rfl rfl rfl rfl rfl
theorem dX10_takesBarge_60 : decode cX10_takesBarge 60 = .ok (.iconst 1, 1) := fq_4 fk_cX10_takesBarge_3 12 rfl rfl
theorem dX10_takesBarge_61 : decode cX10_takesBarge 61 = .ok (.iadd, 1) := fq_96 fk_cX10_takesBarge_3 13 rfl rfl
theorem dX10_takesBarge_62 : decode cX10_takesBarge 62 = .ok (.putfield 146, 3) := fq_181 fk_cX10_takesBarge_3 14 rfl rfl rfl rfl rfl
theorem fk_cX10_takesBarge_4 : fq_ck cX10_takesBarge 64 [146, 4, 172] := fq_of fW_cX10_takesBarge 4 rfl rfl
theorem dX10_takesBarge_65 : decode cX10_takesBarge 65 = .ok (.iconst 1, 1) := fq_4 fk_cX10_takesBarge_4 1 rfl rfl
theorem dX10_takesBarge_66 : decode cX10_takesBarge 66 = .ok (.ireturn, 1) := fq_172 fk_cX10_takesBarge_4 2 rfl rfl
theorem dX10_takesBarge_40 : decode cX10_takesBarge 40 = .ok (.iconst 0, 1) := fq_3 fk_cX10_takesBarge_2 8 rfl rfl
theorem dX10_takesBarge_41 : decode cX10_takesBarge 41 = .ok (.ireturn, 1) := fq_172 fk_cX10_takesBarge_2 9 rfl rfl
theorem dX10_takesBarge_14 : decode cX10_takesBarge 14 = .ok (.iconst 0, 1) := fq_3 fk_cX10_takesBarge_0 14 rfl rfl
theorem dX10_takesBarge_15 : decode cX10_takesBarge 15 = .ok (.ireturn, 1) := fq_172 fk_cX10_takesBarge_0 15 rfl rfl
def fw_cX10_takesSnow : List (List Nat) := [[42, 4, 181, 0, 149, 42, 3, 4, 182, 0, 129, 154, 0, 5, 3, 172, 42, 42], [42, 42, 180, 0, 123, 181, 0, 152, 4, 172]]
theorem fW_cX10_takesSnow : fq_wins 2 cX10_takesSnow.data.toList = fw_cX10_takesSnow := by decide +kernel
theorem fk_cX10_takesSnow_0 : fq_ck cX10_takesSnow 0 [42, 4, 181, 0, 149, 42, 3, 4, 182, 0, 129, 154, 0, 5, 3, 172, 42, 42] := fq_of fW_cX10_takesSnow 0 rfl rfl
theorem dX10_takesSnow_0 : decode cX10_takesSnow 0 = .ok (.aload_n 0, 1) := fq_42 fk_cX10_takesSnow_0 0 rfl rfl
theorem dX10_takesSnow_1 : decode cX10_takesSnow 1 = .ok (.iconst 1, 1) := fq_4 fk_cX10_takesSnow_0 1 rfl rfl
theorem wd_545 : Cond.fieldLink RX10 149 "QuarrelBridgesModel" "hasSnow" "Z" ∈ BG := BG_at4 89 (by decide +kernel) rfl
theorem dX10_takesSnow_2 : decode cX10_takesSnow 2 = .ok (.putfield 149, 3) := fq_181 fk_cX10_takesSnow_0 2 rfl rfl rfl rfl rfl
theorem dX10_takesSnow_5 : decode cX10_takesSnow 5 = .ok (.aload_n 0, 1) := fq_42 fk_cX10_takesSnow_0 5 rfl rfl
theorem dX10_takesSnow_6 : decode cX10_takesSnow 6 = .ok (.iconst 0, 1) := fq_3 fk_cX10_takesSnow_0 6 rfl rfl
theorem dX10_takesSnow_7 : decode cX10_takesSnow 7 = .ok (.iconst 1, 1) := fq_4 fk_cX10_takesSnow_0 7 rfl rfl
theorem dX10_takesSnow_8 : decode cX10_takesSnow 8 = .ok (.invokevirtual 129, 3) := fq_182 fk_cX10_takesSnow_0 8 rfl rfl rfl rfl rfl
theorem dX10_takesSnow_11 : decode cX10_takesSnow 11 = .ok (.ifCond .ne 5, 3) := fq_154 fk_cX10_takesSnow_0 11 rfl rfl rfl rfl rfl
theorem fk_cX10_takesSnow_1 : fq_ck cX10_takesSnow 16 [42, 42, 180, 0, 123, 181, 0, 152, 4, 172] := fq_of fW_cX10_takesSnow 1 rfl rfl
theorem dX10_takesSnow_16 : decode cX10_takesSnow 16 = .ok (.aload_n 0, 1) := fq_42 fk_cX10_takesSnow_1 0 rfl rfl
theorem dX10_takesSnow_17 : decode cX10_takesSnow 17 = .ok (.aload_n 0, 1) := fq_42 fk_cX10_takesSnow_1 1 rfl rfl
theorem dX10_takesSnow_18 : decode cX10_takesSnow 18 = .ok (.getfield 123, 3) := fq_180 fk_cX10_takesSnow_1 2 rfl rfl rfl rfl rfl
theorem wd_546 : Cond.fieldLink RX10 152 "QuarrelBridgesModel" "readSnow" "I" ∈ BG := BG_at4 88 (by decide +kernel) rfl
theorem dX10_takesSnow_21 : decode cX10_takesSnow 21 = .ok (.putfield 152, 3) := fq_181 fk_cX10_takesSnow_1 5 rfl rfl rfl rfl rfl
theorem dX10_takesSnow_24 : decode cX10_takesSnow 24 = .ok (.iconst 1, 1) := fq_4 fk_cX10_takesSnow_1 8 rfl rfl
theorem dX10_takesSnow_25 : decode cX10_takesSnow 25 = .ok (.ireturn, 1) := fq_172 fk_cX10_takesSnow_1 9 rfl rfl
theorem dX10_takesSnow_14 : decode cX10_takesSnow 14 = .ok (.iconst 0, 1) := fq_3 fk_cX10_takesSnow_0 14 rfl rfl
theorem dX10_takesSnow_15 : decode cX10_takesSnow 15 = .ok (.ireturn, 1) := fq_172 fk_cX10_takesSnow_0 15 rfl rfl
noncomputable def f_m_takesThemes (G : Nat → Int32) (f13 : Nat → Int32) : Int32 × (Nat → Int32) := (match (f_m_takesNumber (upd G 22 1) f13 1 5) with | (r_3, u_2) => (if r_3 = 0 then (0, u_2) else (1, (upd u_2 21 (u_2 17)))))
def S_m_takesThemes (G : Nat → Int32) (f13 : Nat → Int32) : Prop := ((S_m_takesNumber (upd G 22 1) f13 1 5) ∧ (∀ (r_3 : Int32) (u_2 : (Nat → Int32)), (r_3, u_2) = (f_m_takesNumber (upd G 22 1) f13 1 5) → ((r_3 = 0 → True) ∧ (¬ r_3 = 0 → True))))
def rm_m_takesThemes : Room := { frames := 3, cells := 0, slots := 0, locals := 63 }
set_option maxHeartbeats 4000000 in
set_option maxRecDepth 100000 in
theorem m_takesThemes {l : Launch} {D : va_G} {cI cZ : ClassId} {sz : Nat} (Rf : Nat → Nat) (h : Nat) (G : Nat → Int32) (f13 : Nat → Int32) (hF : S_m_takesThemes G f13) : KI l yX10_takesThemes cX10_takesThemes 1 (some .boolean) rm_m_takesThemes D cI cZ [.ref h] sz [(h, .inr (10, ML G Rf)), ((Rf 13), .inl (cI, 240, .inl f13))] (fun (r : Int32) (u : (Nat → Int32)) => (r, u) = f_m_takesThemes G f13) (fun (u : (Nat → Int32)) => [(h, .inr (10, ML u Rf)), ((Rf 13), .inl (cI, 240, .inl f13))]) := by
  refine KI.go rfl (Nat.le_of_ble_eq_true rfl) ?_
  intro p e s m args below meth c ls A Q hx hb hml hts hown hin hP hK hD hS hA hN hl hret
  have hl : lv_has ls 1 [(0, .ref h)] := hl
  rw [S_m_takesThemes] at hF
  obtain ⟨RES, hE⟩ : ∃ xRES, f_m_takesThemes G f13 = xRES := ⟨_, rfl⟩
  rw [hE] at hret
  rw [f_m_takesThemes] at hE
  refine lv_aload_n hx hb dX10_takesThemes_0 rfl (lv_at hl 0 rfl) ?_
  refine lv_iconst (v := 1) hx hb dX10_takesThemes_1 rfl ?_
  refine va_put (D := D) (ci := 10) (v := .int 1) (ty := .boolean) (C := RX10) (T := TX10) (N := 45) hx hb hts iX10 tyX10 tyX10_ok nmX10 hown hK hP hD hS 0 rfl rfl 22 (Nat.le_of_ble_eq_true rfl) (hts _ wd_533) (fun _ h9 => h9) rfl (by decide +kernel) rfl rfl (Nat.le_of_ble_eq_true rfl) dX10_takesThemes_2 (fun H locs hP hD hS => ?_)
  have hP : va_P D classes [(h, .inr (10, ML (upd G 22 1) Rf)), ((Rf 13), .inl (cI, 240, .inl f13))] H := hP
  have hD : va_D A [(h, .inr (10, ML (upd G 22 1) Rf)), ((Rf 13), .inl (cI, 240, .inl f13))] := hD
  refine lv_aload_n hx hb dX10_takesThemes_5 rfl (lv_at hl 0 rfl) ?_
  refine lv_iconst (v := 1) hx hb dX10_takesThemes_6 rfl ?_
  refine lv_iconst (v := 5) hx hb dX10_takesThemes_7 rfl ?_
  obtain ⟨hs_1, hF⟩ := hF
  refine cVi (wr := []) (rest := []) (m_takesNumber Rf h (upd G 22 1) f13 1 5 hs_1) okV_X10_takesNumber wd_528 hx hb hml hown hts hK hP hD hS hA hN hl.1 [0, 1] [] rfl rfl rfl rfl (of_decide_eq_true rfl) rfl rfl rfl (Nat.le_of_ble_eq_true rfl) (Nat.le_of_ble_eq_true rfl) (Nat.le_of_ble_eq_true rfl) (Nat.le_of_ble_eq_true rfl) (Nat.le_of_ble_eq_true rfl) dX10_takesThemes_8 (fun r_3 u_2 H locs hw_u_2 hP hD hS => ?_)
  replace hw_u_2 : (r_3, u_2) = (f_m_takesNumber (upd G 22 1) f13 1 5) := hw_u_2
  replace hF := hF r_3 u_2 hw_u_2
  rw [← hw_u_2] at hE
  replace hE : ((if r_3 = 0 then (0, u_2) else (1, (upd u_2 21 (u_2 17)))) : Int32 × (Nat → Int32)) = RES := hE
  have hP : va_P D classes [(h, .inr (10, ML u_2 Rf)), ((Rf 13), .inl (cI, 240, .inl f13))] H := hP
  have hD : va_D A [(h, .inr (10, ML u_2 Rf)), ((Rf 13), .inl (cI, 240, .inl f13))] := hD
  refine lv_if_ne (tgt := 16) hx hb dX10_takesThemes_11 rfl (fun c_4 => ?_) (fun c_4 => ?_)
  · replace hF := hF.2 c_4
    rw [if_neg c_4] at hE
    refine lv_aload_n hx hb dX10_takesThemes_16 rfl (lv_at hl 0 rfl) ?_
    refine lv_aload_n hx hb dX10_takesThemes_17 rfl (lv_at hl 0 rfl) ?_
    refine va_get (D := D) (ci := 10) (v := .int (u_2 17)) (C := RX10) (T := TX10) (N := 45) hx hb hts iX10 hown hK hP 0 rfl rfl 17 (Nat.le_of_ble_eq_true rfl) (hts _ wd_526) (fun _ h9 => h9) rfl dX10_takesThemes_18 ?_
    refine va_put (D := D) (ci := 10) (v := .int (u_2 17)) (ty := .int) (C := RX10) (T := TX10) (N := 45) hx hb hts iX10 tyX10 tyX10_ok nmX10 hown hK hP hD hS 0 rfl rfl 21 (Nat.le_of_ble_eq_true rfl) (hts _ wd_534) (fun _ h9 => h9) rfl (by decide +kernel) rfl rfl (Nat.le_of_ble_eq_true rfl) dX10_takesThemes_21 (fun H locs hP hD hS => ?_)
    have hP : va_P D classes [(h, .inr (10, ML (upd u_2 21 (u_2 17)) Rf)), ((Rf 13), .inl (cI, 240, .inl f13))] H := hP
    have hD : va_D A [(h, .inr (10, ML (upd u_2 21 (u_2 17)) Rf)), ((Rf 13), .inl (cI, 240, .inl f13))] := hD
    refine lv_iconst (v := 1) hx hb dX10_takesThemes_24 rfl ?_
    exact hret 1 (upd u_2 21 (u_2 17)) _ _ _ _ dX10_takesThemes_25 rfl hE hP hD hS
  · replace hF := hF.1 c_4
    rw [if_pos c_4] at hE
    subst c_4
    refine lv_iconst (v := 0) hx hb dX10_takesThemes_14 rfl ?_
    exact hret 0 u_2 _ _ _ _ dX10_takesThemes_15 rfl hE hP hD hS
noncomputable def f_m_takesCouple_27 (f13 : Nat → Int32) (n : Nat) : Int32 → (Nat → Int32) → (Nat → Int32) → (Nat → Int32) → (Int32 × (Nat → Int32) × (Nat → Int32) × (Nat → Int32)) ⊕ (Int32 × (Nat → Int32) × (Nat → Int32) × (Nat → Int32)) := Nat.rec (motive := fun _ => Int32 → (Nat → Int32) → (Nat → Int32) → (Nat → Int32) → (Int32 × (Nat → Int32) × (Nat → Int32) × (Nat → Int32)) ⊕ (Int32 × (Nat → Int32) × (Nat → Int32) × (Nat → Int32))) (fun w_6l1 w_6m0 w_6m1 w_6m2 => Sum.inl (w_6l1, w_6m0, w_6m1, w_6m2)) (fun n ih w_6l1 w_6m0 w_6m1 w_6m2 => (if (w_6m0 21) ≤ w_6l1 then (Sum.inl (w_6l1, w_6m0, w_6m1, w_6m2)) else (if w_6l1 ≤ 0 then (match (f_m_takesNumber w_6m0 f13 0 9) with | (r_11, u_10) => (if r_11 = 0 then (Sum.inr (0, u_10, w_6m1, w_6m2)) else (ih (w_6l1 + 1) u_10 w_6m1 (upd w_6m2 (((5 * (u_10 23)) + w_6l1) : Int32).toNatClampNeg (u_10 17))))) else (match (f_m_takes w_6m0 f13 44) with | (r_16, u_15) => (if r_16 = 0 then (Sum.inr (0, u_15, w_6m1, w_6m2)) else (match (f_m_takesNumber u_15 f13 0 9) with | (r_20, u_19) => (if r_20 = 0 then (Sum.inr (0, u_19, w_6m1, w_6m2)) else (ih (w_6l1 + 1) u_19 w_6m1 (upd w_6m2 (((5 * (u_19 23)) + w_6l1) : Int32).toNatClampNeg (u_19 17)))))))))) n
theorem f_m_takesCouple_27_s (f13 : Nat → Int32) (n : Nat) (w_6l1 : Int32) (w_6m0 : (Nat → Int32)) (w_6m1 : (Nat → Int32)) (w_6m2 : (Nat → Int32)) : f_m_takesCouple_27 f13 (n + 1) w_6l1 w_6m0 w_6m1 w_6m2 = (if (w_6m0 21) ≤ w_6l1 then (Sum.inl (w_6l1, w_6m0, w_6m1, w_6m2)) else (if w_6l1 ≤ 0 then (match (f_m_takesNumber w_6m0 f13 0 9) with | (r_11, u_10) => (if r_11 = 0 then (Sum.inr (0, u_10, w_6m1, w_6m2)) else (f_m_takesCouple_27 f13 n (w_6l1 + 1) u_10 w_6m1 (upd w_6m2 (((5 * (u_10 23)) + w_6l1) : Int32).toNatClampNeg (u_10 17))))) else (match (f_m_takes w_6m0 f13 44) with | (r_16, u_15) => (if r_16 = 0 then (Sum.inr (0, u_15, w_6m1, w_6m2)) else (match (f_m_takesNumber u_15 f13 0 9) with | (r_20, u_19) => (if r_20 = 0 then (Sum.inr (0, u_19, w_6m1, w_6m2)) else (f_m_takesCouple_27 f13 n (w_6l1 + 1) u_19 w_6m1 (upd w_6m2 (((5 * (u_19 23)) + w_6l1) : Int32).toNatClampNeg (u_19 17))))))))) := rfl
def S_m_takesCouple_27 (f13 : Nat → Int32) (K : Int32 → (Nat → Int32) → (Nat → Int32) → (Nat → Int32) → Prop) (n : Nat) : Int32 → (Nat → Int32) → (Nat → Int32) → (Nat → Int32) → Prop := Nat.rec (motive := fun _ => Int32 → (Nat → Int32) → (Nat → Int32) → (Nat → Int32) → Prop) (fun _ _ _ _ => False) (fun n ih w_6l1 w_6m0 w_6m1 w_6m2 => (((w_6m0 21) ≤ w_6l1 → (K w_6l1 w_6m0 w_6m1 w_6m2)) ∧ (¬ (w_6m0 21) ≤ w_6l1 → ((w_6l1 ≤ 0 → ((S_m_takesNumber w_6m0 f13 0 9) ∧ (∀ (r_11 : Int32) (u_10 : (Nat → Int32)), (r_11, u_10) = (f_m_takesNumber w_6m0 f13 0 9) → ((r_11 = 0 → True) ∧ (¬ r_11 = 0 → (vp_in ((5 * (u_10 23)) + w_6l1) 30 ∧ (ih (w_6l1 + 1) u_10 w_6m1 (upd w_6m2 (((5 * (u_10 23)) + w_6l1) : Int32).toNatClampNeg (u_10 17))))))))) ∧ (¬ w_6l1 ≤ 0 → ((S_m_takes w_6m0 f13 44) ∧ (∀ (r_16 : Int32) (u_15 : (Nat → Int32)), (r_16, u_15) = (f_m_takes w_6m0 f13 44) → ((r_16 = 0 → True) ∧ (¬ r_16 = 0 → ((S_m_takesNumber u_15 f13 0 9) ∧ (∀ (r_20 : Int32) (u_19 : (Nat → Int32)), (r_20, u_19) = (f_m_takesNumber u_15 f13 0 9) → ((r_20 = 0 → True) ∧ (¬ r_20 = 0 → (vp_in ((5 * (u_19 23)) + w_6l1) 30 ∧ (ih (w_6l1 + 1) u_19 w_6m1 (upd w_6m2 (((5 * (u_19 23)) + w_6l1) : Int32).toNatClampNeg (u_19 17))))))))))))))))) n
theorem S_m_takesCouple_27_s (f13 : Nat → Int32) (K : Int32 → (Nat → Int32) → (Nat → Int32) → (Nat → Int32) → Prop) (n : Nat) (w_6l1 : Int32) (w_6m0 : (Nat → Int32)) (w_6m1 : (Nat → Int32)) (w_6m2 : (Nat → Int32)) : S_m_takesCouple_27 f13 K (n + 1) w_6l1 w_6m0 w_6m1 w_6m2 = ((((w_6m0 21) ≤ w_6l1 → (K w_6l1 w_6m0 w_6m1 w_6m2)) ∧ (¬ (w_6m0 21) ≤ w_6l1 → ((w_6l1 ≤ 0 → ((S_m_takesNumber w_6m0 f13 0 9) ∧ (∀ (r_11 : Int32) (u_10 : (Nat → Int32)), (r_11, u_10) = (f_m_takesNumber w_6m0 f13 0 9) → ((r_11 = 0 → True) ∧ (¬ r_11 = 0 → (vp_in ((5 * (u_10 23)) + w_6l1) 30 ∧ (S_m_takesCouple_27 f13 K n (w_6l1 + 1) u_10 w_6m1 (upd w_6m2 (((5 * (u_10 23)) + w_6l1) : Int32).toNatClampNeg (u_10 17))))))))) ∧ (¬ w_6l1 ≤ 0 → ((S_m_takes w_6m0 f13 44) ∧ (∀ (r_16 : Int32) (u_15 : (Nat → Int32)), (r_16, u_15) = (f_m_takes w_6m0 f13 44) → ((r_16 = 0 → True) ∧ (¬ r_16 = 0 → ((S_m_takesNumber u_15 f13 0 9) ∧ (∀ (r_20 : Int32) (u_19 : (Nat → Int32)), (r_20, u_19) = (f_m_takesNumber u_15 f13 0 9) → ((r_20 = 0 → True) ∧ (¬ r_20 = 0 → (vp_in ((5 * (u_19 23)) + w_6l1) 30 ∧ (S_m_takesCouple_27 f13 K n (w_6l1 + 1) u_19 w_6m1 (upd w_6m2 (((5 * (u_19 23)) + w_6l1) : Int32).toNatClampNeg (u_19 17))))))))))))))))) := rfl
noncomputable def f_m_takesCouple (G : Nat → Int32) (f13 : Nat → Int32) (f28 : Nat → Int32) (f29 : Nat → Int32) : Int32 × (Nat → Int32) × (Nat → Int32) × (Nat → Int32) := (match (f_m_takesNumber G f13 0 99) with | (r_3, u_2) => (if r_3 = 0 then (0, u_2, f28, f29) else (match ((f_m_takesCouple_27 f13 10 0 u_2 (upd f28 ((u_2 23) : Int32).toNatClampNeg (u_2 17)) f29) : (Int32 × (Nat → Int32) × (Nat → Int32) × (Nat → Int32)) ⊕ (Int32 × (Nat → Int32) × (Nat → Int32) × (Nat → Int32))) with | Sum.inl (w_6l1, w_6m0, w_6m1, w_6m2) => (1, (upd w_6m0 23 ((w_6m0 23) + 1)), w_6m1, w_6m2) | Sum.inr o => o)))
def S_m_takesCouple (G : Nat → Int32) (f13 : Nat → Int32) (f28 : Nat → Int32) (f29 : Nat → Int32) : Prop := ((S_m_takesNumber G f13 0 99) ∧ (∀ (r_3 : Int32) (u_2 : (Nat → Int32)), (r_3, u_2) = (f_m_takesNumber G f13 0 99) → ((r_3 = 0 → True) ∧ (¬ r_3 = 0 → (vp_in (u_2 23) 6 ∧ (S_m_takesCouple_27 f13 (fun (w_6l1 : Int32) (w_6m0 : (Nat → Int32)) (w_6m1 : (Nat → Int32)) (w_6m2 : (Nat → Int32)) => True) 10 0 u_2 (upd f28 ((u_2 23) : Int32).toNatClampNeg (u_2 17)) f29))))))
def rm_m_takesCouple : Room := { frames := 3, cells := 0, slots := 0, locals := 63 }
set_option maxHeartbeats 4000000 in
set_option maxRecDepth 100000 in
theorem m_takesCouple {l : Launch} {D : va_G} {cI cZ : ClassId} {sz : Nat} (Rf : Nat → Nat) (h : Nat) (G : Nat → Int32) (f13 : Nat → Int32) (f28 : Nat → Int32) (f29 : Nat → Int32) (hF : S_m_takesCouple G f13 f28 f29) : KI l yX10_takesCouple cX10_takesCouple 2 (some .boolean) rm_m_takesCouple D cI cZ [.ref h] sz [(h, .inr (10, ML G Rf)), ((Rf 13), .inl (cI, 240, .inl f13)), ((Rf 28), .inl (cI, 6, .inl f28)), ((Rf 29), .inl (cI, 30, .inl f29))] (fun (r : Int32) (u : (Nat → Int32) × (Nat → Int32) × (Nat → Int32)) => (r, u) = f_m_takesCouple G f13 f28 f29) (fun (u : (Nat → Int32) × (Nat → Int32) × (Nat → Int32)) => [(h, .inr (10, ML u.1 Rf)), ((Rf 13), .inl (cI, 240, .inl f13)), ((Rf 28), .inl (cI, 6, .inl u.2.1)), ((Rf 29), .inl (cI, 30, .inl u.2.2))]) := by
  refine KI.go rfl (Nat.le_of_ble_eq_true rfl) ?_
  intro p e s m args below meth c ls A Q hx hb hml hts hown hin hP hK hD hS hA hN hl hret
  have hl : lv_has ls 2 [(0, .ref h)] := hl
  rw [S_m_takesCouple] at hF
  obtain ⟨RES, hE⟩ : ∃ xRES, f_m_takesCouple G f13 f28 f29 = xRES := ⟨_, rfl⟩
  rw [hE] at hret
  rw [f_m_takesCouple] at hE
  refine lv_aload_n hx hb dX10_takesCouple_0 rfl (lv_at hl 0 rfl) ?_
  refine lv_iconst (v := 0) hx hb dX10_takesCouple_1 rfl ?_
  refine lv_bipush (v := 99) hx hb dX10_takesCouple_2 rfl ?_
  obtain ⟨hs_1, hF⟩ := hF
  refine cVi (wr := [((Rf 28), .inl (cI, 6, .inl f28)), ((Rf 29), .inl (cI, 30, .inl f29))]) (rest := []) (m_takesNumber Rf h G f13 0 99 hs_1) okV_X10_takesNumber wd_528 hx hb hml hown hts hK hP hD hS hA hN hl.1 [0, 1] [2, 3] rfl rfl rfl rfl (of_decide_eq_true rfl) rfl rfl rfl (Nat.le_of_ble_eq_true rfl) (Nat.le_of_ble_eq_true rfl) (Nat.le_of_ble_eq_true rfl) (Nat.le_of_ble_eq_true rfl) (Nat.le_of_ble_eq_true rfl) dX10_takesCouple_4 (fun r_3 u_2 H locs hw_u_2 hP hD hS => ?_)
  replace hw_u_2 : (r_3, u_2) = (f_m_takesNumber G f13 0 99) := hw_u_2
  replace hF := hF r_3 u_2 hw_u_2
  rw [← hw_u_2] at hE
  replace hE : ((if r_3 = 0 then (0, u_2, f28, f29) else (match ((f_m_takesCouple_27 f13 10 0 u_2 (upd f28 ((u_2 23) : Int32).toNatClampNeg (u_2 17)) f29) : (Int32 × (Nat → Int32) × (Nat → Int32) × (Nat → Int32)) ⊕ (Int32 × (Nat → Int32) × (Nat → Int32) × (Nat → Int32))) with | Sum.inl (w_6l1, w_6m0, w_6m1, w_6m2) => (1, (upd w_6m0 23 ((w_6m0 23) + 1)), w_6m1, w_6m2) | Sum.inr o => o)) : Int32 × (Nat → Int32) × (Nat → Int32) × (Nat → Int32)) = RES := hE
  have hP : va_P D classes [((Rf 28), .inl (cI, 6, .inl f28)), ((Rf 29), .inl (cI, 30, .inl f29)), (h, .inr (10, ML u_2 Rf)), ((Rf 13), .inl (cI, 240, .inl f13))] H := hP
  have hD : va_D A [((Rf 28), .inl (cI, 6, .inl f28)), ((Rf 29), .inl (cI, 30, .inl f29)), (h, .inr (10, ML u_2 Rf)), ((Rf 13), .inl (cI, 240, .inl f13))] := hD
  refine lv_if_ne (tgt := 12) hx hb dX10_takesCouple_7 rfl (fun c_4 => ?_) (fun c_4 => ?_)
  · replace hF := hF.2 c_4
    rw [if_neg c_4] at hE
    refine lv_aload_n hx hb dX10_takesCouple_12 rfl (lv_at hl 0 rfl) ?_
    refine va_get (D := D) (ci := 10) (v := .ref (Rf 28)) (C := RX10) (T := TX10) (N := 45) hx hb hts iX10 hown hK hP 2 rfl rfl 28 (Nat.le_of_ble_eq_true rfl) (hts _ wd_535) (fun _ h9 => h9) rfl dX10_takesCouple_13 ?_
    refine lv_aload_n hx hb dX10_takesCouple_16 rfl (lv_at hl 0 rfl) ?_
    refine va_get (D := D) (ci := 10) (v := .int (u_2 23)) (C := RX10) (T := TX10) (N := 45) hx hb hts iX10 hown hK hP 2 rfl rfl 23 (Nat.le_of_ble_eq_true rfl) (hts _ wd_536) (fun _ h9 => h9) rfl dX10_takesCouple_17 ?_
    refine lv_aload_n hx hb dX10_takesCouple_20 rfl (lv_at hl 0 rfl) ?_
    refine va_get (D := D) (ci := 10) (v := .int (u_2 17)) (C := RX10) (T := TX10) (N := 45) hx hb hts iX10 hown hK hP 2 rfl rfl 17 (Nat.le_of_ble_eq_true rfl) (hts _ wd_526) (fun _ h9 => h9) rfl dX10_takesCouple_21 ?_
    obtain ⟨hv_5, hF⟩ := hF
    refine va_iast hx hb hK hP hD hS 0 0 rfl rfl hv_5 dX10_takesCouple_24 (fun H locs hP hD hS => ?_)
    have hP : va_P D classes [((Rf 28), .inl (cI, 6, .inl (upd f28 ((u_2 23) : Int32).toNatClampNeg (u_2 17)))), ((Rf 29), .inl (cI, 30, .inl f29)), (h, .inr (10, ML u_2 Rf)), ((Rf 13), .inl (cI, 240, .inl f13))] H := hP
    have hD : va_D A [((Rf 28), .inl (cI, 6, .inl (upd f28 ((u_2 23) : Int32).toNatClampNeg (u_2 17)))), ((Rf 29), .inl (cI, 30, .inl f29)), (h, .inr (10, ML u_2 Rf)), ((Rf 13), .inl (cI, 240, .inl f13))] := hD
    refine lv_iconst (v := 0) hx hb dX10_takesCouple_25 rfl ?_
    refine lv_istore_n (lv' := [(1, .int 0), (0, .ref h)]) hx hb dX10_takesCouple_26 rfl hl (Nat.le_of_ble_eq_true rfl) rfl (fun ls hl => ?_)
    have ex_27_w_6 : ∀ (w_6l1 : Int32) (w_6m0 : (Nat → Int32)) (w_6m1 : (Nat → Int32)) (w_6m2 : (Nat → Int32)) (H : Heap) (locs : List Loc) (ls : Array Slot), va_P D classes [((Rf 28), .inl (cI, 6, .inl w_6m1)), ((Rf 29), .inl (cI, 30, .inl w_6m2)), (h, .inr (10, ML w_6m0 Rf)), ((Rf 13), .inl (cI, 240, .inl f13))] H → va_D A [((Rf 28), .inl (cI, 6, .inl w_6m1)), ((Rf 29), .inl (cI, 30, .inl w_6m2)), (h, .inr (10, ML w_6m0 Rf)), ((Rf 13), .inl (cI, 240, .inl f13))] → va_S A s.heap H locs → lv_has ls 2 [(1, .int w_6l1), (0, .ref h)] → (True) → (((1, (upd w_6m0 23 ((w_6m0 23) + 1)), w_6m1, w_6m2)) : Int32 × (Nat → Int32) × (Nat → Int32) × (Nat → Int32)) = RES → W p l e rm_m_takesCouple s m args below meth c H locs 0 0 Q (F0 m 83 ls []) := by
      intro w_6l1 w_6m0 w_6m1 w_6m2 H locs ls hP hD hS hl hF hE
      refine lv_aload_n hx hb dX10_takesCouple_83 rfl (lv_at hl 1 rfl) ?_
      refine lv_dup hx hb dX10_takesCouple_84 rfl ?_
      refine va_get (D := D) (ci := 10) (v := .int (w_6m0 23)) (C := RX10) (T := TX10) (N := 45) hx hb hts iX10 hown hK hP 2 rfl rfl 23 (Nat.le_of_ble_eq_true rfl) (hts _ wd_536) (fun _ h9 => h9) rfl dX10_takesCouple_85 ?_
      refine lv_iconst (v := 1) hx hb dX10_takesCouple_88 rfl ?_
      refine lv_iadd hx hb dX10_takesCouple_89 ?_
      refine va_put (D := D) (ci := 10) (v := .int ((w_6m0 23) + 1)) (ty := .int) (C := RX10) (T := TX10) (N := 45) hx hb hts iX10 tyX10 tyX10_ok nmX10 hown hK hP hD hS 2 rfl rfl 23 (Nat.le_of_ble_eq_true rfl) (hts _ wd_536) (fun _ h9 => h9) rfl (by decide +kernel) rfl rfl (Nat.le_of_ble_eq_true rfl) dX10_takesCouple_90 (fun H locs hP hD hS => ?_)
      have hP : va_P D classes [((Rf 28), .inl (cI, 6, .inl w_6m1)), ((Rf 29), .inl (cI, 30, .inl w_6m2)), (h, .inr (10, ML (upd w_6m0 23 ((w_6m0 23) + 1)) Rf)), ((Rf 13), .inl (cI, 240, .inl f13))] H := hP
      have hD : va_D A [((Rf 28), .inl (cI, 6, .inl w_6m1)), ((Rf 29), .inl (cI, 30, .inl w_6m2)), (h, .inr (10, ML (upd w_6m0 23 ((w_6m0 23) + 1)) Rf)), ((Rf 13), .inl (cI, 240, .inl f13))] := hD
      refine lv_iconst (v := 1) hx hb dX10_takesCouple_93 rfl ?_
      exact hret 1 ((upd w_6m0 23 ((w_6m0 23) + 1)), w_6m1, w_6m2) _ _ _ _ dX10_takesCouple_94 rfl hE (cutP (isC := [2, 3, 0, 1]) hP rfl) (cutD (isC := [2, 3, 0, 1]) hD rfl rfl) hS
    have lp_27_w_6 : ∀ (n_w_6 : Nat) (w_6l1 : Int32) (w_6m0 : (Nat → Int32)) (w_6m1 : (Nat → Int32)) (w_6m2 : (Nat → Int32)) (H : Heap) (locs : List Loc) (ls : Array Slot), va_P D classes [((Rf 28), .inl (cI, 6, .inl w_6m1)), ((Rf 29), .inl (cI, 30, .inl w_6m2)), (h, .inr (10, ML w_6m0 Rf)), ((Rf 13), .inl (cI, 240, .inl f13))] H → va_D A [((Rf 28), .inl (cI, 6, .inl w_6m1)), ((Rf 29), .inl (cI, 30, .inl w_6m2)), (h, .inr (10, ML w_6m0 Rf)), ((Rf 13), .inl (cI, 240, .inl f13))] → va_S A s.heap H locs → lv_has ls 2 [(1, .int w_6l1), (0, .ref h)] → (S_m_takesCouple_27 f13 (fun (w_6l1 : Int32) (w_6m0 : (Nat → Int32)) (w_6m1 : (Nat → Int32)) (w_6m2 : (Nat → Int32)) => True) n_w_6 w_6l1 w_6m0 w_6m1 w_6m2) → ((match ((f_m_takesCouple_27 f13 n_w_6 w_6l1 w_6m0 w_6m1 w_6m2) : (Int32 × (Nat → Int32) × (Nat → Int32) × (Nat → Int32)) ⊕ (Int32 × (Nat → Int32) × (Nat → Int32) × (Nat → Int32))) with | Sum.inl (w_6l1, w_6m0, w_6m1, w_6m2) => (1, (upd w_6m0 23 ((w_6m0 23) + 1)), w_6m1, w_6m2) | Sum.inr o => o) : Int32 × (Nat → Int32) × (Nat → Int32) × (Nat → Int32)) = RES → W p l e rm_m_takesCouple s m args below meth c H locs 0 0 Q (F0 m 27 ls []) := by
      intro n_w_6
      induction n_w_6 with
      | zero => intro w_6l1 w_6m0 w_6m1 w_6m2 H locs ls hP hD hS hl hF hE; exact False.elim hF
      | succ n_w_6 ih_w_6 =>
        intro w_6l1 w_6m0 w_6m1 w_6m2 H locs ls hP hD hS hl hF hE
        rw [S_m_takesCouple_27_s] at hF
        rw [f_m_takesCouple_27_s] at hE
        refine lv_iload_n hx hb dX10_takesCouple_27 rfl (lv_at hl 0 rfl) ?_
        refine lv_aload_n hx hb dX10_takesCouple_28 rfl (lv_at hl 1 rfl) ?_
        refine va_get (D := D) (ci := 10) (v := .int (w_6m0 21)) (C := RX10) (T := TX10) (N := 45) hx hb hts iX10 hown hK hP 2 rfl rfl 21 (Nat.le_of_ble_eq_true rfl) (hts _ wd_534) (fun _ h9 => h9) rfl dX10_takesCouple_29 ?_
        refine lv_icmp_ge (tgt := 83) hx hb dX10_takesCouple_32 rfl (fun c_7 => ?_) (fun c_7 => ?_)
        · replace hF := hF.1 c_7
          rw [if_pos c_7] at hE
          exact ex_27_w_6 w_6l1 w_6m0 w_6m1 w_6m2 _ _ ls hP hD hS (lv_sub hl [0, 1] rfl) hF hE
        · replace hF := hF.2 c_7
          rw [if_neg c_7] at hE
          refine lv_iload_n hx hb dX10_takesCouple_35 rfl (lv_at hl 0 rfl) ?_
          refine lv_if_le (tgt := 48) hx hb dX10_takesCouple_36 rfl (fun c_8 => ?_) (fun c_8 => ?_)
          · replace hF := hF.1 c_8
            rw [if_pos c_8] at hE
            refine lv_aload_n hx hb dX10_takesCouple_48 rfl (lv_at hl 1 rfl) ?_
            refine lv_iconst (v := 0) hx hb dX10_takesCouple_49 rfl ?_
            refine lv_bipush (v := 9) hx hb dX10_takesCouple_50 rfl ?_
            obtain ⟨hs_9, hF⟩ := hF
            refine cVi (wr := [((Rf 28), .inl (cI, 6, .inl w_6m1)), ((Rf 29), .inl (cI, 30, .inl w_6m2))]) (rest := []) (m_takesNumber Rf h w_6m0 f13 0 9 hs_9) okV_X10_takesNumber wd_528 hx hb hml hown hts hK hP hD hS hA hN hl.1 [2, 3] [0, 1] rfl rfl rfl rfl (of_decide_eq_true rfl) rfl rfl rfl (Nat.le_of_ble_eq_true rfl) (Nat.le_of_ble_eq_true rfl) (Nat.le_of_ble_eq_true rfl) (Nat.le_of_ble_eq_true rfl) (Nat.le_of_ble_eq_true rfl) dX10_takesCouple_52 (fun r_11 u_10 H locs hw_u_10 hP hD hS => ?_)
            replace hw_u_10 : (r_11, u_10) = (f_m_takesNumber w_6m0 f13 0 9) := hw_u_10
            replace hF := hF r_11 u_10 hw_u_10
            rw [← hw_u_10] at hE
            replace hE : ((match ((if r_11 = 0 then (Sum.inr (0, u_10, w_6m1, w_6m2)) else (f_m_takesCouple_27 f13 n_w_6 (w_6l1 + 1) u_10 w_6m1 (upd w_6m2 (((5 * (u_10 23)) + w_6l1) : Int32).toNatClampNeg (u_10 17)))) : (Int32 × (Nat → Int32) × (Nat → Int32) × (Nat → Int32)) ⊕ (Int32 × (Nat → Int32) × (Nat → Int32) × (Nat → Int32))) with | Sum.inl (w_6l1, w_6m0, w_6m1, w_6m2) => (1, (upd w_6m0 23 ((w_6m0 23) + 1)), w_6m1, w_6m2) | Sum.inr o => o) : Int32 × (Nat → Int32) × (Nat → Int32) × (Nat → Int32)) = RES := hE
            have hP : va_P D classes [((Rf 28), .inl (cI, 6, .inl w_6m1)), ((Rf 29), .inl (cI, 30, .inl w_6m2)), (h, .inr (10, ML u_10 Rf)), ((Rf 13), .inl (cI, 240, .inl f13))] H := hP
            have hD : va_D A [((Rf 28), .inl (cI, 6, .inl w_6m1)), ((Rf 29), .inl (cI, 30, .inl w_6m2)), (h, .inr (10, ML u_10 Rf)), ((Rf 13), .inl (cI, 240, .inl f13))] := hD
            refine lv_if_ne (tgt := 60) hx hb dX10_takesCouple_55 rfl (fun c_12 => ?_) (fun c_12 => ?_)
            · replace hF := hF.2 c_12
              rw [if_neg c_12] at hE
              refine lv_aload_n hx hb dX10_takesCouple_60 rfl (lv_at hl 1 rfl) ?_
              refine va_get (D := D) (ci := 10) (v := .ref (Rf 29)) (C := RX10) (T := TX10) (N := 45) hx hb hts iX10 hown hK hP 2 rfl rfl 29 (Nat.le_of_ble_eq_true rfl) (hts _ wd_537) (fun _ h9 => h9) rfl dX10_takesCouple_61 ?_
              refine lv_iconst (v := 5) hx hb dX10_takesCouple_64 rfl ?_
              refine lv_aload_n hx hb dX10_takesCouple_65 rfl (lv_at hl 1 rfl) ?_
              refine va_get (D := D) (ci := 10) (v := .int (u_10 23)) (C := RX10) (T := TX10) (N := 45) hx hb hts iX10 hown hK hP 2 rfl rfl 23 (Nat.le_of_ble_eq_true rfl) (hts _ wd_536) (fun _ h9 => h9) rfl dX10_takesCouple_66 ?_
              refine lv_imul hx hb dX10_takesCouple_69 ?_
              refine lv_iload_n hx hb dX10_takesCouple_70 rfl (lv_at hl 0 rfl) ?_
              refine lv_iadd hx hb dX10_takesCouple_71 ?_
              refine lv_aload_n hx hb dX10_takesCouple_72 rfl (lv_at hl 1 rfl) ?_
              refine va_get (D := D) (ci := 10) (v := .int (u_10 17)) (C := RX10) (T := TX10) (N := 45) hx hb hts iX10 hown hK hP 2 rfl rfl 17 (Nat.le_of_ble_eq_true rfl) (hts _ wd_526) (fun _ h9 => h9) rfl dX10_takesCouple_73 ?_
              obtain ⟨hv_13, hF⟩ := hF
              refine va_iast hx hb hK hP hD hS 1 0 rfl rfl hv_13 dX10_takesCouple_76 (fun H locs hP hD hS => ?_)
              have hP : va_P D classes [((Rf 28), .inl (cI, 6, .inl w_6m1)), ((Rf 29), .inl (cI, 30, .inl (upd w_6m2 (((5 * (u_10 23)) + w_6l1) : Int32).toNatClampNeg (u_10 17)))), (h, .inr (10, ML u_10 Rf)), ((Rf 13), .inl (cI, 240, .inl f13))] H := hP
              have hD : va_D A [((Rf 28), .inl (cI, 6, .inl w_6m1)), ((Rf 29), .inl (cI, 30, .inl (upd w_6m2 (((5 * (u_10 23)) + w_6l1) : Int32).toNatClampNeg (u_10 17)))), (h, .inr (10, ML u_10 Rf)), ((Rf 13), .inl (cI, 240, .inl f13))] := hD
              refine lv_iinc (v := (w_6l1 + 1)) (lv' := [(1, .int (w_6l1 + 1)), (0, .ref h)]) hx hb dX10_takesCouple_77 hl (k := 0) rfl rfl (Nat.le_of_ble_eq_true rfl) rfl (fun ls hl => ?_)
              refine lv_goto (tgt := 27) hx hb dX10_takesCouple_80 rfl ?_
              exact ih_w_6 (w_6l1 + 1) u_10 w_6m1 (upd w_6m2 (((5 * (u_10 23)) + w_6l1) : Int32).toNatClampNeg (u_10 17)) _ _ ls hP hD hS (lv_sub hl [0, 1] rfl) hF hE
            · replace hF := hF.1 c_12
              rw [if_pos c_12] at hE
              subst c_12
              refine lv_iconst (v := 0) hx hb dX10_takesCouple_58 rfl ?_
              exact hret 0 (u_10, w_6m1, w_6m2) _ _ _ _ dX10_takesCouple_59 rfl hE (cutP (isC := [2, 3, 0, 1]) hP rfl) (cutD (isC := [2, 3, 0, 1]) hD rfl rfl) hS
          · replace hF := hF.2 c_8
            rw [if_neg c_8] at hE
            refine lv_aload_n hx hb dX10_takesCouple_39 rfl (lv_at hl 1 rfl) ?_
            refine lv_bipush (v := 44) hx hb dX10_takesCouple_40 rfl ?_
            obtain ⟨hs_14, hF⟩ := hF
            refine cVi (wr := [((Rf 28), .inl (cI, 6, .inl w_6m1)), ((Rf 29), .inl (cI, 30, .inl w_6m2))]) (rest := []) (m_takes Rf h w_6m0 f13 44 hs_14) okV_X10_takes wd_538 hx hb hml hown hts hK hP hD hS hA hN hl.1 [2, 3] [0, 1] rfl rfl rfl rfl (of_decide_eq_true rfl) rfl rfl rfl (Nat.le_of_ble_eq_true rfl) (Nat.le_of_ble_eq_true rfl) (Nat.le_of_ble_eq_true rfl) (Nat.le_of_ble_eq_true rfl) (Nat.le_of_ble_eq_true rfl) dX10_takesCouple_42 (fun r_16 u_15 H locs hw_u_15 hP hD hS => ?_)
            replace hw_u_15 : (r_16, u_15) = (f_m_takes w_6m0 f13 44) := hw_u_15
            replace hF := hF r_16 u_15 hw_u_15
            rw [← hw_u_15] at hE
            replace hE : ((match ((if r_16 = 0 then (Sum.inr (0, u_15, w_6m1, w_6m2)) else (match (f_m_takesNumber u_15 f13 0 9) with | (r_20, u_19) => (if r_20 = 0 then (Sum.inr (0, u_19, w_6m1, w_6m2)) else (f_m_takesCouple_27 f13 n_w_6 (w_6l1 + 1) u_19 w_6m1 (upd w_6m2 (((5 * (u_19 23)) + w_6l1) : Int32).toNatClampNeg (u_19 17)))))) : (Int32 × (Nat → Int32) × (Nat → Int32) × (Nat → Int32)) ⊕ (Int32 × (Nat → Int32) × (Nat → Int32) × (Nat → Int32))) with | Sum.inl (w_6l1, w_6m0, w_6m1, w_6m2) => (1, (upd w_6m0 23 ((w_6m0 23) + 1)), w_6m1, w_6m2) | Sum.inr o => o) : Int32 × (Nat → Int32) × (Nat → Int32) × (Nat → Int32)) = RES := hE
            have hP : va_P D classes [((Rf 28), .inl (cI, 6, .inl w_6m1)), ((Rf 29), .inl (cI, 30, .inl w_6m2)), (h, .inr (10, ML u_15 Rf)), ((Rf 13), .inl (cI, 240, .inl f13))] H := hP
            have hD : va_D A [((Rf 28), .inl (cI, 6, .inl w_6m1)), ((Rf 29), .inl (cI, 30, .inl w_6m2)), (h, .inr (10, ML u_15 Rf)), ((Rf 13), .inl (cI, 240, .inl f13))] := hD
            refine lv_if_eq (tgt := 58) hx hb dX10_takesCouple_45 rfl (fun c_17 => ?_) (fun c_17 => ?_)
            · replace hF := hF.1 c_17
              rw [if_pos c_17] at hE
              subst c_17
              refine lv_iconst (v := 0) hx hb dX10_takesCouple_58 rfl ?_
              exact hret 0 (u_15, w_6m1, w_6m2) _ _ _ _ dX10_takesCouple_59 rfl hE (cutP (isC := [2, 3, 0, 1]) hP rfl) (cutD (isC := [2, 3, 0, 1]) hD rfl rfl) hS
            · replace hF := hF.2 c_17
              rw [if_neg c_17] at hE
              refine lv_aload_n hx hb dX10_takesCouple_48 rfl (lv_at hl 1 rfl) ?_
              refine lv_iconst (v := 0) hx hb dX10_takesCouple_49 rfl ?_
              refine lv_bipush (v := 9) hx hb dX10_takesCouple_50 rfl ?_
              obtain ⟨hs_18, hF⟩ := hF
              refine cVi (wr := [((Rf 28), .inl (cI, 6, .inl w_6m1)), ((Rf 29), .inl (cI, 30, .inl w_6m2))]) (rest := []) (m_takesNumber Rf h u_15 f13 0 9 hs_18) okV_X10_takesNumber wd_528 hx hb hml hown hts hK hP hD hS hA hN hl.1 [2, 3] [0, 1] rfl rfl rfl rfl (of_decide_eq_true rfl) rfl rfl rfl (Nat.le_of_ble_eq_true rfl) (Nat.le_of_ble_eq_true rfl) (Nat.le_of_ble_eq_true rfl) (Nat.le_of_ble_eq_true rfl) (Nat.le_of_ble_eq_true rfl) dX10_takesCouple_52 (fun r_20 u_19 H locs hw_u_19 hP hD hS => ?_)
              replace hw_u_19 : (r_20, u_19) = (f_m_takesNumber u_15 f13 0 9) := hw_u_19
              replace hF := hF r_20 u_19 hw_u_19
              rw [← hw_u_19] at hE
              replace hE : ((match ((if r_20 = 0 then (Sum.inr (0, u_19, w_6m1, w_6m2)) else (f_m_takesCouple_27 f13 n_w_6 (w_6l1 + 1) u_19 w_6m1 (upd w_6m2 (((5 * (u_19 23)) + w_6l1) : Int32).toNatClampNeg (u_19 17)))) : (Int32 × (Nat → Int32) × (Nat → Int32) × (Nat → Int32)) ⊕ (Int32 × (Nat → Int32) × (Nat → Int32) × (Nat → Int32))) with | Sum.inl (w_6l1, w_6m0, w_6m1, w_6m2) => (1, (upd w_6m0 23 ((w_6m0 23) + 1)), w_6m1, w_6m2) | Sum.inr o => o) : Int32 × (Nat → Int32) × (Nat → Int32) × (Nat → Int32)) = RES := hE
              have hP : va_P D classes [((Rf 28), .inl (cI, 6, .inl w_6m1)), ((Rf 29), .inl (cI, 30, .inl w_6m2)), (h, .inr (10, ML u_19 Rf)), ((Rf 13), .inl (cI, 240, .inl f13))] H := hP
              have hD : va_D A [((Rf 28), .inl (cI, 6, .inl w_6m1)), ((Rf 29), .inl (cI, 30, .inl w_6m2)), (h, .inr (10, ML u_19 Rf)), ((Rf 13), .inl (cI, 240, .inl f13))] := hD
              refine lv_if_ne (tgt := 60) hx hb dX10_takesCouple_55 rfl (fun c_21 => ?_) (fun c_21 => ?_)
              · replace hF := hF.2 c_21
                rw [if_neg c_21] at hE
                refine lv_aload_n hx hb dX10_takesCouple_60 rfl (lv_at hl 1 rfl) ?_
                refine va_get (D := D) (ci := 10) (v := .ref (Rf 29)) (C := RX10) (T := TX10) (N := 45) hx hb hts iX10 hown hK hP 2 rfl rfl 29 (Nat.le_of_ble_eq_true rfl) (hts _ wd_537) (fun _ h9 => h9) rfl dX10_takesCouple_61 ?_
                refine lv_iconst (v := 5) hx hb dX10_takesCouple_64 rfl ?_
                refine lv_aload_n hx hb dX10_takesCouple_65 rfl (lv_at hl 1 rfl) ?_
                refine va_get (D := D) (ci := 10) (v := .int (u_19 23)) (C := RX10) (T := TX10) (N := 45) hx hb hts iX10 hown hK hP 2 rfl rfl 23 (Nat.le_of_ble_eq_true rfl) (hts _ wd_536) (fun _ h9 => h9) rfl dX10_takesCouple_66 ?_
                refine lv_imul hx hb dX10_takesCouple_69 ?_
                refine lv_iload_n hx hb dX10_takesCouple_70 rfl (lv_at hl 0 rfl) ?_
                refine lv_iadd hx hb dX10_takesCouple_71 ?_
                refine lv_aload_n hx hb dX10_takesCouple_72 rfl (lv_at hl 1 rfl) ?_
                refine va_get (D := D) (ci := 10) (v := .int (u_19 17)) (C := RX10) (T := TX10) (N := 45) hx hb hts iX10 hown hK hP 2 rfl rfl 17 (Nat.le_of_ble_eq_true rfl) (hts _ wd_526) (fun _ h9 => h9) rfl dX10_takesCouple_73 ?_
                obtain ⟨hv_22, hF⟩ := hF
                refine va_iast hx hb hK hP hD hS 1 0 rfl rfl hv_22 dX10_takesCouple_76 (fun H locs hP hD hS => ?_)
                have hP : va_P D classes [((Rf 28), .inl (cI, 6, .inl w_6m1)), ((Rf 29), .inl (cI, 30, .inl (upd w_6m2 (((5 * (u_19 23)) + w_6l1) : Int32).toNatClampNeg (u_19 17)))), (h, .inr (10, ML u_19 Rf)), ((Rf 13), .inl (cI, 240, .inl f13))] H := hP
                have hD : va_D A [((Rf 28), .inl (cI, 6, .inl w_6m1)), ((Rf 29), .inl (cI, 30, .inl (upd w_6m2 (((5 * (u_19 23)) + w_6l1) : Int32).toNatClampNeg (u_19 17)))), (h, .inr (10, ML u_19 Rf)), ((Rf 13), .inl (cI, 240, .inl f13))] := hD
                refine lv_iinc (v := (w_6l1 + 1)) (lv' := [(1, .int (w_6l1 + 1)), (0, .ref h)]) hx hb dX10_takesCouple_77 hl (k := 0) rfl rfl (Nat.le_of_ble_eq_true rfl) rfl (fun ls hl => ?_)
                refine lv_goto (tgt := 27) hx hb dX10_takesCouple_80 rfl ?_
                exact ih_w_6 (w_6l1 + 1) u_19 w_6m1 (upd w_6m2 (((5 * (u_19 23)) + w_6l1) : Int32).toNatClampNeg (u_19 17)) _ _ ls hP hD hS (lv_sub hl [0, 1] rfl) hF hE
              · replace hF := hF.1 c_21
                rw [if_pos c_21] at hE
                subst c_21
                refine lv_iconst (v := 0) hx hb dX10_takesCouple_58 rfl ?_
                exact hret 0 (u_19, w_6m1, w_6m2) _ _ _ _ dX10_takesCouple_59 rfl hE (cutP (isC := [2, 3, 0, 1]) hP rfl) (cutD (isC := [2, 3, 0, 1]) hD rfl rfl) hS
    exact lp_27_w_6 10 0 u_2 (upd f28 ((u_2 23) : Int32).toNatClampNeg (u_2 17)) f29 _ _ ls hP hD hS hl hF hE
  · replace hF := hF.1 c_4
    rw [if_pos c_4] at hE
    subst c_4
    refine lv_iconst (v := 0) hx hb dX10_takesCouple_10 rfl ?_
    exact hret 0 (u_2, f28, f29) _ _ _ _ dX10_takesCouple_11 rfl hE (cutP (isC := [2, 3, 0, 1]) hP rfl) (cutD (isC := [2, 3, 0, 1]) hD rfl rfl) hS
noncomputable def f_m_takesBarge (G : Nat → Int32) (f13 : Nat → Int32) (f30 : Nat → Int32) (f31 : Nat → Int32) : Int32 × (Nat → Int32) × (Nat → Int32) × (Nat → Int32) := (match (f_m_takesNumber G f13 0 ((G 20) - 1)) with | (r_3, u_2) => (if r_3 = 0 then (0, u_2, f30, f31) else (match (f_m_takesNumber u_2 f13 1 300) with | (r_8, u_7) => (if r_8 = 0 then (0, u_7, (upd f30 ((u_2 24) : Int32).toNatClampNeg (u_2 17)), f31) else (1, (upd u_7 24 ((u_7 24) + 1)), (upd f30 ((u_2 24) : Int32).toNatClampNeg (u_2 17)), (upd f31 ((u_7 24) : Int32).toNatClampNeg (u_7 17)))))))
def S_m_takesBarge (G : Nat → Int32) (f13 : Nat → Int32) (f30 : Nat → Int32) (f31 : Nat → Int32) : Prop := ((S_m_takesNumber G f13 0 ((G 20) - 1)) ∧ (∀ (r_3 : Int32) (u_2 : (Nat → Int32)), (r_3, u_2) = (f_m_takesNumber G f13 0 ((G 20) - 1)) → ((r_3 = 0 → True) ∧ (¬ r_3 = 0 → (vp_in (u_2 24) 7 ∧ ((S_m_takesNumber u_2 f13 1 300) ∧ (∀ (r_8 : Int32) (u_7 : (Nat → Int32)), (r_8, u_7) = (f_m_takesNumber u_2 f13 1 300) → ((r_8 = 0 → True) ∧ (¬ r_8 = 0 → (vp_in (u_7 24) 7 ∧ True))))))))))
def rm_m_takesBarge : Room := { frames := 3, cells := 0, slots := 0, locals := 63 }
set_option maxHeartbeats 4000000 in
set_option maxRecDepth 100000 in
theorem m_takesBarge {l : Launch} {D : va_G} {cI cZ : ClassId} {sz : Nat} (Rf : Nat → Nat) (h : Nat) (G : Nat → Int32) (f13 : Nat → Int32) (f30 : Nat → Int32) (f31 : Nat → Int32) (hF : S_m_takesBarge G f13 f30 f31) : KI l yX10_takesBarge cX10_takesBarge 1 (some .boolean) rm_m_takesBarge D cI cZ [.ref h] sz [(h, .inr (10, ML G Rf)), ((Rf 13), .inl (cI, 240, .inl f13)), ((Rf 30), .inl (cI, 7, .inl f30)), ((Rf 31), .inl (cI, 7, .inl f31))] (fun (r : Int32) (u : (Nat → Int32) × (Nat → Int32) × (Nat → Int32)) => (r, u) = f_m_takesBarge G f13 f30 f31) (fun (u : (Nat → Int32) × (Nat → Int32) × (Nat → Int32)) => [(h, .inr (10, ML u.1 Rf)), ((Rf 13), .inl (cI, 240, .inl f13)), ((Rf 30), .inl (cI, 7, .inl u.2.1)), ((Rf 31), .inl (cI, 7, .inl u.2.2))]) := by
  refine KI.go rfl (Nat.le_of_ble_eq_true rfl) ?_
  intro p e s m args below meth c ls A Q hx hb hml hts hown hin hP hK hD hS hA hN hl hret
  have hl : lv_has ls 1 [(0, .ref h)] := hl
  rw [S_m_takesBarge] at hF
  obtain ⟨RES, hE⟩ : ∃ xRES, f_m_takesBarge G f13 f30 f31 = xRES := ⟨_, rfl⟩
  rw [hE] at hret
  rw [f_m_takesBarge] at hE
  refine lv_aload_n hx hb dX10_takesBarge_0 rfl (lv_at hl 0 rfl) ?_
  refine lv_iconst (v := 0) hx hb dX10_takesBarge_1 rfl ?_
  refine lv_aload_n hx hb dX10_takesBarge_2 rfl (lv_at hl 0 rfl) ?_
  refine va_get (D := D) (ci := 10) (v := .int (G 20)) (C := RX10) (T := TX10) (N := 45) hx hb hts iX10 hown hK hP 0 rfl rfl 20 (Nat.le_of_ble_eq_true rfl) (hts _ wd_527) (fun _ h9 => h9) rfl dX10_takesBarge_3 ?_
  refine lv_iconst (v := 1) hx hb dX10_takesBarge_6 rfl ?_
  refine lv_isub hx hb dX10_takesBarge_7 ?_
  obtain ⟨hs_1, hF⟩ := hF
  refine cVi (wr := [((Rf 30), .inl (cI, 7, .inl f30)), ((Rf 31), .inl (cI, 7, .inl f31))]) (rest := []) (m_takesNumber Rf h G f13 0 ((G 20) - 1) hs_1) okV_X10_takesNumber wd_528 hx hb hml hown hts hK hP hD hS hA hN hl.1 [0, 1] [2, 3] rfl rfl rfl rfl (of_decide_eq_true rfl) rfl rfl rfl (Nat.le_of_ble_eq_true rfl) (Nat.le_of_ble_eq_true rfl) (Nat.le_of_ble_eq_true rfl) (Nat.le_of_ble_eq_true rfl) (Nat.le_of_ble_eq_true rfl) dX10_takesBarge_8 (fun r_3 u_2 H locs hw_u_2 hP hD hS => ?_)
  replace hw_u_2 : (r_3, u_2) = (f_m_takesNumber G f13 0 ((G 20) - 1)) := hw_u_2
  replace hF := hF r_3 u_2 hw_u_2
  rw [← hw_u_2] at hE
  replace hE : ((if r_3 = 0 then (0, u_2, f30, f31) else (match (f_m_takesNumber u_2 f13 1 300) with | (r_8, u_7) => (if r_8 = 0 then (0, u_7, (upd f30 ((u_2 24) : Int32).toNatClampNeg (u_2 17)), f31) else (1, (upd u_7 24 ((u_7 24) + 1)), (upd f30 ((u_2 24) : Int32).toNatClampNeg (u_2 17)), (upd f31 ((u_7 24) : Int32).toNatClampNeg (u_7 17)))))) : Int32 × (Nat → Int32) × (Nat → Int32) × (Nat → Int32)) = RES := hE
  have hP : va_P D classes [((Rf 30), .inl (cI, 7, .inl f30)), ((Rf 31), .inl (cI, 7, .inl f31)), (h, .inr (10, ML u_2 Rf)), ((Rf 13), .inl (cI, 240, .inl f13))] H := hP
  have hD : va_D A [((Rf 30), .inl (cI, 7, .inl f30)), ((Rf 31), .inl (cI, 7, .inl f31)), (h, .inr (10, ML u_2 Rf)), ((Rf 13), .inl (cI, 240, .inl f13))] := hD
  refine lv_if_ne (tgt := 16) hx hb dX10_takesBarge_11 rfl (fun c_4 => ?_) (fun c_4 => ?_)
  · replace hF := hF.2 c_4
    rw [if_neg c_4] at hE
    refine lv_aload_n hx hb dX10_takesBarge_16 rfl (lv_at hl 0 rfl) ?_
    refine va_get (D := D) (ci := 10) (v := .ref (Rf 30)) (C := RX10) (T := TX10) (N := 45) hx hb hts iX10 hown hK hP 2 rfl rfl 30 (Nat.le_of_ble_eq_true rfl) (hts _ wd_542) (fun _ h9 => h9) rfl dX10_takesBarge_17 ?_
    refine lv_aload_n hx hb dX10_takesBarge_20 rfl (lv_at hl 0 rfl) ?_
    refine va_get (D := D) (ci := 10) (v := .int (u_2 24)) (C := RX10) (T := TX10) (N := 45) hx hb hts iX10 hown hK hP 2 rfl rfl 24 (Nat.le_of_ble_eq_true rfl) (hts _ wd_543) (fun _ h9 => h9) rfl dX10_takesBarge_21 ?_
    refine lv_aload_n hx hb dX10_takesBarge_24 rfl (lv_at hl 0 rfl) ?_
    refine va_get (D := D) (ci := 10) (v := .int (u_2 17)) (C := RX10) (T := TX10) (N := 45) hx hb hts iX10 hown hK hP 2 rfl rfl 17 (Nat.le_of_ble_eq_true rfl) (hts _ wd_526) (fun _ h9 => h9) rfl dX10_takesBarge_25 ?_
    obtain ⟨hv_5, hF⟩ := hF
    refine va_iast hx hb hK hP hD hS 0 0 rfl rfl hv_5 dX10_takesBarge_28 (fun H locs hP hD hS => ?_)
    have hP : va_P D classes [((Rf 30), .inl (cI, 7, .inl (upd f30 ((u_2 24) : Int32).toNatClampNeg (u_2 17)))), ((Rf 31), .inl (cI, 7, .inl f31)), (h, .inr (10, ML u_2 Rf)), ((Rf 13), .inl (cI, 240, .inl f13))] H := hP
    have hD : va_D A [((Rf 30), .inl (cI, 7, .inl (upd f30 ((u_2 24) : Int32).toNatClampNeg (u_2 17)))), ((Rf 31), .inl (cI, 7, .inl f31)), (h, .inr (10, ML u_2 Rf)), ((Rf 13), .inl (cI, 240, .inl f13))] := hD
    refine lv_aload_n hx hb dX10_takesBarge_29 rfl (lv_at hl 0 rfl) ?_
    refine lv_iconst (v := 1) hx hb dX10_takesBarge_30 rfl ?_
    refine lv_sipush (v := 300) hx hb dX10_takesBarge_31 rfl ?_
    obtain ⟨hs_6, hF⟩ := hF
    refine cVi (wr := [((Rf 30), .inl (cI, 7, .inl (upd f30 ((u_2 24) : Int32).toNatClampNeg (u_2 17)))), ((Rf 31), .inl (cI, 7, .inl f31))]) (rest := []) (m_takesNumber Rf h u_2 f13 1 300 hs_6) okV_X10_takesNumber wd_528 hx hb hml hown hts hK hP hD hS hA hN hl.1 [2, 3] [0, 1] rfl rfl rfl rfl (of_decide_eq_true rfl) rfl rfl rfl (Nat.le_of_ble_eq_true rfl) (Nat.le_of_ble_eq_true rfl) (Nat.le_of_ble_eq_true rfl) (Nat.le_of_ble_eq_true rfl) (Nat.le_of_ble_eq_true rfl) dX10_takesBarge_34 (fun r_8 u_7 H locs hw_u_7 hP hD hS => ?_)
    replace hw_u_7 : (r_8, u_7) = (f_m_takesNumber u_2 f13 1 300) := hw_u_7
    replace hF := hF r_8 u_7 hw_u_7
    rw [← hw_u_7] at hE
    replace hE : ((if r_8 = 0 then (0, u_7, (upd f30 ((u_2 24) : Int32).toNatClampNeg (u_2 17)), f31) else (1, (upd u_7 24 ((u_7 24) + 1)), (upd f30 ((u_2 24) : Int32).toNatClampNeg (u_2 17)), (upd f31 ((u_7 24) : Int32).toNatClampNeg (u_7 17)))) : Int32 × (Nat → Int32) × (Nat → Int32) × (Nat → Int32)) = RES := hE
    have hP : va_P D classes [((Rf 30), .inl (cI, 7, .inl (upd f30 ((u_2 24) : Int32).toNatClampNeg (u_2 17)))), ((Rf 31), .inl (cI, 7, .inl f31)), (h, .inr (10, ML u_7 Rf)), ((Rf 13), .inl (cI, 240, .inl f13))] H := hP
    have hD : va_D A [((Rf 30), .inl (cI, 7, .inl (upd f30 ((u_2 24) : Int32).toNatClampNeg (u_2 17)))), ((Rf 31), .inl (cI, 7, .inl f31)), (h, .inr (10, ML u_7 Rf)), ((Rf 13), .inl (cI, 240, .inl f13))] := hD
    refine lv_if_ne (tgt := 42) hx hb dX10_takesBarge_37 rfl (fun c_9 => ?_) (fun c_9 => ?_)
    · replace hF := hF.2 c_9
      rw [if_neg c_9] at hE
      refine lv_aload_n hx hb dX10_takesBarge_42 rfl (lv_at hl 0 rfl) ?_
      refine va_get (D := D) (ci := 10) (v := .ref (Rf 31)) (C := RX10) (T := TX10) (N := 45) hx hb hts iX10 hown hK hP 2 rfl rfl 31 (Nat.le_of_ble_eq_true rfl) (hts _ wd_544) (fun _ h9 => h9) rfl dX10_takesBarge_43 ?_
      refine lv_aload_n hx hb dX10_takesBarge_46 rfl (lv_at hl 0 rfl) ?_
      refine va_get (D := D) (ci := 10) (v := .int (u_7 24)) (C := RX10) (T := TX10) (N := 45) hx hb hts iX10 hown hK hP 2 rfl rfl 24 (Nat.le_of_ble_eq_true rfl) (hts _ wd_543) (fun _ h9 => h9) rfl dX10_takesBarge_47 ?_
      refine lv_aload_n hx hb dX10_takesBarge_50 rfl (lv_at hl 0 rfl) ?_
      refine va_get (D := D) (ci := 10) (v := .int (u_7 17)) (C := RX10) (T := TX10) (N := 45) hx hb hts iX10 hown hK hP 2 rfl rfl 17 (Nat.le_of_ble_eq_true rfl) (hts _ wd_526) (fun _ h9 => h9) rfl dX10_takesBarge_51 ?_
      obtain ⟨hv_10, hF⟩ := hF
      refine va_iast hx hb hK hP hD hS 1 0 rfl rfl hv_10 dX10_takesBarge_54 (fun H locs hP hD hS => ?_)
      have hP : va_P D classes [((Rf 30), .inl (cI, 7, .inl (upd f30 ((u_2 24) : Int32).toNatClampNeg (u_2 17)))), ((Rf 31), .inl (cI, 7, .inl (upd f31 ((u_7 24) : Int32).toNatClampNeg (u_7 17)))), (h, .inr (10, ML u_7 Rf)), ((Rf 13), .inl (cI, 240, .inl f13))] H := hP
      have hD : va_D A [((Rf 30), .inl (cI, 7, .inl (upd f30 ((u_2 24) : Int32).toNatClampNeg (u_2 17)))), ((Rf 31), .inl (cI, 7, .inl (upd f31 ((u_7 24) : Int32).toNatClampNeg (u_7 17)))), (h, .inr (10, ML u_7 Rf)), ((Rf 13), .inl (cI, 240, .inl f13))] := hD
      refine lv_aload_n hx hb dX10_takesBarge_55 rfl (lv_at hl 0 rfl) ?_
      refine lv_dup hx hb dX10_takesBarge_56 rfl ?_
      refine va_get (D := D) (ci := 10) (v := .int (u_7 24)) (C := RX10) (T := TX10) (N := 45) hx hb hts iX10 hown hK hP 2 rfl rfl 24 (Nat.le_of_ble_eq_true rfl) (hts _ wd_543) (fun _ h9 => h9) rfl dX10_takesBarge_57 ?_
      refine lv_iconst (v := 1) hx hb dX10_takesBarge_60 rfl ?_
      refine lv_iadd hx hb dX10_takesBarge_61 ?_
      refine va_put (D := D) (ci := 10) (v := .int ((u_7 24) + 1)) (ty := .int) (C := RX10) (T := TX10) (N := 45) hx hb hts iX10 tyX10 tyX10_ok nmX10 hown hK hP hD hS 2 rfl rfl 24 (Nat.le_of_ble_eq_true rfl) (hts _ wd_543) (fun _ h9 => h9) rfl (by decide +kernel) rfl rfl (Nat.le_of_ble_eq_true rfl) dX10_takesBarge_62 (fun H locs hP hD hS => ?_)
      have hP : va_P D classes [((Rf 30), .inl (cI, 7, .inl (upd f30 ((u_2 24) : Int32).toNatClampNeg (u_2 17)))), ((Rf 31), .inl (cI, 7, .inl (upd f31 ((u_7 24) : Int32).toNatClampNeg (u_7 17)))), (h, .inr (10, ML (upd u_7 24 ((u_7 24) + 1)) Rf)), ((Rf 13), .inl (cI, 240, .inl f13))] H := hP
      have hD : va_D A [((Rf 30), .inl (cI, 7, .inl (upd f30 ((u_2 24) : Int32).toNatClampNeg (u_2 17)))), ((Rf 31), .inl (cI, 7, .inl (upd f31 ((u_7 24) : Int32).toNatClampNeg (u_7 17)))), (h, .inr (10, ML (upd u_7 24 ((u_7 24) + 1)) Rf)), ((Rf 13), .inl (cI, 240, .inl f13))] := hD
      refine lv_iconst (v := 1) hx hb dX10_takesBarge_65 rfl ?_
      exact hret 1 ((upd u_7 24 ((u_7 24) + 1)), (upd f30 ((u_2 24) : Int32).toNatClampNeg (u_2 17)), (upd f31 ((u_7 24) : Int32).toNatClampNeg (u_7 17))) _ _ _ _ dX10_takesBarge_66 rfl hE (cutP (isC := [2, 3, 0, 1]) hP rfl) (cutD (isC := [2, 3, 0, 1]) hD rfl rfl) hS
    · replace hF := hF.1 c_9
      rw [if_pos c_9] at hE
      subst c_9
      refine lv_iconst (v := 0) hx hb dX10_takesBarge_40 rfl ?_
      exact hret 0 (u_7, (upd f30 ((u_2 24) : Int32).toNatClampNeg (u_2 17)), f31) _ _ _ _ dX10_takesBarge_41 rfl hE (cutP (isC := [2, 3, 0, 1]) hP rfl) (cutD (isC := [2, 3, 0, 1]) hD rfl rfl) hS
  · replace hF := hF.1 c_4
    rw [if_pos c_4] at hE
    subst c_4
    refine lv_iconst (v := 0) hx hb dX10_takesBarge_14 rfl ?_
    exact hret 0 (u_2, f30, f31) _ _ _ _ dX10_takesBarge_15 rfl hE (cutP (isC := [2, 3, 0, 1]) hP rfl) (cutD (isC := [2, 3, 0, 1]) hD rfl rfl) hS
noncomputable def f_m_takesSnow (G : Nat → Int32) (f13 : Nat → Int32) : Int32 × (Nat → Int32) := (match (f_m_takesNumber (upd G 26 1) f13 0 1) with | (r_3, u_2) => (if r_3 = 0 then (0, u_2) else (1, (upd u_2 25 (u_2 17)))))
def S_m_takesSnow (G : Nat → Int32) (f13 : Nat → Int32) : Prop := ((S_m_takesNumber (upd G 26 1) f13 0 1) ∧ (∀ (r_3 : Int32) (u_2 : (Nat → Int32)), (r_3, u_2) = (f_m_takesNumber (upd G 26 1) f13 0 1) → ((r_3 = 0 → True) ∧ (¬ r_3 = 0 → True))))
def rm_m_takesSnow : Room := { frames := 3, cells := 0, slots := 0, locals := 63 }
set_option maxHeartbeats 4000000 in
set_option maxRecDepth 100000 in
theorem m_takesSnow {l : Launch} {D : va_G} {cI cZ : ClassId} {sz : Nat} (Rf : Nat → Nat) (h : Nat) (G : Nat → Int32) (f13 : Nat → Int32) (hF : S_m_takesSnow G f13) : KI l yX10_takesSnow cX10_takesSnow 1 (some .boolean) rm_m_takesSnow D cI cZ [.ref h] sz [(h, .inr (10, ML G Rf)), ((Rf 13), .inl (cI, 240, .inl f13))] (fun (r : Int32) (u : (Nat → Int32)) => (r, u) = f_m_takesSnow G f13) (fun (u : (Nat → Int32)) => [(h, .inr (10, ML u Rf)), ((Rf 13), .inl (cI, 240, .inl f13))]) := by
  refine KI.go rfl (Nat.le_of_ble_eq_true rfl) ?_
  intro p e s m args below meth c ls A Q hx hb hml hts hown hin hP hK hD hS hA hN hl hret
  have hl : lv_has ls 1 [(0, .ref h)] := hl
  rw [S_m_takesSnow] at hF
  obtain ⟨RES, hE⟩ : ∃ xRES, f_m_takesSnow G f13 = xRES := ⟨_, rfl⟩
  rw [hE] at hret
  rw [f_m_takesSnow] at hE
  refine lv_aload_n hx hb dX10_takesSnow_0 rfl (lv_at hl 0 rfl) ?_
  refine lv_iconst (v := 1) hx hb dX10_takesSnow_1 rfl ?_
  refine va_put (D := D) (ci := 10) (v := .int 1) (ty := .boolean) (C := RX10) (T := TX10) (N := 45) hx hb hts iX10 tyX10 tyX10_ok nmX10 hown hK hP hD hS 0 rfl rfl 26 (Nat.le_of_ble_eq_true rfl) (hts _ wd_545) (fun _ h9 => h9) rfl (by decide +kernel) rfl rfl (Nat.le_of_ble_eq_true rfl) dX10_takesSnow_2 (fun H locs hP hD hS => ?_)
  have hP : va_P D classes [(h, .inr (10, ML (upd G 26 1) Rf)), ((Rf 13), .inl (cI, 240, .inl f13))] H := hP
  have hD : va_D A [(h, .inr (10, ML (upd G 26 1) Rf)), ((Rf 13), .inl (cI, 240, .inl f13))] := hD
  refine lv_aload_n hx hb dX10_takesSnow_5 rfl (lv_at hl 0 rfl) ?_
  refine lv_iconst (v := 0) hx hb dX10_takesSnow_6 rfl ?_
  refine lv_iconst (v := 1) hx hb dX10_takesSnow_7 rfl ?_
  obtain ⟨hs_1, hF⟩ := hF
  refine cVi (wr := []) (rest := []) (m_takesNumber Rf h (upd G 26 1) f13 0 1 hs_1) okV_X10_takesNumber wd_528 hx hb hml hown hts hK hP hD hS hA hN hl.1 [0, 1] [] rfl rfl rfl rfl (of_decide_eq_true rfl) rfl rfl rfl (Nat.le_of_ble_eq_true rfl) (Nat.le_of_ble_eq_true rfl) (Nat.le_of_ble_eq_true rfl) (Nat.le_of_ble_eq_true rfl) (Nat.le_of_ble_eq_true rfl) dX10_takesSnow_8 (fun r_3 u_2 H locs hw_u_2 hP hD hS => ?_)
  replace hw_u_2 : (r_3, u_2) = (f_m_takesNumber (upd G 26 1) f13 0 1) := hw_u_2
  replace hF := hF r_3 u_2 hw_u_2
  rw [← hw_u_2] at hE
  replace hE : ((if r_3 = 0 then (0, u_2) else (1, (upd u_2 25 (u_2 17)))) : Int32 × (Nat → Int32)) = RES := hE
  have hP : va_P D classes [(h, .inr (10, ML u_2 Rf)), ((Rf 13), .inl (cI, 240, .inl f13))] H := hP
  have hD : va_D A [(h, .inr (10, ML u_2 Rf)), ((Rf 13), .inl (cI, 240, .inl f13))] := hD
  refine lv_if_ne (tgt := 16) hx hb dX10_takesSnow_11 rfl (fun c_4 => ?_) (fun c_4 => ?_)
  · replace hF := hF.2 c_4
    rw [if_neg c_4] at hE
    refine lv_aload_n hx hb dX10_takesSnow_16 rfl (lv_at hl 0 rfl) ?_
    refine lv_aload_n hx hb dX10_takesSnow_17 rfl (lv_at hl 0 rfl) ?_
    refine va_get (D := D) (ci := 10) (v := .int (u_2 17)) (C := RX10) (T := TX10) (N := 45) hx hb hts iX10 hown hK hP 0 rfl rfl 17 (Nat.le_of_ble_eq_true rfl) (hts _ wd_526) (fun _ h9 => h9) rfl dX10_takesSnow_18 ?_
    refine va_put (D := D) (ci := 10) (v := .int (u_2 17)) (ty := .int) (C := RX10) (T := TX10) (N := 45) hx hb hts iX10 tyX10 tyX10_ok nmX10 hown hK hP hD hS 0 rfl rfl 25 (Nat.le_of_ble_eq_true rfl) (hts _ wd_546) (fun _ h9 => h9) rfl (by decide +kernel) rfl rfl (Nat.le_of_ble_eq_true rfl) dX10_takesSnow_21 (fun H locs hP hD hS => ?_)
    have hP : va_P D classes [(h, .inr (10, ML (upd u_2 25 (u_2 17)) Rf)), ((Rf 13), .inl (cI, 240, .inl f13))] H := hP
    have hD : va_D A [(h, .inr (10, ML (upd u_2 25 (u_2 17)) Rf)), ((Rf 13), .inl (cI, 240, .inl f13))] := hD
    refine lv_iconst (v := 1) hx hb dX10_takesSnow_24 rfl ?_
    exact hret 1 (upd u_2 25 (u_2 17)) _ _ _ _ dX10_takesSnow_25 rfl hE hP hD hS
  · replace hF := hF.1 c_4
    rw [if_pos c_4] at hE
    subst c_4
    refine lv_iconst (v := 0) hx hb dX10_takesSnow_14 rfl ?_
    exact hret 0 u_2 _ _ _ _ dX10_takesSnow_15 rfl hE hP hD hS
end
section
def fw_cX10_bargesThat : List (List Nat) := [[3, 61, 3, 62, 29, 42, 180, 0, 88, 162, 0, 32, 28, 42, 180, 0, 7, 16], [7, 16, 20, 29, 96, 46, 27, 160, 0, 9, 4, 29, 120, 167, 0, 4, 3, 128], [3, 128, 61, 132, 3, 1, 167, 255, 222, 28, 172]]
theorem fW_cX10_bargesThat : fq_wins 3 cX10_bargesThat.data.toList = fw_cX10_bargesThat := by decide +kernel
theorem fk_cX10_bargesThat_0 : fq_ck cX10_bargesThat 0 [3, 61, 3, 62, 29, 42, 180, 0, 88, 162, 0, 32, 28, 42, 180, 0, 7, 16] := fq_of fW_cX10_bargesThat 0 rfl rfl
theorem dX10_bargesThat_0 : decode cX10_bargesThat 0 = .ok (.iconst 0, 1) := fq_3 fk_cX10_bargesThat_0 0 rfl rfl
theorem dX10_bargesThat_1 : decode cX10_bargesThat 1 = .ok (.istore_n 2, 1) := fq_61 fk_cX10_bargesThat_0 1 rfl rfl
theorem dX10_bargesThat_2 : decode cX10_bargesThat 2 = .ok (.iconst 0, 1) := fq_3 fk_cX10_bargesThat_0 2 rfl rfl
theorem dX10_bargesThat_3 : decode cX10_bargesThat 3 = .ok (.istore_n 3, 1) := fq_62 fk_cX10_bargesThat_0 3 rfl rfl
theorem fk_cX10_bargesThat_2 : fq_ck cX10_bargesThat 32 [3, 128, 61, 132, 3, 1, 167, 255, 222, 28, 172] := fq_of fW_cX10_bargesThat 2 rfl rfl
theorem dX10_bargesThat_41 : decode cX10_bargesThat 41 = .ok (.iload_n 2, 1) := fq_28 fk_cX10_bargesThat_2 9 rfl rfl
theorem dX10_bargesThat_42 : decode cX10_bargesThat 42 = .ok (.ireturn, 1) := fq_172 fk_cX10_bargesThat_2 10 rfl rfl
theorem dX10_bargesThat_4 : decode cX10_bargesThat 4 = .ok (.iload_n 3, 1) := fq_29 fk_cX10_bargesThat_0 4 rfl rfl
theorem dX10_bargesThat_5 : decode cX10_bargesThat 5 = .ok (.aload_n 0, 1) := fq_42 fk_cX10_bargesThat_0 5 rfl rfl
theorem dX10_bargesThat_6 : decode cX10_bargesThat 6 = .ok (.getfield 88, 3) := fq_180 fk_cX10_bargesThat_0 6 rfl rfl rfl rfl rfl
theorem dX10_bargesThat_9 : decode cX10_bargesThat 9 = .ok (.if_icmp .ge 32, 3) := fq_162 fk_cX10_bargesThat_0 9 rfl rfl rfl rfl rfl
theorem dX10_bargesThat_12 : decode cX10_bargesThat 12 = .ok (.iload_n 2, 1) := fq_28 fk_cX10_bargesThat_0 12 rfl rfl
theorem dX10_bargesThat_13 : decode cX10_bargesThat 13 = .ok (.aload_n 0, 1) := fq_42 fk_cX10_bargesThat_0 13 rfl rfl
theorem dX10_bargesThat_14 : decode cX10_bargesThat 14 = .ok (.getfield 7, 3) := fq_180 fk_cX10_bargesThat_0 14 rfl rfl rfl rfl rfl
theorem fk_cX10_bargesThat_1 : fq_ck cX10_bargesThat 16 [7, 16, 20, 29, 96, 46, 27, 160, 0, 9, 4, 29, 120, 167, 0, 4, 3, 128] := fq_of fW_cX10_bargesThat 1 rfl rfl
theorem dX10_bargesThat_17 : decode cX10_bargesThat 17 = .ok (.bipush 20, 2) := fq_16 fk_cX10_bargesThat_1 1 rfl rfl rfl rfl
theorem dX10_bargesThat_19 : decode cX10_bargesThat 19 = .ok (.iload_n 3, 1) := fq_29 fk_cX10_bargesThat_1 3 rfl rfl
theorem dX10_bargesThat_20 : decode cX10_bargesThat 20 = .ok (.iadd, 1) := fq_96 fk_cX10_bargesThat_1 4 rfl rfl
theorem dX10_bargesThat_21 : decode cX10_bargesThat 21 = .ok (.iaload, 1) := fq_46 fk_cX10_bargesThat_1 5 rfl rfl
theorem dX10_bargesThat_22 : decode cX10_bargesThat 22 = .ok (.iload_n 1, 1) := fq_27 fk_cX10_bargesThat_1 6 rfl rfl
theorem dX10_bargesThat_23 : decode cX10_bargesThat 23 = .ok (.if_icmp .ne 9, 3) := fq_160 fk_cX10_bargesThat_1 7 rfl rfl rfl rfl rfl
theorem dX10_bargesThat_32 : decode cX10_bargesThat 32 = .ok (.iconst 0, 1) := fq_3 fk_cX10_bargesThat_2 0 rfl rfl
theorem dX10_bargesThat_33 : decode cX10_bargesThat 33 = .ok (.ior, 1) := fq_128 fk_cX10_bargesThat_2 1 rfl rfl
theorem dX10_bargesThat_34 : decode cX10_bargesThat 34 = .ok (.istore_n 2, 1) := fq_61 fk_cX10_bargesThat_2 2 rfl rfl
theorem dX10_bargesThat_35 : decode cX10_bargesThat 35 = .ok (.iinc 3 1, 3) := fq_132 fk_cX10_bargesThat_2 3 rfl rfl rfl rfl rfl
theorem dX10_bargesThat_38 : decode cX10_bargesThat 38 = .ok (.goto (-34), 3) := fq_167 fk_cX10_bargesThat_2 6 rfl rfl rfl rfl rfl
theorem dX10_bargesThat_26 : decode cX10_bargesThat 26 = .ok (.iconst 1, 1) := fq_4 fk_cX10_bargesThat_1 10 rfl rfl
theorem dX10_bargesThat_27 : decode cX10_bargesThat 27 = .ok (.iload_n 3, 1) := fq_29 fk_cX10_bargesThat_1 11 rfl rfl
theorem dX10_bargesThat_28 : decode cX10_bargesThat 28 = .ok (.ishl, 1) := fq_120 fk_cX10_bargesThat_1 12 rfl rfl
theorem dX10_bargesThat_29 : decode cX10_bargesThat 29 = .ok (.goto 4, 3) := fq_167 fk_cX10_bargesThat_1 13 rfl rfl rfl rfl rfl
def fw_cX10_griefOf : List (List Nat) := [[3, 61, 3, 62, 29, 42, 180, 0, 78, 162, 0, 32, 28, 27, 29, 184, 0, 183], [0, 183, 153, 0, 14, 42, 180, 0, 7, 3, 29, 96, 46, 167, 0, 4, 3, 96], [3, 96, 61, 132, 3, 1, 167, 255, 222, 28, 172]]
theorem fW_cX10_griefOf : fq_wins 3 cX10_griefOf.data.toList = fw_cX10_griefOf := by decide +kernel
theorem fk_cX10_griefOf_0 : fq_ck cX10_griefOf 0 [3, 61, 3, 62, 29, 42, 180, 0, 78, 162, 0, 32, 28, 27, 29, 184, 0, 183] := fq_of fW_cX10_griefOf 0 rfl rfl
theorem dX10_griefOf_0 : decode cX10_griefOf 0 = .ok (.iconst 0, 1) := fq_3 fk_cX10_griefOf_0 0 rfl rfl
theorem dX10_griefOf_1 : decode cX10_griefOf 1 = .ok (.istore_n 2, 1) := fq_61 fk_cX10_griefOf_0 1 rfl rfl
theorem dX10_griefOf_2 : decode cX10_griefOf 2 = .ok (.iconst 0, 1) := fq_3 fk_cX10_griefOf_0 2 rfl rfl
theorem dX10_griefOf_3 : decode cX10_griefOf 3 = .ok (.istore_n 3, 1) := fq_62 fk_cX10_griefOf_0 3 rfl rfl
theorem fk_cX10_griefOf_2 : fq_ck cX10_griefOf 32 [3, 96, 61, 132, 3, 1, 167, 255, 222, 28, 172] := fq_of fW_cX10_griefOf 2 rfl rfl
theorem dX10_griefOf_41 : decode cX10_griefOf 41 = .ok (.iload_n 2, 1) := fq_28 fk_cX10_griefOf_2 9 rfl rfl
theorem dX10_griefOf_42 : decode cX10_griefOf 42 = .ok (.ireturn, 1) := fq_172 fk_cX10_griefOf_2 10 rfl rfl
theorem dX10_griefOf_4 : decode cX10_griefOf 4 = .ok (.iload_n 3, 1) := fq_29 fk_cX10_griefOf_0 4 rfl rfl
theorem dX10_griefOf_5 : decode cX10_griefOf 5 = .ok (.aload_n 0, 1) := fq_42 fk_cX10_griefOf_0 5 rfl rfl
theorem dX10_griefOf_6 : decode cX10_griefOf 6 = .ok (.getfield 78, 3) := fq_180 fk_cX10_griefOf_0 6 rfl rfl rfl rfl rfl
theorem dX10_griefOf_9 : decode cX10_griefOf 9 = .ok (.if_icmp .ge 32, 3) := fq_162 fk_cX10_griefOf_0 9 rfl rfl rfl rfl rfl
theorem dX10_griefOf_12 : decode cX10_griefOf 12 = .ok (.iload_n 2, 1) := fq_28 fk_cX10_griefOf_0 12 rfl rfl
theorem dX10_griefOf_13 : decode cX10_griefOf 13 = .ok (.iload_n 1, 1) := fq_27 fk_cX10_griefOf_0 13 rfl rfl
theorem dX10_griefOf_14 : decode cX10_griefOf 14 = .ok (.iload_n 3, 1) := fq_29 fk_cX10_griefOf_0 14 rfl rfl
theorem dX10_griefOf_15 : decode cX10_griefOf 15 = .ok (.invokestatic 183, 3) := fq_184 fk_cX10_griefOf_0 15 rfl rfl rfl rfl rfl
theorem fk_cX10_griefOf_1 : fq_ck cX10_griefOf 16 [0, 183, 153, 0, 14, 42, 180, 0, 7, 3, 29, 96, 46, 167, 0, 4, 3, 96] := fq_of fW_cX10_griefOf 1 rfl rfl
theorem dX10_griefOf_18 : decode cX10_griefOf 18 = .ok (.ifCond .eq 14, 3) := fq_153 fk_cX10_griefOf_1 2 rfl rfl rfl rfl rfl
theorem dX10_griefOf_32 : decode cX10_griefOf 32 = .ok (.iconst 0, 1) := fq_3 fk_cX10_griefOf_2 0 rfl rfl
theorem dX10_griefOf_33 : decode cX10_griefOf 33 = .ok (.iadd, 1) := fq_96 fk_cX10_griefOf_2 1 rfl rfl
theorem dX10_griefOf_34 : decode cX10_griefOf 34 = .ok (.istore_n 2, 1) := fq_61 fk_cX10_griefOf_2 2 rfl rfl
theorem dX10_griefOf_35 : decode cX10_griefOf 35 = .ok (.iinc 3 1, 3) := fq_132 fk_cX10_griefOf_2 3 rfl rfl rfl rfl rfl
theorem dX10_griefOf_38 : decode cX10_griefOf 38 = .ok (.goto (-34), 3) := fq_167 fk_cX10_griefOf_2 6 rfl rfl rfl rfl rfl
theorem dX10_griefOf_21 : decode cX10_griefOf 21 = .ok (.aload_n 0, 1) := fq_42 fk_cX10_griefOf_1 5 rfl rfl
theorem dX10_griefOf_22 : decode cX10_griefOf 22 = .ok (.getfield 7, 3) := fq_180 fk_cX10_griefOf_1 6 rfl rfl rfl rfl rfl
theorem dX10_griefOf_25 : decode cX10_griefOf 25 = .ok (.iconst 0, 1) := fq_3 fk_cX10_griefOf_1 9 rfl rfl
theorem dX10_griefOf_26 : decode cX10_griefOf 26 = .ok (.iload_n 3, 1) := fq_29 fk_cX10_griefOf_1 10 rfl rfl
theorem dX10_griefOf_27 : decode cX10_griefOf 27 = .ok (.iadd, 1) := fq_96 fk_cX10_griefOf_1 11 rfl rfl
theorem dX10_griefOf_28 : decode cX10_griefOf 28 = .ok (.iaload, 1) := fq_46 fk_cX10_griefOf_1 12 rfl rfl
theorem dX10_griefOf_29 : decode cX10_griefOf 29 = .ok (.goto 4, 3) := fq_167 fk_cX10_griefOf_1 13 rfl rfl rfl rfl rfl
def fw_cX10_whoIsAt : List (List Nat) := [[2, 62, 3, 54, 4, 21, 4, 42, 180, 0, 78, 162, 0, 32, 42, 180, 0, 7], [0, 7, 27, 16, 6, 96, 21, 4, 96, 46, 28, 160, 0, 8, 21, 4, 167, 0], [167, 0, 4, 29, 62, 132, 4, 1, 167, 255, 221, 29, 172]]
theorem fW_cX10_whoIsAt : fq_wins 3 cX10_whoIsAt.data.toList = fw_cX10_whoIsAt := by decide +kernel
theorem fk_cX10_whoIsAt_0 : fq_ck cX10_whoIsAt 0 [2, 62, 3, 54, 4, 21, 4, 42, 180, 0, 78, 162, 0, 32, 42, 180, 0, 7] := fq_of fW_cX10_whoIsAt 0 rfl rfl
theorem dX10_whoIsAt_0 : decode cX10_whoIsAt 0 = .ok (.iconst (-1), 1) := fq_2 fk_cX10_whoIsAt_0 0 rfl rfl
theorem dX10_whoIsAt_1 : decode cX10_whoIsAt 1 = .ok (.istore_n 3, 1) := fq_62 fk_cX10_whoIsAt_0 1 rfl rfl
theorem dX10_whoIsAt_2 : decode cX10_whoIsAt 2 = .ok (.iconst 0, 1) := fq_3 fk_cX10_whoIsAt_0 2 rfl rfl
theorem dX10_whoIsAt_3 : decode cX10_whoIsAt 3 = .ok (.istore 4, 2) := fq_54 fk_cX10_whoIsAt_0 3 rfl rfl rfl
theorem fk_cX10_whoIsAt_2 : fq_ck cX10_whoIsAt 32 [167, 0, 4, 29, 62, 132, 4, 1, 167, 255, 221, 29, 172] := fq_of fW_cX10_whoIsAt 2 rfl rfl
theorem dX10_whoIsAt_43 : decode cX10_whoIsAt 43 = .ok (.iload_n 3, 1) := fq_29 fk_cX10_whoIsAt_2 11 rfl rfl
theorem dX10_whoIsAt_44 : decode cX10_whoIsAt 44 = .ok (.ireturn, 1) := fq_172 fk_cX10_whoIsAt_2 12 rfl rfl
theorem dX10_whoIsAt_5 : decode cX10_whoIsAt 5 = .ok (.iload 4, 2) := fq_21 fk_cX10_whoIsAt_0 5 rfl rfl rfl
theorem dX10_whoIsAt_7 : decode cX10_whoIsAt 7 = .ok (.aload_n 0, 1) := fq_42 fk_cX10_whoIsAt_0 7 rfl rfl
theorem dX10_whoIsAt_8 : decode cX10_whoIsAt 8 = .ok (.getfield 78, 3) := fq_180 fk_cX10_whoIsAt_0 8 rfl rfl rfl rfl rfl
theorem dX10_whoIsAt_11 : decode cX10_whoIsAt 11 = .ok (.if_icmp .ge 32, 3) := fq_162 fk_cX10_whoIsAt_0 11 rfl rfl rfl rfl rfl
theorem dX10_whoIsAt_14 : decode cX10_whoIsAt 14 = .ok (.aload_n 0, 1) := fq_42 fk_cX10_whoIsAt_0 14 rfl rfl
theorem dX10_whoIsAt_15 : decode cX10_whoIsAt 15 = .ok (.getfield 7, 3) := fq_180 fk_cX10_whoIsAt_0 15 rfl rfl rfl rfl rfl
theorem fk_cX10_whoIsAt_1 : fq_ck cX10_whoIsAt 16 [0, 7, 27, 16, 6, 96, 21, 4, 96, 46, 28, 160, 0, 8, 21, 4, 167, 0] := fq_of fW_cX10_whoIsAt 1 rfl rfl
theorem dX10_whoIsAt_18 : decode cX10_whoIsAt 18 = .ok (.iload_n 1, 1) := fq_27 fk_cX10_whoIsAt_1 2 rfl rfl
theorem dX10_whoIsAt_19 : decode cX10_whoIsAt 19 = .ok (.bipush 6, 2) := fq_16 fk_cX10_whoIsAt_1 3 rfl rfl rfl rfl
theorem dX10_whoIsAt_21 : decode cX10_whoIsAt 21 = .ok (.iadd, 1) := fq_96 fk_cX10_whoIsAt_1 5 rfl rfl
theorem dX10_whoIsAt_22 : decode cX10_whoIsAt 22 = .ok (.iload 4, 2) := fq_21 fk_cX10_whoIsAt_1 6 rfl rfl rfl
theorem dX10_whoIsAt_24 : decode cX10_whoIsAt 24 = .ok (.iadd, 1) := fq_96 fk_cX10_whoIsAt_1 8 rfl rfl
theorem dX10_whoIsAt_25 : decode cX10_whoIsAt 25 = .ok (.iaload, 1) := fq_46 fk_cX10_whoIsAt_1 9 rfl rfl
theorem dX10_whoIsAt_26 : decode cX10_whoIsAt 26 = .ok (.iload_n 2, 1) := fq_28 fk_cX10_whoIsAt_1 10 rfl rfl
theorem dX10_whoIsAt_27 : decode cX10_whoIsAt 27 = .ok (.if_icmp .ne 8, 3) := fq_160 fk_cX10_whoIsAt_1 11 rfl rfl rfl rfl rfl
theorem dX10_whoIsAt_35 : decode cX10_whoIsAt 35 = .ok (.iload_n 3, 1) := fq_29 fk_cX10_whoIsAt_2 3 rfl rfl
theorem dX10_whoIsAt_36 : decode cX10_whoIsAt 36 = .ok (.istore_n 3, 1) := fq_62 fk_cX10_whoIsAt_2 4 rfl rfl
theorem dX10_whoIsAt_37 : decode cX10_whoIsAt 37 = .ok (.iinc 4 1, 3) := fq_132 fk_cX10_whoIsAt_2 5 rfl rfl rfl rfl rfl
theorem dX10_whoIsAt_40 : decode cX10_whoIsAt 40 = .ok (.goto (-35), 3) := fq_167 fk_cX10_whoIsAt_2 8 rfl rfl rfl rfl rfl
theorem dX10_whoIsAt_30 : decode cX10_whoIsAt 30 = .ok (.iload 4, 2) := fq_21 fk_cX10_whoIsAt_1 14 rfl rfl rfl
theorem dX10_whoIsAt_32 : decode cX10_whoIsAt 32 = .ok (.goto 4, 3) := fq_167 fk_cX10_whoIsAt_2 0 rfl rfl rfl rfl rfl
def fw_cX10_stampOf : List (List Nat) := [[42, 180, 0, 27, 8, 27, 104, 28, 96, 46, 29, 16, 10, 108, 96, 54, 4, 42], [4, 42, 180, 0, 174, 4, 160, 0, 10, 21, 4, 5, 108, 167, 0, 5, 21, 4], [21, 4, 54, 4, 21, 4, 29, 162, 0, 8, 21, 4, 167, 0, 4, 29, 172], [172]]
theorem fW_cX10_stampOf : fq_wins 4 cX10_stampOf.data.toList = fw_cX10_stampOf := by decide +kernel
theorem fk_cX10_stampOf_0 : fq_ck cX10_stampOf 0 [42, 180, 0, 27, 8, 27, 104, 28, 96, 46, 29, 16, 10, 108, 96, 54, 4, 42] := fq_of fW_cX10_stampOf 0 rfl rfl
theorem dX10_stampOf_0 : decode cX10_stampOf 0 = .ok (.aload_n 0, 1) := fq_42 fk_cX10_stampOf_0 0 rfl rfl
theorem wd_547 : Cond.fieldLink RX10 27 "QuarrelBridgesModel" "forces" "[I" ∈ BG := BG_at4 73 (by decide +kernel) rfl
theorem dX10_stampOf_1 : decode cX10_stampOf 1 = .ok (.getfield 27, 3) := fq_180 fk_cX10_stampOf_0 1 rfl rfl rfl rfl rfl
theorem dX10_stampOf_4 : decode cX10_stampOf 4 = .ok (.iconst 5, 1) := fq_8 fk_cX10_stampOf_0 4 rfl rfl
theorem dX10_stampOf_5 : decode cX10_stampOf 5 = .ok (.iload_n 1, 1) := fq_27 fk_cX10_stampOf_0 5 rfl rfl
theorem dX10_stampOf_6 : decode cX10_stampOf 6 = .ok (.imul, 1) := fq_104 fk_cX10_stampOf_0 6 rfl rfl
theorem dX10_stampOf_7 : decode cX10_stampOf 7 = .ok (.iload_n 2, 1) := fq_28 fk_cX10_stampOf_0 7 rfl rfl
theorem dX10_stampOf_8 : decode cX10_stampOf 8 = .ok (.iadd, 1) := fq_96 fk_cX10_stampOf_0 8 rfl rfl
theorem dX10_stampOf_9 : decode cX10_stampOf 9 = .ok (.iaload, 1) := fq_46 fk_cX10_stampOf_0 9 rfl rfl
theorem dX10_stampOf_10 : decode cX10_stampOf 10 = .ok (.iload_n 3, 1) := fq_29 fk_cX10_stampOf_0 10 rfl rfl
theorem dX10_stampOf_11 : decode cX10_stampOf 11 = .ok (.bipush 10, 2) := fq_16 fk_cX10_stampOf_0 11 rfl rfl rfl rfl
theorem dX10_stampOf_13 : decode cX10_stampOf 13 = .ok (.idiv, 1) := fq_108 fk_cX10_stampOf_0 13 rfl rfl
theorem dX10_stampOf_14 : decode cX10_stampOf 14 = .ok (.iadd, 1) := fq_96 fk_cX10_stampOf_0 14 rfl rfl
theorem dX10_stampOf_15 : decode cX10_stampOf 15 = .ok (.istore 4, 2) := fq_54 fk_cX10_stampOf_0 15 rfl rfl rfl
theorem fk_cX10_stampOf_1 : fq_ck cX10_stampOf 16 [4, 42, 180, 0, 174, 4, 160, 0, 10, 21, 4, 5, 108, 167, 0, 5, 21, 4] := fq_of fW_cX10_stampOf 1 rfl rfl
theorem dX10_stampOf_17 : decode cX10_stampOf 17 = .ok (.aload_n 0, 1) := fq_42 fk_cX10_stampOf_1 1 rfl rfl
theorem wd_548 : Cond.fieldLink RX10 174 "QuarrelBridgesModel" "snow" "I" ∈ BG := BG_at4 70 (by decide +kernel) rfl
theorem dX10_stampOf_18 : decode cX10_stampOf 18 = .ok (.getfield 174, 3) := fq_180 fk_cX10_stampOf_1 2 rfl rfl rfl rfl rfl
theorem dX10_stampOf_21 : decode cX10_stampOf 21 = .ok (.iconst 1, 1) := fq_4 fk_cX10_stampOf_1 5 rfl rfl
theorem dX10_stampOf_22 : decode cX10_stampOf 22 = .ok (.if_icmp .ne 10, 3) := fq_160 fk_cX10_stampOf_1 6 rfl rfl rfl rfl rfl
theorem fk_cX10_stampOf_2 : fq_ck cX10_stampOf 32 [21, 4, 54, 4, 21, 4, 29, 162, 0, 8, 21, 4, 167, 0, 4, 29, 172] := fq_of fW_cX10_stampOf 2 rfl rfl
theorem dX10_stampOf_32 : decode cX10_stampOf 32 = .ok (.iload 4, 2) := fq_21 fk_cX10_stampOf_2 0 rfl rfl rfl
theorem dX10_stampOf_34 : decode cX10_stampOf 34 = .ok (.istore 4, 2) := fq_54 fk_cX10_stampOf_2 2 rfl rfl rfl
theorem dX10_stampOf_36 : decode cX10_stampOf 36 = .ok (.iload 4, 2) := fq_21 fk_cX10_stampOf_2 4 rfl rfl rfl
theorem dX10_stampOf_38 : decode cX10_stampOf 38 = .ok (.iload_n 3, 1) := fq_29 fk_cX10_stampOf_2 6 rfl rfl
theorem dX10_stampOf_39 : decode cX10_stampOf 39 = .ok (.if_icmp .ge 8, 3) := fq_162 fk_cX10_stampOf_2 7 rfl rfl rfl rfl rfl
theorem dX10_stampOf_47 : decode cX10_stampOf 47 = .ok (.iload_n 3, 1) := fq_29 fk_cX10_stampOf_2 15 rfl rfl
theorem fk_cX10_stampOf_3 : fq_ck cX10_stampOf 48 [172] := fq_of fW_cX10_stampOf 3 rfl rfl
theorem dX10_stampOf_48 : decode cX10_stampOf 48 = .ok (.ireturn, 1) := fq_172 fk_cX10_stampOf_3 0 rfl rfl
theorem dX10_stampOf_42 : decode cX10_stampOf 42 = .ok (.iload 4, 2) := fq_21 fk_cX10_stampOf_2 10 rfl rfl rfl
theorem dX10_stampOf_44 : decode cX10_stampOf 44 = .ok (.goto 4, 3) := fq_167 fk_cX10_stampOf_2 12 rfl rfl rfl rfl rfl
theorem dX10_stampOf_25 : decode cX10_stampOf 25 = .ok (.iload 4, 2) := fq_21 fk_cX10_stampOf_1 9 rfl rfl rfl
theorem dX10_stampOf_27 : decode cX10_stampOf 27 = .ok (.iconst 2, 1) := fq_5 fk_cX10_stampOf_1 11 rfl rfl
theorem dX10_stampOf_28 : decode cX10_stampOf 28 = .ok (.idiv, 1) := fq_108 fk_cX10_stampOf_1 12 rfl rfl
theorem dX10_stampOf_29 : decode cX10_stampOf 29 = .ok (.goto 5, 3) := fq_167 fk_cX10_stampOf_1 13 rfl rfl rfl rfl rfl
def fw_cX10_quarrels : List (List Nat) := [[3, 54, 5, 42, 3, 181, 0, 216, 42, 29, 181, 0, 219, 42, 27, 28, 42, 180], [42, 180, 0, 219, 182, 0, 222, 54, 6, 21, 6, 158, 0, 53, 21, 5, 21, 4], [21, 4, 162, 0, 46, 42, 89, 180, 0, 216, 4, 96, 181, 0, 216, 21, 5, 21], [5, 21, 6, 96, 54, 5, 42, 89, 180, 0, 219, 21, 6, 100, 181, 0, 219, 42], [219, 42, 27, 28, 42, 180, 0, 219, 182, 0, 222, 54, 6, 167, 255, 204, 42, 21], [42, 21, 5, 21, 4, 161, 0, 7, 4, 167, 0, 4, 3, 181, 0, 226, 177], [177]]
theorem fW_cX10_quarrels : fq_wins 7 cX10_quarrels.data.toList = fw_cX10_quarrels := by decide +kernel
theorem fk_cX10_quarrels_0 : fq_ck cX10_quarrels 0 [3, 54, 5, 42, 3, 181, 0, 216, 42, 29, 181, 0, 219, 42, 27, 28, 42, 180] := fq_of fW_cX10_quarrels 0 rfl rfl
theorem dX10_quarrels_0 : decode cX10_quarrels 0 = .ok (.iconst 0, 1) := fq_3 fk_cX10_quarrels_0 0 rfl rfl
theorem dX10_quarrels_1 : decode cX10_quarrels 1 = .ok (.istore 5, 2) := fq_54 fk_cX10_quarrels_0 1 rfl rfl rfl
theorem dX10_quarrels_3 : decode cX10_quarrels 3 = .ok (.aload_n 0, 1) := fq_42 fk_cX10_quarrels_0 3 rfl rfl
theorem dX10_quarrels_4 : decode cX10_quarrels 4 = .ok (.iconst 0, 1) := fq_3 fk_cX10_quarrels_0 4 rfl rfl
theorem wd_549 : Cond.fieldLink RX10 216 "QuarrelBridgesModel" "minutes" "I" ∈ BG := BG_at4 95 (by decide +kernel) rfl
theorem dX10_quarrels_5 : decode cX10_quarrels 5 = .ok (.putfield 216, 3) := fq_181 fk_cX10_quarrels_0 5 rfl rfl rfl rfl rfl
theorem dX10_quarrels_8 : decode cX10_quarrels 8 = .ok (.aload_n 0, 1) := fq_42 fk_cX10_quarrels_0 8 rfl rfl
theorem dX10_quarrels_9 : decode cX10_quarrels 9 = .ok (.iload_n 3, 1) := fq_29 fk_cX10_quarrels_0 9 rfl rfl
theorem wd_550 : Cond.fieldLink RX10 219 "QuarrelBridgesModel" "left" "I" ∈ BG := BG_at4 96 (by decide +kernel) rfl
theorem dX10_quarrels_10 : decode cX10_quarrels 10 = .ok (.putfield 219, 3) := fq_181 fk_cX10_quarrels_0 10 rfl rfl rfl rfl rfl
theorem dX10_quarrels_13 : decode cX10_quarrels 13 = .ok (.aload_n 0, 1) := fq_42 fk_cX10_quarrels_0 13 rfl rfl
theorem dX10_quarrels_14 : decode cX10_quarrels 14 = .ok (.iload_n 1, 1) := fq_27 fk_cX10_quarrels_0 14 rfl rfl
theorem dX10_quarrels_15 : decode cX10_quarrels 15 = .ok (.iload_n 2, 1) := fq_28 fk_cX10_quarrels_0 15 rfl rfl
theorem fk_cX10_quarrels_1 : fq_ck cX10_quarrels 16 [42, 180, 0, 219, 182, 0, 222, 54, 6, 21, 6, 158, 0, 53, 21, 5, 21, 4] := fq_of fW_cX10_quarrels 1 rfl rfl
theorem dX10_quarrels_16 : decode cX10_quarrels 16 = .ok (.aload_n 0, 1) := fq_42 fk_cX10_quarrels_1 0 rfl rfl
theorem dX10_quarrels_17 : decode cX10_quarrels 17 = .ok (.getfield 219, 3) := fq_180 fk_cX10_quarrels_1 1 rfl rfl rfl rfl rfl
theorem dX10_quarrels_20 : decode cX10_quarrels 20 = .ok (.invokevirtual 222, 3) := fq_182 fk_cX10_quarrels_1 4 rfl rfl rfl rfl rfl
theorem wd_551 : Cond.methodLink RX10 222 yX10_stampOf ∈ BG := BG_at5 116 (by decide +kernel) rfl
theorem wd_552 : Cond.code yX10_stampOf cX10_stampOf 5 (some .int) ∈ BG := BG_at5 119 rfl rfl
theorem wd_553 : Cond.instanceMethod yX10_stampOf ∈ BG := BG_at5 118 (by decide +kernel) rfl
theorem wd_554 : Cond.selects RX10 yX10_stampOf yX10_stampOf ∈ BG := BG_in (by decide +kernel) rfl
theorem okV_X10_stampOf : okV yX10_stampOf cX10_stampOf 5 (some .int) 3 := ⟨⟨wd_552, wd_497, by decide +kernel⟩, wd_553, wd_554⟩
theorem dX10_quarrels_23 : decode cX10_quarrels 23 = .ok (.istore 6, 2) := fq_54 fk_cX10_quarrels_1 7 rfl rfl rfl
theorem fk_cX10_quarrels_5 : fq_ck cX10_quarrels 80 [42, 21, 5, 21, 4, 161, 0, 7, 4, 167, 0, 4, 3, 181, 0, 226, 177] := fq_of fW_cX10_quarrels 5 rfl rfl
theorem dX10_quarrels_80 : decode cX10_quarrels 80 = .ok (.aload_n 0, 1) := fq_42 fk_cX10_quarrels_5 0 rfl rfl
theorem dX10_quarrels_81 : decode cX10_quarrels 81 = .ok (.iload 5, 2) := fq_21 fk_cX10_quarrels_5 1 rfl rfl rfl
theorem dX10_quarrels_83 : decode cX10_quarrels 83 = .ok (.iload 4, 2) := fq_21 fk_cX10_quarrels_5 3 rfl rfl rfl
theorem dX10_quarrels_85 : decode cX10_quarrels 85 = .ok (.if_icmp .lt 7, 3) := fq_161 fk_cX10_quarrels_5 5 rfl rfl rfl rfl rfl
theorem dX10_quarrels_92 : decode cX10_quarrels 92 = .ok (.iconst 0, 1) := fq_3 fk_cX10_quarrels_5 12 rfl rfl
theorem wd_555 : Cond.fieldLink RX10 226 "QuarrelBridgesModel" "opened" "Z" ∈ BG := BG_at4 97 (by decide +kernel) rfl
theorem dX10_quarrels_93 : decode cX10_quarrels 93 = .ok (.putfield 226, 3) := fq_181 fk_cX10_quarrels_5 13 rfl rfl rfl rfl rfl
theorem fk_cX10_quarrels_6 : fq_ck cX10_quarrels 96 [177] := fq_of fW_cX10_quarrels 6 rfl rfl
theorem dX10_quarrels_96 : decode cX10_quarrels 96 = .ok (.return_, 1) := fq_177 fk_cX10_quarrels_6 0 rfl rfl
theorem dX10_quarrels_88 : decode cX10_quarrels 88 = .ok (.iconst 1, 1) := fq_4 fk_cX10_quarrels_5 8 rfl rfl
theorem dX10_quarrels_89 : decode cX10_quarrels 89 = .ok (.goto 4, 3) := fq_167 fk_cX10_quarrels_5 9 rfl rfl rfl rfl rfl
theorem dX10_quarrels_25 : decode cX10_quarrels 25 = .ok (.iload 6, 2) := fq_21 fk_cX10_quarrels_1 9 rfl rfl rfl
theorem dX10_quarrels_27 : decode cX10_quarrels 27 = .ok (.ifCond .le 53, 3) := fq_158 fk_cX10_quarrels_1 11 rfl rfl rfl rfl rfl
theorem dX10_quarrels_30 : decode cX10_quarrels 30 = .ok (.iload 5, 2) := fq_21 fk_cX10_quarrels_1 14 rfl rfl rfl
theorem fk_cX10_quarrels_2 : fq_ck cX10_quarrels 32 [21, 4, 162, 0, 46, 42, 89, 180, 0, 216, 4, 96, 181, 0, 216, 21, 5, 21] := fq_of fW_cX10_quarrels 2 rfl rfl
theorem dX10_quarrels_32 : decode cX10_quarrels 32 = .ok (.iload 4, 2) := fq_21 fk_cX10_quarrels_2 0 rfl rfl rfl
theorem dX10_quarrels_34 : decode cX10_quarrels 34 = .ok (.if_icmp .ge 46, 3) := fq_162 fk_cX10_quarrels_2 2 rfl rfl rfl rfl rfl
theorem dX10_quarrels_37 : decode cX10_quarrels 37 = .ok (.aload_n 0, 1) := fq_42 fk_cX10_quarrels_2 5 rfl rfl
theorem dX10_quarrels_38 : decode cX10_quarrels 38 = .ok (.dup, 1) := fq_89 fk_cX10_quarrels_2 6 rfl rfl
theorem dX10_quarrels_39 : decode cX10_quarrels 39 = .ok (.getfield 216, 3) := fq_180 fk_cX10_quarrels_2 7 rfl rfl rfl rfl rfl
theorem dX10_quarrels_42 : decode cX10_quarrels 42 = .ok (.iconst 1, 1) := fq_4 fk_cX10_quarrels_2 10 rfl rfl
theorem dX10_quarrels_43 : decode cX10_quarrels 43 = .ok (.iadd, 1) := fq_96 fk_cX10_quarrels_2 11 rfl rfl
theorem dX10_quarrels_44 : decode cX10_quarrels 44 = .ok (.putfield 216, 3) := fq_181 fk_cX10_quarrels_2 12 rfl rfl rfl rfl rfl
theorem dX10_quarrels_47 : decode cX10_quarrels 47 = .ok (.iload 5, 2) := fq_21 fk_cX10_quarrels_2 15 rfl rfl rfl
theorem fk_cX10_quarrels_3 : fq_ck cX10_quarrels 48 [5, 21, 6, 96, 54, 5, 42, 89, 180, 0, 219, 21, 6, 100, 181, 0, 219, 42] := fq_of fW_cX10_quarrels 3 rfl rfl
theorem dX10_quarrels_49 : decode cX10_quarrels 49 = .ok (.iload 6, 2) := fq_21 fk_cX10_quarrels_3 1 rfl rfl rfl
theorem dX10_quarrels_51 : decode cX10_quarrels 51 = .ok (.iadd, 1) := fq_96 fk_cX10_quarrels_3 3 rfl rfl
theorem dX10_quarrels_52 : decode cX10_quarrels 52 = .ok (.istore 5, 2) := fq_54 fk_cX10_quarrels_3 4 rfl rfl rfl
theorem dX10_quarrels_54 : decode cX10_quarrels 54 = .ok (.aload_n 0, 1) := fq_42 fk_cX10_quarrels_3 6 rfl rfl
theorem dX10_quarrels_55 : decode cX10_quarrels 55 = .ok (.dup, 1) := fq_89 fk_cX10_quarrels_3 7 rfl rfl
theorem dX10_quarrels_56 : decode cX10_quarrels 56 = .ok (.getfield 219, 3) := fq_180 fk_cX10_quarrels_3 8 rfl rfl rfl rfl rfl
theorem dX10_quarrels_59 : decode cX10_quarrels 59 = .ok (.iload 6, 2) := fq_21 fk_cX10_quarrels_3 11 rfl rfl rfl
theorem dX10_quarrels_61 : decode cX10_quarrels 61 = .ok (.isub, 1) := fq_100 fk_cX10_quarrels_3 13 rfl rfl
theorem dX10_quarrels_62 : decode cX10_quarrels 62 = .ok (.putfield 219, 3) := fq_181 fk_cX10_quarrels_3 14 rfl rfl rfl rfl rfl
theorem fk_cX10_quarrels_4 : fq_ck cX10_quarrels 64 [219, 42, 27, 28, 42, 180, 0, 219, 182, 0, 222, 54, 6, 167, 255, 204, 42, 21] := fq_of fW_cX10_quarrels 4 rfl rfl
theorem dX10_quarrels_65 : decode cX10_quarrels 65 = .ok (.aload_n 0, 1) := fq_42 fk_cX10_quarrels_4 1 rfl rfl
theorem dX10_quarrels_66 : decode cX10_quarrels 66 = .ok (.iload_n 1, 1) := fq_27 fk_cX10_quarrels_4 2 rfl rfl
theorem dX10_quarrels_67 : decode cX10_quarrels 67 = .ok (.iload_n 2, 1) := fq_28 fk_cX10_quarrels_4 3 rfl rfl
theorem dX10_quarrels_68 : decode cX10_quarrels 68 = .ok (.aload_n 0, 1) := fq_42 fk_cX10_quarrels_4 4 rfl rfl
theorem dX10_quarrels_69 : decode cX10_quarrels 69 = .ok (.getfield 219, 3) := fq_180 fk_cX10_quarrels_4 5 rfl rfl rfl rfl rfl
theorem dX10_quarrels_72 : decode cX10_quarrels 72 = .ok (.invokevirtual 222, 3) := fq_182 fk_cX10_quarrels_4 8 rfl rfl rfl rfl rfl
theorem dX10_quarrels_75 : decode cX10_quarrels 75 = .ok (.istore 6, 2) := fq_54 fk_cX10_quarrels_4 11 rfl rfl rfl
theorem dX10_quarrels_77 : decode cX10_quarrels 77 = .ok (.goto (-52), 3) := fq_167 fk_cX10_quarrels_4 13 rfl rfl rfl rfl rfl
noncomputable def f_m_bargesThat_4 (G : Nat → Int32) (f0 : Nat → Int32) (i_ : Int32) (n : Nat) : Int32 → Int32 → Int32 × Int32 := Nat.rec (motive := fun _ => Int32 → Int32 → Int32 × Int32) (fun w_1l3 w_1l2 => (w_1l3, w_1l2)) (fun n ih w_1l3 w_1l2 => (if (G 6) ≤ w_1l3 then (w_1l3, w_1l2) else (if (f0 ((20 + w_1l3) : Int32).toNatClampNeg) = i_ then (ih (w_1l3 + 1) (w_1l2 ||| (1 <<< (w_1l3 &&& 31)))) else (ih (w_1l3 + 1) (w_1l2 ||| 0))))) n
theorem f_m_bargesThat_4_s (G : Nat → Int32) (f0 : Nat → Int32) (i_ : Int32) (n : Nat) (w_1l3 : Int32) (w_1l2 : Int32) : f_m_bargesThat_4 G f0 i_ (n + 1) w_1l3 w_1l2 = (if (G 6) ≤ w_1l3 then (w_1l3, w_1l2) else (if (f0 ((20 + w_1l3) : Int32).toNatClampNeg) = i_ then (f_m_bargesThat_4 G f0 i_ n (w_1l3 + 1) (w_1l2 ||| (1 <<< (w_1l3 &&& 31)))) else (f_m_bargesThat_4 G f0 i_ n (w_1l3 + 1) (w_1l2 ||| 0)))) := rfl
def S_m_bargesThat_4 (G : Nat → Int32) (f0 : Nat → Int32) (i_ : Int32) (K : Int32 → Int32 → Prop) (n : Nat) : Int32 → Int32 → Prop := Nat.rec (motive := fun _ => Int32 → Int32 → Prop) (fun _ _ => True) (fun n ih w_1l3 w_1l2 => (((G 6) ≤ w_1l3 → (K w_1l3 w_1l2)) ∧ (¬ (G 6) ≤ w_1l3 → (vp_in (20 + w_1l3) 1302 ∧ (((f0 ((20 + w_1l3) : Int32).toNatClampNeg) = i_ → (ih (w_1l3 + 1) (w_1l2 ||| (1 <<< (w_1l3 &&& 31))))) ∧ (¬ (f0 ((20 + w_1l3) : Int32).toNatClampNeg) = i_ → (ih (w_1l3 + 1) (w_1l2 ||| 0)))))))) n
theorem S_m_bargesThat_4_s (G : Nat → Int32) (f0 : Nat → Int32) (i_ : Int32) (K : Int32 → Int32 → Prop) (n : Nat) (w_1l3 : Int32) (w_1l2 : Int32) : S_m_bargesThat_4 G f0 i_ K (n + 1) w_1l3 w_1l2 = ((((G 6) ≤ w_1l3 → (K w_1l3 w_1l2)) ∧ (¬ (G 6) ≤ w_1l3 → (vp_in (20 + w_1l3) 1302 ∧ (((f0 ((20 + w_1l3) : Int32).toNatClampNeg) = i_ → (S_m_bargesThat_4 G f0 i_ K n (w_1l3 + 1) (w_1l2 ||| (1 <<< (w_1l3 &&& 31))))) ∧ (¬ (f0 ((20 + w_1l3) : Int32).toNatClampNeg) = i_ → (S_m_bargesThat_4 G f0 i_ K n (w_1l3 + 1) (w_1l2 ||| 0)))))))) := rfl
noncomputable def f_m_bargesThat (G : Nat → Int32) (f0 : Nat → Int32) (i_ : Int32) : Int32 := (match ((f_m_bargesThat_4 G f0 i_ ((((G 6) : Int32).toInt - (0 : Int32).toInt).toNat + 1) 0 0) : Int32 × Int32) with | (w_1l3, w_1l2) => w_1l2)
def S_m_bargesThat (G : Nat → Int32) (f0 : Nat → Int32) (i_ : Int32) : Prop := (S_m_bargesThat_4 G f0 i_ (fun (w_1l3 : Int32) (w_1l2 : Int32) => True) ((((G 6) : Int32).toInt - (0 : Int32).toInt).toNat + 1) 0 0)
def rm_m_bargesThat : Room := { frames := 0, cells := 0, slots := 0, locals := 0 }
set_option maxHeartbeats 4000000 in
set_option maxRecDepth 100000 in
theorem m_bargesThat {l : Launch} {D : va_G} {cI cZ : ClassId} {sz : Nat} (Rf : Nat → Nat) (h : Nat) (G : Nat → Int32) (f0 : Nat → Int32) (i_ : Int32) (hF : S_m_bargesThat G f0 i_) : KI l yX10_bargesThat cX10_bargesThat 4 (some .int) rm_m_bargesThat D cI cZ [.ref h, .int i_] sz [(h, .inr (10, ML G Rf)), ((Rf 0), .inl (cI, 1302, .inl f0))] (fun (r : Int32) (_ : Unit) => r = f_m_bargesThat G f0 i_) (fun (_ : Unit) => [(h, .inr (10, ML G Rf)), ((Rf 0), .inl (cI, 1302, .inl f0))]) := by
  refine KI.go rfl (Nat.le_of_ble_eq_true rfl) ?_
  intro p e s m args below meth c ls A Q hx hb hml hts hown hin hP hK hD hS hA hN hl hret
  have hl : lv_has ls 4 [(0, .ref h), (1, .int i_)] := hl
  rw [S_m_bargesThat] at hF
  obtain ⟨RES, hE⟩ : ∃ xRES, f_m_bargesThat G f0 i_ = xRES := ⟨_, rfl⟩
  rw [hE] at hret
  rw [f_m_bargesThat] at hE
  refine lv_iconst (v := 0) hx hb dX10_bargesThat_0 rfl ?_
  refine lv_istore_n (lv' := [(2, .int 0), (0, .ref h), (1, .int i_)]) hx hb dX10_bargesThat_1 rfl hl (Nat.le_of_ble_eq_true rfl) rfl (fun ls hl => ?_)
  refine lv_iconst (v := 0) hx hb dX10_bargesThat_2 rfl ?_
  refine lv_istore_n (lv' := [(3, .int 0), (2, .int 0), (0, .ref h), (1, .int i_)]) hx hb dX10_bargesThat_3 rfl hl (Nat.le_of_ble_eq_true rfl) rfl (fun ls hl => ?_)
  have ex_4_w_1 : ∀ (w_1l3 : Int32) (w_1l2 : Int32) (H : Heap) (locs : List Loc) (ls : Array Slot), va_P D classes [(h, .inr (10, ML G Rf)), ((Rf 0), .inl (cI, 1302, .inl f0))] H → va_D A [(h, .inr (10, ML G Rf)), ((Rf 0), .inl (cI, 1302, .inl f0))] → va_S A s.heap H locs → lv_has ls 4 [(3, .int w_1l3), (2, .int w_1l2), (0, .ref h), (1, .int i_)] → (True) → ((w_1l2) : Int32) = RES → W p l e rm_m_bargesThat s m args below meth c H locs 0 0 Q (F0 m 41 ls []) := by
    intro w_1l3 w_1l2 H locs ls hP hD hS hl hF hE
    refine lv_iload_n hx hb dX10_bargesThat_41 rfl (lv_at hl 1 rfl) ?_
    exact hret w_1l2 () _ _ _ _ dX10_bargesThat_42 rfl hE hP hD hS
  have lp_4_w_1 : ∀ (n_w_1 : Nat) (w_1l3 : Int32) (w_1l2 : Int32) (H : Heap) (locs : List Loc) (ls : Array Slot), va_P D classes [(h, .inr (10, ML G Rf)), ((Rf 0), .inl (cI, 1302, .inl f0))] H → va_D A [(h, .inr (10, ML G Rf)), ((Rf 0), .inl (cI, 1302, .inl f0))] → va_S A s.heap H locs → lv_has ls 4 [(3, .int w_1l3), (2, .int w_1l2), (0, .ref h), (1, .int i_)] → (S_m_bargesThat_4 G f0 i_ (fun (w_1l3 : Int32) (w_1l2 : Int32) => True) n_w_1 w_1l3 w_1l2) → (((G 6) : Int32).toInt - (w_1l3 : Int32).toInt).toNat < n_w_1 → ((match ((f_m_bargesThat_4 G f0 i_ n_w_1 w_1l3 w_1l2) : Int32 × Int32) with | (w_1l3, w_1l2) => w_1l2) : Int32) = RES → W p l e rm_m_bargesThat s m args below meth c H locs 0 0 Q (F0 m 4 ls []) := by
    intro n_w_1
    induction n_w_1 with
    | zero => intro w_1l3 w_1l2 H locs ls hP hD hS hl hF hm; exact absurd hm (Nat.not_lt_zero _)
    | succ n_w_1 ih_w_1 =>
      intro w_1l3 w_1l2 H locs ls hP hD hS hl hF hm hE
      rw [S_m_bargesThat_4_s] at hF
      rw [f_m_bargesThat_4_s] at hE
      refine lv_iload_n hx hb dX10_bargesThat_4 rfl (lv_at hl 0 rfl) ?_
      refine lv_aload_n hx hb dX10_bargesThat_5 rfl (lv_at hl 2 rfl) ?_
      refine va_get (D := D) (ci := 10) (v := .int (G 6)) (C := RX10) (T := TX10) (N := 45) hx hb hts iX10 hown hK hP 0 rfl rfl 6 (Nat.le_of_ble_eq_true rfl) (hts _ wd_501) (fun _ h9 => h9) rfl dX10_bargesThat_6 ?_
      refine lv_icmp_ge (tgt := 41) hx hb dX10_bargesThat_9 rfl (fun c_2 => ?_) (fun c_2 => ?_)
      · replace hF := hF.1 c_2
        rw [if_pos c_2] at hE
        exact ex_4_w_1 w_1l3 w_1l2 _ _ ls hP hD hS (lv_sub hl [0, 1, 2, 3] rfl) hF hE
      · replace hF := hF.2 c_2
        rw [if_neg c_2] at hE
        refine lv_iload_n hx hb dX10_bargesThat_12 rfl (lv_at hl 1 rfl) ?_
        refine lv_aload_n hx hb dX10_bargesThat_13 rfl (lv_at hl 2 rfl) ?_
        refine va_get (D := D) (ci := 10) (v := .ref (Rf 0)) (C := RX10) (T := TX10) (N := 45) hx hb hts iX10 hown hK hP 0 rfl rfl 0 (Nat.le_of_ble_eq_true rfl) (hts _ wd_491) (fun _ h9 => h9) rfl dX10_bargesThat_14 ?_
        refine lv_bipush (v := 20) hx hb dX10_bargesThat_17 rfl ?_
        refine lv_iload_n hx hb dX10_bargesThat_19 rfl (lv_at hl 0 rfl) ?_
        refine lv_iadd hx hb dX10_bargesThat_20 ?_
        obtain ⟨hv_3, hF⟩ := hF
        refine va_iald hx hb hK hP 1 0 rfl rfl hv_3 dX10_bargesThat_21 ?_
        refine lv_iload_n hx hb dX10_bargesThat_22 rfl (lv_at hl 3 rfl) ?_
        refine lv_icmp_ne (tgt := 32) hx hb dX10_bargesThat_23 rfl (fun c_4 => ?_) (fun c_4 => ?_)
        · replace hF := hF.2 c_4
          rw [if_neg c_4] at hE
          refine lv_iconst (v := 0) hx hb dX10_bargesThat_32 rfl ?_
          refine lv_ior hx hb dX10_bargesThat_33 ?_
          refine lv_istore_n (lv' := [(2, .int (w_1l2 ||| 0)), (3, .int w_1l3), (0, .ref h), (1, .int i_)]) hx hb dX10_bargesThat_34 rfl hl (Nat.le_of_ble_eq_true rfl) rfl (fun ls hl => ?_)
          refine lv_iinc (v := (w_1l3 + 1)) (lv' := [(3, .int (w_1l3 + 1)), (2, .int (w_1l2 ||| 0)), (0, .ref h), (1, .int i_)]) hx hb dX10_bargesThat_35 hl (k := 1) rfl rfl (Nat.le_of_ble_eq_true rfl) rfl (fun ls hl => ?_)
          refine lv_goto (tgt := 4) hx hb dX10_bargesThat_38 rfl ?_
          exact ih_w_1 (w_1l3 + 1) (w_1l2 ||| 0) _ _ ls hP hD hS (lv_sub hl [0, 1, 2, 3] rfl) hF (up_step c_2 hm) hE
        · replace hF := hF.1 c_4
          rw [if_pos c_4] at hE
          refine lv_iconst (v := 1) hx hb dX10_bargesThat_26 rfl ?_
          refine lv_iload_n hx hb dX10_bargesThat_27 rfl (lv_at hl 0 rfl) ?_
          refine lv_ishl hx hb dX10_bargesThat_28 ?_
          refine lv_goto (tgt := 33) hx hb dX10_bargesThat_29 rfl ?_
          refine lv_ior hx hb dX10_bargesThat_33 ?_
          refine lv_istore_n (lv' := [(2, .int (w_1l2 ||| (1 <<< (w_1l3 &&& 31)))), (3, .int w_1l3), (0, .ref h), (1, .int i_)]) hx hb dX10_bargesThat_34 rfl hl (Nat.le_of_ble_eq_true rfl) rfl (fun ls hl => ?_)
          refine lv_iinc (v := (w_1l3 + 1)) (lv' := [(3, .int (w_1l3 + 1)), (2, .int (w_1l2 ||| (1 <<< (w_1l3 &&& 31)))), (0, .ref h), (1, .int i_)]) hx hb dX10_bargesThat_35 hl (k := 1) rfl rfl (Nat.le_of_ble_eq_true rfl) rfl (fun ls hl => ?_)
          refine lv_goto (tgt := 4) hx hb dX10_bargesThat_38 rfl ?_
          exact ih_w_1 (w_1l3 + 1) (w_1l2 ||| (1 <<< (w_1l3 &&& 31))) _ _ ls hP hD hS (lv_sub hl [0, 1, 2, 3] rfl) hF (up_step c_2 hm) hE
  exact lp_4_w_1 ((((G 6) : Int32).toInt - (0 : Int32).toInt).toNat + 1) 0 0 _ _ ls hP hD hS hl hF (Nat.lt_succ_self _) hE
noncomputable def f_m_griefOf_4 (G : Nat → Int32) (f0 : Nat → Int32) (s_ : Int32) (n : Nat) : Int32 → Int32 → Int32 × Int32 := Nat.rec (motive := fun _ => Int32 → Int32 → Int32 × Int32) (fun w_1l3 w_1l2 => (w_1l3, w_1l2)) (fun n ih w_1l3 w_1l2 => (if (G 5) ≤ w_1l3 then (w_1l3, w_1l2) else (if (f_m_has s_ w_1l3) = 0 then (ih (w_1l3 + 1) (w_1l2 + 0)) else (ih (w_1l3 + 1) (w_1l2 + (f0 ((0 + w_1l3) : Int32).toNatClampNeg)))))) n
theorem f_m_griefOf_4_s (G : Nat → Int32) (f0 : Nat → Int32) (s_ : Int32) (n : Nat) (w_1l3 : Int32) (w_1l2 : Int32) : f_m_griefOf_4 G f0 s_ (n + 1) w_1l3 w_1l2 = (if (G 5) ≤ w_1l3 then (w_1l3, w_1l2) else (if (f_m_has s_ w_1l3) = 0 then (f_m_griefOf_4 G f0 s_ n (w_1l3 + 1) (w_1l2 + 0)) else (f_m_griefOf_4 G f0 s_ n (w_1l3 + 1) (w_1l2 + (f0 ((0 + w_1l3) : Int32).toNatClampNeg))))) := rfl
def S_m_griefOf_4 (G : Nat → Int32) (f0 : Nat → Int32) (s_ : Int32) (K : Int32 → Int32 → Prop) (n : Nat) : Int32 → Int32 → Prop := Nat.rec (motive := fun _ => Int32 → Int32 → Prop) (fun _ _ => True) (fun n ih w_1l3 w_1l2 => (((G 5) ≤ w_1l3 → (K w_1l3 w_1l2)) ∧ (¬ (G 5) ≤ w_1l3 → ((S_m_has s_ w_1l3) ∧ (((f_m_has s_ w_1l3) = 0 → (ih (w_1l3 + 1) (w_1l2 + 0))) ∧ (¬ (f_m_has s_ w_1l3) = 0 → (vp_in (0 + w_1l3) 1302 ∧ (ih (w_1l3 + 1) (w_1l2 + (f0 ((0 + w_1l3) : Int32).toNatClampNeg)))))))))) n
theorem S_m_griefOf_4_s (G : Nat → Int32) (f0 : Nat → Int32) (s_ : Int32) (K : Int32 → Int32 → Prop) (n : Nat) (w_1l3 : Int32) (w_1l2 : Int32) : S_m_griefOf_4 G f0 s_ K (n + 1) w_1l3 w_1l2 = ((((G 5) ≤ w_1l3 → (K w_1l3 w_1l2)) ∧ (¬ (G 5) ≤ w_1l3 → ((S_m_has s_ w_1l3) ∧ (((f_m_has s_ w_1l3) = 0 → (S_m_griefOf_4 G f0 s_ K n (w_1l3 + 1) (w_1l2 + 0))) ∧ (¬ (f_m_has s_ w_1l3) = 0 → (vp_in (0 + w_1l3) 1302 ∧ (S_m_griefOf_4 G f0 s_ K n (w_1l3 + 1) (w_1l2 + (f0 ((0 + w_1l3) : Int32).toNatClampNeg)))))))))) := rfl
noncomputable def f_m_griefOf (G : Nat → Int32) (f0 : Nat → Int32) (s_ : Int32) : Int32 := (match ((f_m_griefOf_4 G f0 s_ ((((G 5) : Int32).toInt - (0 : Int32).toInt).toNat + 1) 0 0) : Int32 × Int32) with | (w_1l3, w_1l2) => w_1l2)
def S_m_griefOf (G : Nat → Int32) (f0 : Nat → Int32) (s_ : Int32) : Prop := (S_m_griefOf_4 G f0 s_ (fun (w_1l3 : Int32) (w_1l2 : Int32) => True) ((((G 5) : Int32).toInt - (0 : Int32).toInt).toNat + 1) 0 0)
def rm_m_griefOf : Room := { frames := 1, cells := 0, slots := 0, locals := 21 }
set_option maxHeartbeats 4000000 in
set_option maxRecDepth 100000 in
theorem m_griefOf {l : Launch} {D : va_G} {cI cZ : ClassId} {sz : Nat} (Rf : Nat → Nat) (h : Nat) (G : Nat → Int32) (f0 : Nat → Int32) (s_ : Int32) (hF : S_m_griefOf G f0 s_) : KI l yX10_griefOf cX10_griefOf 4 (some .int) rm_m_griefOf D cI cZ [.ref h, .int s_] sz [(h, .inr (10, ML G Rf)), ((Rf 0), .inl (cI, 1302, .inl f0))] (fun (r : Int32) (_ : Unit) => r = f_m_griefOf G f0 s_) (fun (_ : Unit) => [(h, .inr (10, ML G Rf)), ((Rf 0), .inl (cI, 1302, .inl f0))]) := by
  refine KI.go rfl (Nat.le_of_ble_eq_true rfl) ?_
  intro p e s m args below meth c ls A Q hx hb hml hts hown hin hP hK hD hS hA hN hl hret
  have hl : lv_has ls 4 [(0, .ref h), (1, .int s_)] := hl
  rw [S_m_griefOf] at hF
  obtain ⟨RES, hE⟩ : ∃ xRES, f_m_griefOf G f0 s_ = xRES := ⟨_, rfl⟩
  rw [hE] at hret
  rw [f_m_griefOf] at hE
  refine lv_iconst (v := 0) hx hb dX10_griefOf_0 rfl ?_
  refine lv_istore_n (lv' := [(2, .int 0), (0, .ref h), (1, .int s_)]) hx hb dX10_griefOf_1 rfl hl (Nat.le_of_ble_eq_true rfl) rfl (fun ls hl => ?_)
  refine lv_iconst (v := 0) hx hb dX10_griefOf_2 rfl ?_
  refine lv_istore_n (lv' := [(3, .int 0), (2, .int 0), (0, .ref h), (1, .int s_)]) hx hb dX10_griefOf_3 rfl hl (Nat.le_of_ble_eq_true rfl) rfl (fun ls hl => ?_)
  have ex_4_w_1 : ∀ (w_1l3 : Int32) (w_1l2 : Int32) (H : Heap) (locs : List Loc) (ls : Array Slot), va_P D classes [(h, .inr (10, ML G Rf)), ((Rf 0), .inl (cI, 1302, .inl f0))] H → va_D A [(h, .inr (10, ML G Rf)), ((Rf 0), .inl (cI, 1302, .inl f0))] → va_S A s.heap H locs → lv_has ls 4 [(3, .int w_1l3), (2, .int w_1l2), (0, .ref h), (1, .int s_)] → (True) → ((w_1l2) : Int32) = RES → W p l e rm_m_griefOf s m args below meth c H locs 0 0 Q (F0 m 41 ls []) := by
    intro w_1l3 w_1l2 H locs ls hP hD hS hl hF hE
    refine lv_iload_n hx hb dX10_griefOf_41 rfl (lv_at hl 1 rfl) ?_
    exact hret w_1l2 () _ _ _ _ dX10_griefOf_42 rfl hE hP hD hS
  have lp_4_w_1 : ∀ (n_w_1 : Nat) (w_1l3 : Int32) (w_1l2 : Int32) (H : Heap) (locs : List Loc) (ls : Array Slot), va_P D classes [(h, .inr (10, ML G Rf)), ((Rf 0), .inl (cI, 1302, .inl f0))] H → va_D A [(h, .inr (10, ML G Rf)), ((Rf 0), .inl (cI, 1302, .inl f0))] → va_S A s.heap H locs → lv_has ls 4 [(3, .int w_1l3), (2, .int w_1l2), (0, .ref h), (1, .int s_)] → (S_m_griefOf_4 G f0 s_ (fun (w_1l3 : Int32) (w_1l2 : Int32) => True) n_w_1 w_1l3 w_1l2) → (((G 5) : Int32).toInt - (w_1l3 : Int32).toInt).toNat < n_w_1 → ((match ((f_m_griefOf_4 G f0 s_ n_w_1 w_1l3 w_1l2) : Int32 × Int32) with | (w_1l3, w_1l2) => w_1l2) : Int32) = RES → W p l e rm_m_griefOf s m args below meth c H locs 0 0 Q (F0 m 4 ls []) := by
    intro n_w_1
    induction n_w_1 with
    | zero => intro w_1l3 w_1l2 H locs ls hP hD hS hl hF hm; exact absurd hm (Nat.not_lt_zero _)
    | succ n_w_1 ih_w_1 =>
      intro w_1l3 w_1l2 H locs ls hP hD hS hl hF hm hE
      rw [S_m_griefOf_4_s] at hF
      rw [f_m_griefOf_4_s] at hE
      refine lv_iload_n hx hb dX10_griefOf_4 rfl (lv_at hl 0 rfl) ?_
      refine lv_aload_n hx hb dX10_griefOf_5 rfl (lv_at hl 2 rfl) ?_
      refine va_get (D := D) (ci := 10) (v := .int (G 5)) (C := RX10) (T := TX10) (N := 45) hx hb hts iX10 hown hK hP 0 rfl rfl 5 (Nat.le_of_ble_eq_true rfl) (hts _ wd_499) (fun _ h9 => h9) rfl dX10_griefOf_6 ?_
      refine lv_icmp_ge (tgt := 41) hx hb dX10_griefOf_9 rfl (fun c_2 => ?_) (fun c_2 => ?_)
      · replace hF := hF.1 c_2
        rw [if_pos c_2] at hE
        exact ex_4_w_1 w_1l3 w_1l2 _ _ ls hP hD hS (lv_sub hl [0, 1, 2, 3] rfl) hF hE
      · replace hF := hF.2 c_2
        rw [if_neg c_2] at hE
        refine lv_iload_n hx hb dX10_griefOf_12 rfl (lv_at hl 1 rfl) ?_
        refine lv_iload_n hx hb dX10_griefOf_13 rfl (lv_at hl 3 rfl) ?_
        refine lv_iload_n hx hb dX10_griefOf_14 rfl (lv_at hl 0 rfl) ?_
        obtain ⟨hs_3, hF⟩ := hF
        refine cSi (wr := [(h, .inr (10, ML G Rf)), ((Rf 0), .inl (cI, 1302, .inl f0))]) (rest := [.int w_1l2]) (m_has s_ w_1l3 hs_3) okS_X10_has wd_502 hx hb hml hown hts hK hP hD hS hA hN hl.1 [] [0, 1] rfl rfl rfl rfl (of_decide_eq_true rfl) rfl (Nat.le_of_ble_eq_true rfl) (Nat.le_of_ble_eq_true rfl) (Nat.le_of_ble_eq_true rfl) (Nat.le_of_ble_eq_true rfl) (Nat.le_of_ble_eq_true rfl) dX10_griefOf_15 (fun r_5 u_4 H locs hw_u_4 hP hD hS => ?_)
        replace hw_u_4 : r_5 = (f_m_has s_ w_1l3) := hw_u_4
        rw [hw_u_4]
        clear hw_u_4
        have hP : va_P D classes [(h, .inr (10, ML G Rf)), ((Rf 0), .inl (cI, 1302, .inl f0))] H := hP
        have hD : va_D A [(h, .inr (10, ML G Rf)), ((Rf 0), .inl (cI, 1302, .inl f0))] := hD
        refine lv_if_eq (tgt := 32) hx hb dX10_griefOf_18 rfl (fun c_6 => ?_) (fun c_6 => ?_)
        · replace hF := hF.1 c_6
          rw [if_pos c_6] at hE
          refine lv_iconst (v := 0) hx hb dX10_griefOf_32 rfl ?_
          refine lv_iadd hx hb dX10_griefOf_33 ?_
          refine lv_istore_n (lv' := [(2, .int (w_1l2 + 0)), (3, .int w_1l3), (0, .ref h), (1, .int s_)]) hx hb dX10_griefOf_34 rfl hl (Nat.le_of_ble_eq_true rfl) rfl (fun ls hl => ?_)
          refine lv_iinc (v := (w_1l3 + 1)) (lv' := [(3, .int (w_1l3 + 1)), (2, .int (w_1l2 + 0)), (0, .ref h), (1, .int s_)]) hx hb dX10_griefOf_35 hl (k := 1) rfl rfl (Nat.le_of_ble_eq_true rfl) rfl (fun ls hl => ?_)
          refine lv_goto (tgt := 4) hx hb dX10_griefOf_38 rfl ?_
          exact ih_w_1 (w_1l3 + 1) (w_1l2 + 0) _ _ ls hP hD hS (lv_sub hl [0, 1, 2, 3] rfl) hF (up_step c_2 hm) hE
        · replace hF := hF.2 c_6
          rw [if_neg c_6] at hE
          refine lv_aload_n hx hb dX10_griefOf_21 rfl (lv_at hl 2 rfl) ?_
          refine va_get (D := D) (ci := 10) (v := .ref (Rf 0)) (C := RX10) (T := TX10) (N := 45) hx hb hts iX10 hown hK hP 0 rfl rfl 0 (Nat.le_of_ble_eq_true rfl) (hts _ wd_491) (fun _ h9 => h9) rfl dX10_griefOf_22 ?_
          refine lv_iconst (v := 0) hx hb dX10_griefOf_25 rfl ?_
          refine lv_iload_n hx hb dX10_griefOf_26 rfl (lv_at hl 0 rfl) ?_
          refine lv_iadd hx hb dX10_griefOf_27 ?_
          obtain ⟨hv_7, hF⟩ := hF
          refine va_iald hx hb hK hP 1 0 rfl rfl hv_7 dX10_griefOf_28 ?_
          refine lv_goto (tgt := 33) hx hb dX10_griefOf_29 rfl ?_
          refine lv_iadd hx hb dX10_griefOf_33 ?_
          refine lv_istore_n (lv' := [(2, .int (w_1l2 + (f0 ((0 + w_1l3) : Int32).toNatClampNeg))), (3, .int w_1l3), (0, .ref h), (1, .int s_)]) hx hb dX10_griefOf_34 rfl hl (Nat.le_of_ble_eq_true rfl) rfl (fun ls hl => ?_)
          refine lv_iinc (v := (w_1l3 + 1)) (lv' := [(3, .int (w_1l3 + 1)), (2, .int (w_1l2 + (f0 ((0 + w_1l3) : Int32).toNatClampNeg))), (0, .ref h), (1, .int s_)]) hx hb dX10_griefOf_35 hl (k := 1) rfl rfl (Nat.le_of_ble_eq_true rfl) rfl (fun ls hl => ?_)
          refine lv_goto (tgt := 4) hx hb dX10_griefOf_38 rfl ?_
          exact ih_w_1 (w_1l3 + 1) (w_1l2 + (f0 ((0 + w_1l3) : Int32).toNatClampNeg)) _ _ ls hP hD hS (lv_sub hl [0, 1, 2, 3] rfl) hF (up_step c_2 hm) hE
  exact lp_4_w_1 ((((G 5) : Int32).toInt - (0 : Int32).toInt).toNat + 1) 0 0 _ _ ls hP hD hS hl hF (Nat.lt_succ_self _) hE
noncomputable def f_m_whoIsAt_5 (G : Nat → Int32) (f0 : Nat → Int32) (h_ : Int32) (b_ : Int32) (n : Nat) : Int32 → Int32 → Int32 × Int32 := Nat.rec (motive := fun _ => Int32 → Int32 → Int32 × Int32) (fun w_1l4 w_1l3 => (w_1l4, w_1l3)) (fun n ih w_1l4 w_1l3 => (if (G 5) ≤ w_1l4 then (w_1l4, w_1l3) else (if (f0 (((h_ + 6) + w_1l4) : Int32).toNatClampNeg) = b_ then (ih (w_1l4 + 1) w_1l4) else (ih (w_1l4 + 1) w_1l3)))) n
theorem f_m_whoIsAt_5_s (G : Nat → Int32) (f0 : Nat → Int32) (h_ : Int32) (b_ : Int32) (n : Nat) (w_1l4 : Int32) (w_1l3 : Int32) : f_m_whoIsAt_5 G f0 h_ b_ (n + 1) w_1l4 w_1l3 = (if (G 5) ≤ w_1l4 then (w_1l4, w_1l3) else (if (f0 (((h_ + 6) + w_1l4) : Int32).toNatClampNeg) = b_ then (f_m_whoIsAt_5 G f0 h_ b_ n (w_1l4 + 1) w_1l4) else (f_m_whoIsAt_5 G f0 h_ b_ n (w_1l4 + 1) w_1l3))) := rfl
def S_m_whoIsAt_5 (G : Nat → Int32) (f0 : Nat → Int32) (h_ : Int32) (b_ : Int32) (K : Int32 → Int32 → Prop) (n : Nat) : Int32 → Int32 → Prop := Nat.rec (motive := fun _ => Int32 → Int32 → Prop) (fun _ _ => True) (fun n ih w_1l4 w_1l3 => (((G 5) ≤ w_1l4 → (K w_1l4 w_1l3)) ∧ (¬ (G 5) ≤ w_1l4 → (vp_in ((h_ + 6) + w_1l4) 1302 ∧ (((f0 (((h_ + 6) + w_1l4) : Int32).toNatClampNeg) = b_ → (ih (w_1l4 + 1) w_1l4)) ∧ (¬ (f0 (((h_ + 6) + w_1l4) : Int32).toNatClampNeg) = b_ → (ih (w_1l4 + 1) w_1l3))))))) n
theorem S_m_whoIsAt_5_s (G : Nat → Int32) (f0 : Nat → Int32) (h_ : Int32) (b_ : Int32) (K : Int32 → Int32 → Prop) (n : Nat) (w_1l4 : Int32) (w_1l3 : Int32) : S_m_whoIsAt_5 G f0 h_ b_ K (n + 1) w_1l4 w_1l3 = ((((G 5) ≤ w_1l4 → (K w_1l4 w_1l3)) ∧ (¬ (G 5) ≤ w_1l4 → (vp_in ((h_ + 6) + w_1l4) 1302 ∧ (((f0 (((h_ + 6) + w_1l4) : Int32).toNatClampNeg) = b_ → (S_m_whoIsAt_5 G f0 h_ b_ K n (w_1l4 + 1) w_1l4)) ∧ (¬ (f0 (((h_ + 6) + w_1l4) : Int32).toNatClampNeg) = b_ → (S_m_whoIsAt_5 G f0 h_ b_ K n (w_1l4 + 1) w_1l3))))))) := rfl
noncomputable def f_m_whoIsAt (G : Nat → Int32) (f0 : Nat → Int32) (h_ : Int32) (b_ : Int32) : Int32 := (match ((f_m_whoIsAt_5 G f0 h_ b_ ((((G 5) : Int32).toInt - (0 : Int32).toInt).toNat + 1) 0 (-1)) : Int32 × Int32) with | (w_1l4, w_1l3) => w_1l3)
def S_m_whoIsAt (G : Nat → Int32) (f0 : Nat → Int32) (h_ : Int32) (b_ : Int32) : Prop := (S_m_whoIsAt_5 G f0 h_ b_ (fun (w_1l4 : Int32) (w_1l3 : Int32) => True) ((((G 5) : Int32).toInt - (0 : Int32).toInt).toNat + 1) 0 (-1))
def rm_m_whoIsAt : Room := { frames := 0, cells := 0, slots := 0, locals := 0 }
set_option maxHeartbeats 4000000 in
set_option maxRecDepth 100000 in
theorem m_whoIsAt {l : Launch} {D : va_G} {cI cZ : ClassId} {sz : Nat} (Rf : Nat → Nat) (h : Nat) (G : Nat → Int32) (f0 : Nat → Int32) (h_ : Int32) (b_ : Int32) (hF : S_m_whoIsAt G f0 h_ b_) : KI l yX10_whoIsAt cX10_whoIsAt 5 (some .int) rm_m_whoIsAt D cI cZ [.ref h, .int h_, .int b_] sz [(h, .inr (10, ML G Rf)), ((Rf 0), .inl (cI, 1302, .inl f0))] (fun (r : Int32) (_ : Unit) => r = f_m_whoIsAt G f0 h_ b_) (fun (_ : Unit) => [(h, .inr (10, ML G Rf)), ((Rf 0), .inl (cI, 1302, .inl f0))]) := by
  refine KI.go rfl (Nat.le_of_ble_eq_true rfl) ?_
  intro p e s m args below meth c ls A Q hx hb hml hts hown hin hP hK hD hS hA hN hl hret
  have hl : lv_has ls 5 [(0, .ref h), (1, .int h_), (2, .int b_)] := hl
  rw [S_m_whoIsAt] at hF
  obtain ⟨RES, hE⟩ : ∃ xRES, f_m_whoIsAt G f0 h_ b_ = xRES := ⟨_, rfl⟩
  rw [hE] at hret
  rw [f_m_whoIsAt] at hE
  refine lv_iconst (v := (-1)) hx hb dX10_whoIsAt_0 rfl ?_
  refine lv_istore_n (lv' := [(3, .int (-1)), (0, .ref h), (1, .int h_), (2, .int b_)]) hx hb dX10_whoIsAt_1 rfl hl (Nat.le_of_ble_eq_true rfl) rfl (fun ls hl => ?_)
  refine lv_iconst (v := 0) hx hb dX10_whoIsAt_2 rfl ?_
  refine lv_istore (lv' := [(4, .int 0), (3, .int (-1)), (0, .ref h), (1, .int h_), (2, .int b_)]) hx hb dX10_whoIsAt_3 hl (Nat.le_of_ble_eq_true rfl) rfl (fun ls hl => ?_)
  have ex_5_w_1 : ∀ (w_1l4 : Int32) (w_1l3 : Int32) (H : Heap) (locs : List Loc) (ls : Array Slot), va_P D classes [(h, .inr (10, ML G Rf)), ((Rf 0), .inl (cI, 1302, .inl f0))] H → va_D A [(h, .inr (10, ML G Rf)), ((Rf 0), .inl (cI, 1302, .inl f0))] → va_S A s.heap H locs → lv_has ls 5 [(4, .int w_1l4), (3, .int w_1l3), (0, .ref h), (1, .int h_), (2, .int b_)] → (True) → ((w_1l3) : Int32) = RES → W p l e rm_m_whoIsAt s m args below meth c H locs 0 0 Q (F0 m 43 ls []) := by
    intro w_1l4 w_1l3 H locs ls hP hD hS hl hF hE
    refine lv_iload_n hx hb dX10_whoIsAt_43 rfl (lv_at hl 1 rfl) ?_
    exact hret w_1l3 () _ _ _ _ dX10_whoIsAt_44 rfl hE hP hD hS
  have lp_5_w_1 : ∀ (n_w_1 : Nat) (w_1l4 : Int32) (w_1l3 : Int32) (H : Heap) (locs : List Loc) (ls : Array Slot), va_P D classes [(h, .inr (10, ML G Rf)), ((Rf 0), .inl (cI, 1302, .inl f0))] H → va_D A [(h, .inr (10, ML G Rf)), ((Rf 0), .inl (cI, 1302, .inl f0))] → va_S A s.heap H locs → lv_has ls 5 [(4, .int w_1l4), (3, .int w_1l3), (0, .ref h), (1, .int h_), (2, .int b_)] → (S_m_whoIsAt_5 G f0 h_ b_ (fun (w_1l4 : Int32) (w_1l3 : Int32) => True) n_w_1 w_1l4 w_1l3) → (((G 5) : Int32).toInt - (w_1l4 : Int32).toInt).toNat < n_w_1 → ((match ((f_m_whoIsAt_5 G f0 h_ b_ n_w_1 w_1l4 w_1l3) : Int32 × Int32) with | (w_1l4, w_1l3) => w_1l3) : Int32) = RES → W p l e rm_m_whoIsAt s m args below meth c H locs 0 0 Q (F0 m 5 ls []) := by
    intro n_w_1
    induction n_w_1 with
    | zero => intro w_1l4 w_1l3 H locs ls hP hD hS hl hF hm; exact absurd hm (Nat.not_lt_zero _)
    | succ n_w_1 ih_w_1 =>
      intro w_1l4 w_1l3 H locs ls hP hD hS hl hF hm hE
      rw [S_m_whoIsAt_5_s] at hF
      rw [f_m_whoIsAt_5_s] at hE
      refine lv_iload hx hb dX10_whoIsAt_5 (lv_at hl 0 rfl) ?_
      refine lv_aload_n hx hb dX10_whoIsAt_7 rfl (lv_at hl 2 rfl) ?_
      refine va_get (D := D) (ci := 10) (v := .int (G 5)) (C := RX10) (T := TX10) (N := 45) hx hb hts iX10 hown hK hP 0 rfl rfl 5 (Nat.le_of_ble_eq_true rfl) (hts _ wd_499) (fun _ h9 => h9) rfl dX10_whoIsAt_8 ?_
      refine lv_icmp_ge (tgt := 43) hx hb dX10_whoIsAt_11 rfl (fun c_2 => ?_) (fun c_2 => ?_)
      · replace hF := hF.1 c_2
        rw [if_pos c_2] at hE
        exact ex_5_w_1 w_1l4 w_1l3 _ _ ls hP hD hS (lv_sub hl [0, 1, 2, 3, 4] rfl) hF hE
      · replace hF := hF.2 c_2
        rw [if_neg c_2] at hE
        refine lv_aload_n hx hb dX10_whoIsAt_14 rfl (lv_at hl 2 rfl) ?_
        refine va_get (D := D) (ci := 10) (v := .ref (Rf 0)) (C := RX10) (T := TX10) (N := 45) hx hb hts iX10 hown hK hP 0 rfl rfl 0 (Nat.le_of_ble_eq_true rfl) (hts _ wd_491) (fun _ h9 => h9) rfl dX10_whoIsAt_15 ?_
        refine lv_iload_n hx hb dX10_whoIsAt_18 rfl (lv_at hl 3 rfl) ?_
        refine lv_bipush (v := 6) hx hb dX10_whoIsAt_19 rfl ?_
        refine lv_iadd hx hb dX10_whoIsAt_21 ?_
        refine lv_iload hx hb dX10_whoIsAt_22 (lv_at hl 0 rfl) ?_
        refine lv_iadd hx hb dX10_whoIsAt_24 ?_
        obtain ⟨hv_3, hF⟩ := hF
        refine va_iald hx hb hK hP 1 0 rfl rfl hv_3 dX10_whoIsAt_25 ?_
        refine lv_iload_n hx hb dX10_whoIsAt_26 rfl (lv_at hl 4 rfl) ?_
        refine lv_icmp_ne (tgt := 35) hx hb dX10_whoIsAt_27 rfl (fun c_4 => ?_) (fun c_4 => ?_)
        · replace hF := hF.2 c_4
          rw [if_neg c_4] at hE
          refine lv_iload_n hx hb dX10_whoIsAt_35 rfl (lv_at hl 1 rfl) ?_
          refine lv_istore_n (lv' := [(3, .int w_1l3), (4, .int w_1l4), (0, .ref h), (1, .int h_), (2, .int b_)]) hx hb dX10_whoIsAt_36 rfl hl (Nat.le_of_ble_eq_true rfl) rfl (fun ls hl => ?_)
          refine lv_iinc (v := (w_1l4 + 1)) (lv' := [(4, .int (w_1l4 + 1)), (3, .int w_1l3), (0, .ref h), (1, .int h_), (2, .int b_)]) hx hb dX10_whoIsAt_37 hl (k := 1) rfl rfl (Nat.le_of_ble_eq_true rfl) rfl (fun ls hl => ?_)
          refine lv_goto (tgt := 5) hx hb dX10_whoIsAt_40 rfl ?_
          exact ih_w_1 (w_1l4 + 1) w_1l3 _ _ ls hP hD hS (lv_sub hl [0, 1, 2, 3, 4] rfl) hF (up_step c_2 hm) hE
        · replace hF := hF.1 c_4
          rw [if_pos c_4] at hE
          refine lv_iload hx hb dX10_whoIsAt_30 (lv_at hl 0 rfl) ?_
          refine lv_goto (tgt := 36) hx hb dX10_whoIsAt_32 rfl ?_
          refine lv_istore_n (lv' := [(3, .int w_1l4), (4, .int w_1l4), (0, .ref h), (1, .int h_), (2, .int b_)]) hx hb dX10_whoIsAt_36 rfl hl (Nat.le_of_ble_eq_true rfl) rfl (fun ls hl => ?_)
          refine lv_iinc (v := (w_1l4 + 1)) (lv' := [(4, .int (w_1l4 + 1)), (3, .int w_1l4), (0, .ref h), (1, .int h_), (2, .int b_)]) hx hb dX10_whoIsAt_37 hl (k := 1) rfl rfl (Nat.le_of_ble_eq_true rfl) rfl (fun ls hl => ?_)
          refine lv_goto (tgt := 5) hx hb dX10_whoIsAt_40 rfl ?_
          exact ih_w_1 (w_1l4 + 1) w_1l4 _ _ ls hP hD hS (lv_sub hl [0, 1, 2, 3, 4] rfl) hF (up_step c_2 hm) hE
  exact lp_5_w_1 ((((G 5) : Int32).toInt - (0 : Int32).toInt).toNat + 1) 0 (-1) _ _ ls hP hD hS hl hF (Nat.lt_succ_self _) hE
noncomputable def f_m_stampOf (G : Nat → Int32) (f10 : Nat → Int32) (c_ : Int32) (t_ : Int32) (from_ : Int32) : Int32 := (if (G 7) = 1 then (if from_ ≤ (((f10 (((5 * c_) + t_) : Int32).toNatClampNeg) + (from_ / 10)) / 2) then from_ else (((f10 (((5 * c_) + t_) : Int32).toNatClampNeg) + (from_ / 10)) / 2)) else (if from_ ≤ ((f10 (((5 * c_) + t_) : Int32).toNatClampNeg) + (from_ / 10)) then from_ else ((f10 (((5 * c_) + t_) : Int32).toNatClampNeg) + (from_ / 10))))
def S_m_stampOf (G : Nat → Int32) (f10 : Nat → Int32) (c_ : Int32) (t_ : Int32) (from_ : Int32) : Prop := (vp_in ((5 * c_) + t_) 30 ∧ (((G 7) = 1 → ((from_ ≤ (((f10 (((5 * c_) + t_) : Int32).toNatClampNeg) + (from_ / 10)) / 2) → True) ∧ (¬ from_ ≤ (((f10 (((5 * c_) + t_) : Int32).toNatClampNeg) + (from_ / 10)) / 2) → True))) ∧ (¬ (G 7) = 1 → ((from_ ≤ ((f10 (((5 * c_) + t_) : Int32).toNatClampNeg) + (from_ / 10)) → True) ∧ (¬ from_ ≤ ((f10 (((5 * c_) + t_) : Int32).toNatClampNeg) + (from_ / 10)) → True)))))
def rm_m_stampOf : Room := { frames := 0, cells := 0, slots := 0, locals := 0 }
set_option maxHeartbeats 4000000 in
set_option maxRecDepth 100000 in
theorem m_stampOf {l : Launch} {D : va_G} {cI cZ : ClassId} {sz : Nat} (Rf : Nat → Nat) (h : Nat) (G : Nat → Int32) (f10 : Nat → Int32) (c_ : Int32) (t_ : Int32) (from_ : Int32) (hF : S_m_stampOf G f10 c_ t_ from_) : KI l yX10_stampOf cX10_stampOf 5 (some .int) rm_m_stampOf D cI cZ [.ref h, .int c_, .int t_, .int from_] sz [(h, .inr (10, ML G Rf)), ((Rf 10), .inl (cI, 30, .inl f10))] (fun (r : Int32) (_ : Unit) => r = f_m_stampOf G f10 c_ t_ from_) (fun (_ : Unit) => [(h, .inr (10, ML G Rf)), ((Rf 10), .inl (cI, 30, .inl f10))]) := by
  refine KI.go rfl (Nat.le_of_ble_eq_true rfl) ?_
  intro p e s m args below meth c ls A Q hx hb hml hts hown hin hP hK hD hS hA hN hl hret
  have hl : lv_has ls 5 [(0, .ref h), (1, .int c_), (2, .int t_), (3, .int from_)] := hl
  rw [S_m_stampOf] at hF
  obtain ⟨RES, hE⟩ : ∃ xRES, f_m_stampOf G f10 c_ t_ from_ = xRES := ⟨_, rfl⟩
  rw [hE] at hret
  rw [f_m_stampOf] at hE
  refine lv_aload_n hx hb dX10_stampOf_0 rfl (lv_at hl 0 rfl) ?_
  refine va_get (D := D) (ci := 10) (v := .ref (Rf 10)) (C := RX10) (T := TX10) (N := 45) hx hb hts iX10 hown hK hP 0 rfl rfl 10 (Nat.le_of_ble_eq_true rfl) (hts _ wd_547) (fun _ h9 => h9) rfl dX10_stampOf_1 ?_
  refine lv_iconst (v := 5) hx hb dX10_stampOf_4 rfl ?_
  refine lv_iload_n hx hb dX10_stampOf_5 rfl (lv_at hl 1 rfl) ?_
  refine lv_imul hx hb dX10_stampOf_6 ?_
  refine lv_iload_n hx hb dX10_stampOf_7 rfl (lv_at hl 2 rfl) ?_
  refine lv_iadd hx hb dX10_stampOf_8 ?_
  obtain ⟨hv_1, hF⟩ := hF
  refine va_iald hx hb hK hP 1 0 rfl rfl hv_1 dX10_stampOf_9 ?_
  refine lv_iload_n hx hb dX10_stampOf_10 rfl (lv_at hl 3 rfl) ?_
  refine lv_bipush (v := 10) hx hb dX10_stampOf_11 rfl ?_
  refine lv_idiv hx hb dX10_stampOf_13 (by decide) ?_
  refine lv_iadd hx hb dX10_stampOf_14 ?_
  refine lv_istore (lv' := [(4, .int ((f10 (((5 * c_) + t_) : Int32).toNatClampNeg) + (from_ / 10))), (0, .ref h), (1, .int c_), (2, .int t_), (3, .int from_)]) hx hb dX10_stampOf_15 hl (Nat.le_of_ble_eq_true rfl) rfl (fun ls hl => ?_)
  refine lv_aload_n hx hb dX10_stampOf_17 rfl (lv_at hl 1 rfl) ?_
  refine va_get (D := D) (ci := 10) (v := .int (G 7)) (C := RX10) (T := TX10) (N := 45) hx hb hts iX10 hown hK hP 0 rfl rfl 7 (Nat.le_of_ble_eq_true rfl) (hts _ wd_548) (fun _ h9 => h9) rfl dX10_stampOf_18 ?_
  refine lv_iconst (v := 1) hx hb dX10_stampOf_21 rfl ?_
  refine lv_icmp_ne (tgt := 32) hx hb dX10_stampOf_22 rfl (fun c_2 => ?_) (fun c_2 => ?_)
  · replace hF := hF.2 c_2
    rw [if_neg c_2] at hE
    refine lv_iload hx hb dX10_stampOf_32 (lv_at hl 0 rfl) ?_
    refine lv_istore (lv' := [(4, .int ((f10 (((5 * c_) + t_) : Int32).toNatClampNeg) + (from_ / 10))), (0, .ref h), (1, .int c_), (2, .int t_), (3, .int from_)]) hx hb dX10_stampOf_34 hl (Nat.le_of_ble_eq_true rfl) rfl (fun ls hl => ?_)
    refine lv_iload hx hb dX10_stampOf_36 (lv_at hl 0 rfl) ?_
    refine lv_iload_n hx hb dX10_stampOf_38 rfl (lv_at hl 4 rfl) ?_
    refine lv_icmp_ge (tgt := 47) hx hb dX10_stampOf_39 rfl (fun c_3 => ?_) (fun c_3 => ?_)
    · replace hF := hF.1 c_3
      rw [if_pos c_3] at hE
      refine lv_iload_n hx hb dX10_stampOf_47 rfl (lv_at hl 4 rfl) ?_
      exact hret from_ () _ _ _ _ dX10_stampOf_48 rfl hE hP hD hS
    · replace hF := hF.2 c_3
      rw [if_neg c_3] at hE
      refine lv_iload hx hb dX10_stampOf_42 (lv_at hl 0 rfl) ?_
      refine lv_goto (tgt := 48) hx hb dX10_stampOf_44 rfl ?_
      exact hret ((f10 (((5 * c_) + t_) : Int32).toNatClampNeg) + (from_ / 10)) () _ _ _ _ dX10_stampOf_48 rfl hE hP hD hS
  · replace hF := hF.1 c_2
    rw [if_pos c_2] at hE
    refine lv_iload hx hb dX10_stampOf_25 (lv_at hl 0 rfl) ?_
    refine lv_iconst (v := 2) hx hb dX10_stampOf_27 rfl ?_
    refine lv_idiv hx hb dX10_stampOf_28 (by decide) ?_
    refine lv_goto (tgt := 34) hx hb dX10_stampOf_29 rfl ?_
    refine lv_istore (lv' := [(4, .int (((f10 (((5 * c_) + t_) : Int32).toNatClampNeg) + (from_ / 10)) / 2)), (0, .ref h), (1, .int c_), (2, .int t_), (3, .int from_)]) hx hb dX10_stampOf_34 hl (Nat.le_of_ble_eq_true rfl) rfl (fun ls hl => ?_)
    refine lv_iload hx hb dX10_stampOf_36 (lv_at hl 0 rfl) ?_
    refine lv_iload_n hx hb dX10_stampOf_38 rfl (lv_at hl 4 rfl) ?_
    refine lv_icmp_ge (tgt := 47) hx hb dX10_stampOf_39 rfl (fun c_4 => ?_) (fun c_4 => ?_)
    · replace hF := hF.1 c_4
      rw [if_pos c_4] at hE
      refine lv_iload_n hx hb dX10_stampOf_47 rfl (lv_at hl 4 rfl) ?_
      exact hret from_ () _ _ _ _ dX10_stampOf_48 rfl hE hP hD hS
    · replace hF := hF.2 c_4
      rw [if_neg c_4] at hE
      refine lv_iload hx hb dX10_stampOf_42 (lv_at hl 0 rfl) ?_
      refine lv_goto (tgt := 48) hx hb dX10_stampOf_44 rfl ?_
      exact hret (((f10 (((5 * c_) + t_) : Int32).toNatClampNeg) + (from_ / 10)) / 2) () _ _ _ _ dX10_stampOf_48 rfl hE hP hD hS
noncomputable def f_m_quarrels_25 (f10 : Nat → Int32) (c_ : Int32) (t_ : Int32) (need_ : Int32) (n : Nat) : Int32 → Int32 → (Nat → Int32) → Int32 × Int32 × (Nat → Int32) := Nat.rec (motive := fun _ => Int32 → Int32 → (Nat → Int32) → Int32 × Int32 × (Nat → Int32)) (fun w_4l6 w_4l5 w_4m0 => (w_4l6, w_4l5, w_4m0)) (fun n ih w_4l6 w_4l5 w_4m0 => (if w_4l6 ≤ 0 then (w_4l6, w_4l5, w_4m0) else (if need_ ≤ w_4l5 then (w_4l6, w_4l5, w_4m0) else (ih (f_m_stampOf (upd (upd w_4m0 32 ((w_4m0 32) + 1)) 33 ((w_4m0 33) - w_4l6)) f10 c_ t_ ((w_4m0 33) - w_4l6)) (w_4l5 + w_4l6) (upd (upd w_4m0 32 ((w_4m0 32) + 1)) 33 ((w_4m0 33) - w_4l6)))))) n
theorem f_m_quarrels_25_s (f10 : Nat → Int32) (c_ : Int32) (t_ : Int32) (need_ : Int32) (n : Nat) (w_4l6 : Int32) (w_4l5 : Int32) (w_4m0 : (Nat → Int32)) : f_m_quarrels_25 f10 c_ t_ need_ (n + 1) w_4l6 w_4l5 w_4m0 = (if w_4l6 ≤ 0 then (w_4l6, w_4l5, w_4m0) else (if need_ ≤ w_4l5 then (w_4l6, w_4l5, w_4m0) else (f_m_quarrels_25 f10 c_ t_ need_ n (f_m_stampOf (upd (upd w_4m0 32 ((w_4m0 32) + 1)) 33 ((w_4m0 33) - w_4l6)) f10 c_ t_ ((w_4m0 33) - w_4l6)) (w_4l5 + w_4l6) (upd (upd w_4m0 32 ((w_4m0 32) + 1)) 33 ((w_4m0 33) - w_4l6))))) := rfl
def S_m_quarrels_25 (f10 : Nat → Int32) (c_ : Int32) (t_ : Int32) (need_ : Int32) (K : Int32 → Int32 → (Nat → Int32) → Prop) (n : Nat) : Int32 → Int32 → (Nat → Int32) → Prop := Nat.rec (motive := fun _ => Int32 → Int32 → (Nat → Int32) → Prop) (fun _ _ _ => False) (fun n ih w_4l6 w_4l5 w_4m0 => ((w_4l6 ≤ 0 → (K w_4l6 w_4l5 w_4m0)) ∧ (¬ w_4l6 ≤ 0 → ((need_ ≤ w_4l5 → (K w_4l6 w_4l5 w_4m0)) ∧ (¬ need_ ≤ w_4l5 → ((S_m_stampOf (upd (upd w_4m0 32 ((w_4m0 32) + 1)) 33 ((w_4m0 33) - w_4l6)) f10 c_ t_ ((w_4m0 33) - w_4l6)) ∧ (ih (f_m_stampOf (upd (upd w_4m0 32 ((w_4m0 32) + 1)) 33 ((w_4m0 33) - w_4l6)) f10 c_ t_ ((w_4m0 33) - w_4l6)) (w_4l5 + w_4l6) (upd (upd w_4m0 32 ((w_4m0 32) + 1)) 33 ((w_4m0 33) - w_4l6))))))))) n
theorem S_m_quarrels_25_s (f10 : Nat → Int32) (c_ : Int32) (t_ : Int32) (need_ : Int32) (K : Int32 → Int32 → (Nat → Int32) → Prop) (n : Nat) (w_4l6 : Int32) (w_4l5 : Int32) (w_4m0 : (Nat → Int32)) : S_m_quarrels_25 f10 c_ t_ need_ K (n + 1) w_4l6 w_4l5 w_4m0 = (((w_4l6 ≤ 0 → (K w_4l6 w_4l5 w_4m0)) ∧ (¬ w_4l6 ≤ 0 → ((need_ ≤ w_4l5 → (K w_4l6 w_4l5 w_4m0)) ∧ (¬ need_ ≤ w_4l5 → ((S_m_stampOf (upd (upd w_4m0 32 ((w_4m0 32) + 1)) 33 ((w_4m0 33) - w_4l6)) f10 c_ t_ ((w_4m0 33) - w_4l6)) ∧ (S_m_quarrels_25 f10 c_ t_ need_ K n (f_m_stampOf (upd (upd w_4m0 32 ((w_4m0 32) + 1)) 33 ((w_4m0 33) - w_4l6)) f10 c_ t_ ((w_4m0 33) - w_4l6)) (w_4l5 + w_4l6) (upd (upd w_4m0 32 ((w_4m0 32) + 1)) 33 ((w_4m0 33) - w_4l6))))))))) := rfl
noncomputable def f_m_quarrels (G : Nat → Int32) (f10 : Nat → Int32) (c_ : Int32) (t_ : Int32) (from_ : Int32) (need_ : Int32) : (Nat → Int32) := (match ((f_m_quarrels_25 f10 c_ t_ need_ ((from_ : Int32).toInt.toNat + 2) (f_m_stampOf (upd (upd G 32 0) 33 from_) f10 c_ t_ from_) 0 (upd (upd G 32 0) 33 from_)) : Int32 × Int32 × (Nat → Int32)) with | (w_4l6, w_4l5, w_4m0) => (if w_4l5 < need_ then (upd w_4m0 34 0) else (upd w_4m0 34 1)))
def S_m_quarrels (G : Nat → Int32) (f10 : Nat → Int32) (c_ : Int32) (t_ : Int32) (from_ : Int32) (need_ : Int32) : Prop := ((S_m_stampOf (upd (upd G 32 0) 33 from_) f10 c_ t_ from_) ∧ (S_m_quarrels_25 f10 c_ t_ need_ (fun (w_4l6 : Int32) (w_4l5 : Int32) (w_4m0 : (Nat → Int32)) => ((w_4l5 < need_ → True) ∧ (¬ w_4l5 < need_ → True))) ((from_ : Int32).toInt.toNat + 2) (f_m_stampOf (upd (upd G 32 0) 33 from_) f10 c_ t_ from_) 0 (upd (upd G 32 0) 33 from_)))
def rm_m_quarrels : Room := { frames := 1, cells := 0, slots := 0, locals := 24 }
set_option maxHeartbeats 4000000 in
set_option maxRecDepth 100000 in
theorem m_quarrels {l : Launch} {D : va_G} {cI cZ : ClassId} {sz : Nat} (Rf : Nat → Nat) (h : Nat) (G : Nat → Int32) (f10 : Nat → Int32) (c_ : Int32) (t_ : Int32) (from_ : Int32) (need_ : Int32) (hF : S_m_quarrels G f10 c_ t_ from_ need_) : KV l yX10_quarrels cX10_quarrels 7 rm_m_quarrels D cI cZ [.ref h, .int c_, .int t_, .int from_, .int need_] sz [(h, .inr (10, ML G Rf)), ((Rf 10), .inl (cI, 30, .inl f10))] (fun (u : (Nat → Int32)) => u = f_m_quarrels G f10 c_ t_ from_ need_) (fun (u : (Nat → Int32)) => [(h, .inr (10, ML u Rf)), ((Rf 10), .inl (cI, 30, .inl f10))]) := by
  refine KV.go rfl (Nat.le_of_ble_eq_true rfl) ?_
  intro p e s m args below meth c ls A Q hx hb hml hts hown hin hP hK hD hS hA hN hl hret
  have hl : lv_has ls 7 [(0, .ref h), (1, .int c_), (2, .int t_), (3, .int from_), (4, .int need_)] := hl
  rw [S_m_quarrels] at hF
  obtain ⟨RES, hE⟩ : ∃ xRES, f_m_quarrels G f10 c_ t_ from_ need_ = xRES := ⟨_, rfl⟩
  rw [hE] at hret
  rw [f_m_quarrels] at hE
  refine lv_iconst (v := 0) hx hb dX10_quarrels_0 rfl ?_
  refine lv_istore (lv' := [(5, .int 0), (0, .ref h), (1, .int c_), (2, .int t_), (3, .int from_), (4, .int need_)]) hx hb dX10_quarrels_1 hl (Nat.le_of_ble_eq_true rfl) rfl (fun ls hl => ?_)
  refine lv_aload_n hx hb dX10_quarrels_3 rfl (lv_at hl 1 rfl) ?_
  refine lv_iconst (v := 0) hx hb dX10_quarrels_4 rfl ?_
  refine va_put (D := D) (ci := 10) (v := .int 0) (ty := .int) (C := RX10) (T := TX10) (N := 45) hx hb hts iX10 tyX10 tyX10_ok nmX10 hown hK hP hD hS 0 rfl rfl 32 (Nat.le_of_ble_eq_true rfl) (hts _ wd_549) (fun _ h9 => h9) rfl (by decide +kernel) rfl rfl (Nat.le_of_ble_eq_true rfl) dX10_quarrels_5 (fun H locs hP hD hS => ?_)
  have hP : va_P D classes [(h, .inr (10, ML (upd G 32 0) Rf)), ((Rf 10), .inl (cI, 30, .inl f10))] H := hP
  have hD : va_D A [(h, .inr (10, ML (upd G 32 0) Rf)), ((Rf 10), .inl (cI, 30, .inl f10))] := hD
  refine lv_aload_n hx hb dX10_quarrels_8 rfl (lv_at hl 1 rfl) ?_
  refine lv_iload_n hx hb dX10_quarrels_9 rfl (lv_at hl 4 rfl) ?_
  refine va_put (D := D) (ci := 10) (v := .int from_) (ty := .int) (C := RX10) (T := TX10) (N := 45) hx hb hts iX10 tyX10 tyX10_ok nmX10 hown hK hP hD hS 0 rfl rfl 33 (Nat.le_of_ble_eq_true rfl) (hts _ wd_550) (fun _ h9 => h9) rfl (by decide +kernel) rfl rfl (Nat.le_of_ble_eq_true rfl) dX10_quarrels_10 (fun H locs hP hD hS => ?_)
  have hP : va_P D classes [(h, .inr (10, ML (upd (upd G 32 0) 33 from_) Rf)), ((Rf 10), .inl (cI, 30, .inl f10))] H := hP
  have hD : va_D A [(h, .inr (10, ML (upd (upd G 32 0) 33 from_) Rf)), ((Rf 10), .inl (cI, 30, .inl f10))] := hD
  refine lv_aload_n hx hb dX10_quarrels_13 rfl (lv_at hl 1 rfl) ?_
  refine lv_iload_n hx hb dX10_quarrels_14 rfl (lv_at hl 2 rfl) ?_
  refine lv_iload_n hx hb dX10_quarrels_15 rfl (lv_at hl 3 rfl) ?_
  refine lv_aload_n hx hb dX10_quarrels_16 rfl (lv_at hl 1 rfl) ?_
  refine va_get (D := D) (ci := 10) (v := .int from_) (C := RX10) (T := TX10) (N := 45) hx hb hts iX10 hown hK hP 0 rfl rfl 33 (Nat.le_of_ble_eq_true rfl) (hts _ wd_550) (fun _ h9 => h9) rfl dX10_quarrels_17 ?_
  obtain ⟨hs_1, hF⟩ := hF
  refine cVi (wr := []) (rest := []) (m_stampOf Rf h (upd (upd G 32 0) 33 from_) f10 c_ t_ from_ hs_1) okV_X10_stampOf wd_551 hx hb hml hown hts hK hP hD hS hA hN hl.1 [0, 1] [] rfl rfl rfl rfl (of_decide_eq_true rfl) rfl rfl rfl (Nat.le_of_ble_eq_true rfl) (Nat.le_of_ble_eq_true rfl) (Nat.le_of_ble_eq_true rfl) (Nat.le_of_ble_eq_true rfl) (Nat.le_of_ble_eq_true rfl) dX10_quarrels_20 (fun r_3 u_2 H locs hw_u_2 hP hD hS => ?_)
  replace hw_u_2 : r_3 = (f_m_stampOf (upd (upd G 32 0) 33 from_) f10 c_ t_ from_) := hw_u_2
  rw [hw_u_2]
  clear hw_u_2
  have hP : va_P D classes [(h, .inr (10, ML (upd (upd G 32 0) 33 from_) Rf)), ((Rf 10), .inl (cI, 30, .inl f10))] H := hP
  have hD : va_D A [(h, .inr (10, ML (upd (upd G 32 0) 33 from_) Rf)), ((Rf 10), .inl (cI, 30, .inl f10))] := hD
  refine lv_istore (lv' := [(6, .int (f_m_stampOf (upd (upd G 32 0) 33 from_) f10 c_ t_ from_)), (5, .int 0), (0, .ref h), (1, .int c_), (2, .int t_), (3, .int from_), (4, .int need_)]) hx hb dX10_quarrels_23 hl (Nat.le_of_ble_eq_true rfl) rfl (fun ls hl => ?_)
  have ex_25_w_4 : ∀ (w_4l6 : Int32) (w_4l5 : Int32) (w_4m0 : (Nat → Int32)) (H : Heap) (locs : List Loc) (ls : Array Slot), va_P D classes [(h, .inr (10, ML w_4m0 Rf)), ((Rf 10), .inl (cI, 30, .inl f10))] H → va_D A [(h, .inr (10, ML w_4m0 Rf)), ((Rf 10), .inl (cI, 30, .inl f10))] → va_S A s.heap H locs → lv_has ls 7 [(6, .int w_4l6), (5, .int w_4l5), (0, .ref h), (1, .int c_), (2, .int t_), (3, .int from_), (4, .int need_)] → (((w_4l5 < need_ → True) ∧ (¬ w_4l5 < need_ → True))) → (((if w_4l5 < need_ then (upd w_4m0 34 0) else (upd w_4m0 34 1))) : (Nat → Int32)) = RES → W p l e rm_m_quarrels s m args below meth c H locs 0 0 Q (F0 m 80 ls []) := by
    intro w_4l6 w_4l5 w_4m0 H locs ls hP hD hS hl hF hE
    refine lv_aload_n hx hb dX10_quarrels_80 rfl (lv_at hl 2 rfl) ?_
    refine lv_iload hx hb dX10_quarrels_81 (lv_at hl 1 rfl) ?_
    refine lv_iload hx hb dX10_quarrels_83 (lv_at hl 6 rfl) ?_
    refine lv_icmp_lt (tgt := 92) hx hb dX10_quarrels_85 rfl (fun c_5 => ?_) (fun c_5 => ?_)
    · replace hF := hF.1 c_5
      rw [if_pos c_5] at hE
      refine lv_iconst (v := 0) hx hb dX10_quarrels_92 rfl ?_
      refine va_put (D := D) (ci := 10) (v := .int 0) (ty := .boolean) (C := RX10) (T := TX10) (N := 45) hx hb hts iX10 tyX10 tyX10_ok nmX10 hown hK hP hD hS 0 rfl rfl 34 (Nat.le_of_ble_eq_true rfl) (hts _ wd_555) (fun _ h9 => h9) rfl (by decide +kernel) rfl rfl (Nat.le_of_ble_eq_true rfl) dX10_quarrels_93 (fun H locs hP hD hS => ?_)
      have hP : va_P D classes [(h, .inr (10, ML (upd w_4m0 34 0) Rf)), ((Rf 10), .inl (cI, 30, .inl f10))] H := hP
      have hD : va_D A [(h, .inr (10, ML (upd w_4m0 34 0) Rf)), ((Rf 10), .inl (cI, 30, .inl f10))] := hD
      exact hret (upd w_4m0 34 0) _ _ _ _ dX10_quarrels_96 hE hP hD hS
    · replace hF := hF.2 c_5
      rw [if_neg c_5] at hE
      refine lv_iconst (v := 1) hx hb dX10_quarrels_88 rfl ?_
      refine lv_goto (tgt := 93) hx hb dX10_quarrels_89 rfl ?_
      refine va_put (D := D) (ci := 10) (v := .int 1) (ty := .boolean) (C := RX10) (T := TX10) (N := 45) hx hb hts iX10 tyX10 tyX10_ok nmX10 hown hK hP hD hS 0 rfl rfl 34 (Nat.le_of_ble_eq_true rfl) (hts _ wd_555) (fun _ h9 => h9) rfl (by decide +kernel) rfl rfl (Nat.le_of_ble_eq_true rfl) dX10_quarrels_93 (fun H locs hP hD hS => ?_)
      have hP : va_P D classes [(h, .inr (10, ML (upd w_4m0 34 1) Rf)), ((Rf 10), .inl (cI, 30, .inl f10))] H := hP
      have hD : va_D A [(h, .inr (10, ML (upd w_4m0 34 1) Rf)), ((Rf 10), .inl (cI, 30, .inl f10))] := hD
      exact hret (upd w_4m0 34 1) _ _ _ _ dX10_quarrels_96 hE hP hD hS
  have lp_25_w_4 : ∀ (n_w_4 : Nat) (w_4l6 : Int32) (w_4l5 : Int32) (w_4m0 : (Nat → Int32)) (H : Heap) (locs : List Loc) (ls : Array Slot), va_P D classes [(h, .inr (10, ML w_4m0 Rf)), ((Rf 10), .inl (cI, 30, .inl f10))] H → va_D A [(h, .inr (10, ML w_4m0 Rf)), ((Rf 10), .inl (cI, 30, .inl f10))] → va_S A s.heap H locs → lv_has ls 7 [(6, .int w_4l6), (5, .int w_4l5), (0, .ref h), (1, .int c_), (2, .int t_), (3, .int from_), (4, .int need_)] → (S_m_quarrels_25 f10 c_ t_ need_ (fun (w_4l6 : Int32) (w_4l5 : Int32) (w_4m0 : (Nat → Int32)) => ((w_4l5 < need_ → True) ∧ (¬ w_4l5 < need_ → True))) n_w_4 w_4l6 w_4l5 w_4m0) → ((match ((f_m_quarrels_25 f10 c_ t_ need_ n_w_4 w_4l6 w_4l5 w_4m0) : Int32 × Int32 × (Nat → Int32)) with | (w_4l6, w_4l5, w_4m0) => (if w_4l5 < need_ then (upd w_4m0 34 0) else (upd w_4m0 34 1))) : (Nat → Int32)) = RES → W p l e rm_m_quarrels s m args below meth c H locs 0 0 Q (F0 m 25 ls []) := by
    intro n_w_4
    induction n_w_4 with
    | zero => intro w_4l6 w_4l5 w_4m0 H locs ls hP hD hS hl hF hE; exact False.elim hF
    | succ n_w_4 ih_w_4 =>
      intro w_4l6 w_4l5 w_4m0 H locs ls hP hD hS hl hF hE
      rw [S_m_quarrels_25_s] at hF
      rw [f_m_quarrels_25_s] at hE
      refine lv_iload hx hb dX10_quarrels_25 (lv_at hl 0 rfl) ?_
      refine lv_if_le (tgt := 80) hx hb dX10_quarrels_27 rfl (fun c_6 => ?_) (fun c_6 => ?_)
      · replace hF := hF.1 c_6
        rw [if_pos c_6] at hE
        exact ex_25_w_4 w_4l6 w_4l5 w_4m0 _ _ ls hP hD hS (lv_sub hl [0, 1, 2, 3, 4, 5, 6] rfl) hF hE
      · replace hF := hF.2 c_6
        rw [if_neg c_6] at hE
        refine lv_iload hx hb dX10_quarrels_30 (lv_at hl 1 rfl) ?_
        refine lv_iload hx hb dX10_quarrels_32 (lv_at hl 6 rfl) ?_
        refine lv_icmp_ge (tgt := 80) hx hb dX10_quarrels_34 rfl (fun c_7 => ?_) (fun c_7 => ?_)
        · replace hF := hF.1 c_7
          rw [if_pos c_7] at hE
          exact ex_25_w_4 w_4l6 w_4l5 w_4m0 _ _ ls hP hD hS (lv_sub hl [0, 1, 2, 3, 4, 5, 6] rfl) hF hE
        · replace hF := hF.2 c_7
          rw [if_neg c_7] at hE
          refine lv_aload_n hx hb dX10_quarrels_37 rfl (lv_at hl 2 rfl) ?_
          refine lv_dup hx hb dX10_quarrels_38 rfl ?_
          refine va_get (D := D) (ci := 10) (v := .int (w_4m0 32)) (C := RX10) (T := TX10) (N := 45) hx hb hts iX10 hown hK hP 0 rfl rfl 32 (Nat.le_of_ble_eq_true rfl) (hts _ wd_549) (fun _ h9 => h9) rfl dX10_quarrels_39 ?_
          refine lv_iconst (v := 1) hx hb dX10_quarrels_42 rfl ?_
          refine lv_iadd hx hb dX10_quarrels_43 ?_
          refine va_put (D := D) (ci := 10) (v := .int ((w_4m0 32) + 1)) (ty := .int) (C := RX10) (T := TX10) (N := 45) hx hb hts iX10 tyX10 tyX10_ok nmX10 hown hK hP hD hS 0 rfl rfl 32 (Nat.le_of_ble_eq_true rfl) (hts _ wd_549) (fun _ h9 => h9) rfl (by decide +kernel) rfl rfl (Nat.le_of_ble_eq_true rfl) dX10_quarrels_44 (fun H locs hP hD hS => ?_)
          have hP : va_P D classes [(h, .inr (10, ML (upd w_4m0 32 ((w_4m0 32) + 1)) Rf)), ((Rf 10), .inl (cI, 30, .inl f10))] H := hP
          have hD : va_D A [(h, .inr (10, ML (upd w_4m0 32 ((w_4m0 32) + 1)) Rf)), ((Rf 10), .inl (cI, 30, .inl f10))] := hD
          refine lv_iload hx hb dX10_quarrels_47 (lv_at hl 1 rfl) ?_
          refine lv_iload hx hb dX10_quarrels_49 (lv_at hl 0 rfl) ?_
          refine lv_iadd hx hb dX10_quarrels_51 ?_
          refine lv_istore (lv' := [(5, .int (w_4l5 + w_4l6)), (6, .int w_4l6), (0, .ref h), (1, .int c_), (2, .int t_), (3, .int from_), (4, .int need_)]) hx hb dX10_quarrels_52 hl (Nat.le_of_ble_eq_true rfl) rfl (fun ls hl => ?_)
          refine lv_aload_n hx hb dX10_quarrels_54 rfl (lv_at hl 2 rfl) ?_
          refine lv_dup hx hb dX10_quarrels_55 rfl ?_
          refine va_get (D := D) (ci := 10) (v := .int (w_4m0 33)) (C := RX10) (T := TX10) (N := 45) hx hb hts iX10 hown hK hP 0 rfl rfl 33 (Nat.le_of_ble_eq_true rfl) (hts _ wd_550) (fun _ h9 => h9) rfl dX10_quarrels_56 ?_
          refine lv_iload hx hb dX10_quarrels_59 (lv_at hl 1 rfl) ?_
          refine lv_isub hx hb dX10_quarrels_61 ?_
          refine va_put (D := D) (ci := 10) (v := .int ((w_4m0 33) - w_4l6)) (ty := .int) (C := RX10) (T := TX10) (N := 45) hx hb hts iX10 tyX10 tyX10_ok nmX10 hown hK hP hD hS 0 rfl rfl 33 (Nat.le_of_ble_eq_true rfl) (hts _ wd_550) (fun _ h9 => h9) rfl (by decide +kernel) rfl rfl (Nat.le_of_ble_eq_true rfl) dX10_quarrels_62 (fun H locs hP hD hS => ?_)
          have hP : va_P D classes [(h, .inr (10, ML (upd (upd w_4m0 32 ((w_4m0 32) + 1)) 33 ((w_4m0 33) - w_4l6)) Rf)), ((Rf 10), .inl (cI, 30, .inl f10))] H := hP
          have hD : va_D A [(h, .inr (10, ML (upd (upd w_4m0 32 ((w_4m0 32) + 1)) 33 ((w_4m0 33) - w_4l6)) Rf)), ((Rf 10), .inl (cI, 30, .inl f10))] := hD
          refine lv_aload_n hx hb dX10_quarrels_65 rfl (lv_at hl 2 rfl) ?_
          refine lv_iload_n hx hb dX10_quarrels_66 rfl (lv_at hl 3 rfl) ?_
          refine lv_iload_n hx hb dX10_quarrels_67 rfl (lv_at hl 4 rfl) ?_
          refine lv_aload_n hx hb dX10_quarrels_68 rfl (lv_at hl 2 rfl) ?_
          refine va_get (D := D) (ci := 10) (v := .int ((w_4m0 33) - w_4l6)) (C := RX10) (T := TX10) (N := 45) hx hb hts iX10 hown hK hP 0 rfl rfl 33 (Nat.le_of_ble_eq_true rfl) (hts _ wd_550) (fun _ h9 => h9) rfl dX10_quarrels_69 ?_
          obtain ⟨hs_8, hF⟩ := hF
          refine cVi (wr := []) (rest := []) (m_stampOf Rf h (upd (upd w_4m0 32 ((w_4m0 32) + 1)) 33 ((w_4m0 33) - w_4l6)) f10 c_ t_ ((w_4m0 33) - w_4l6) hs_8) okV_X10_stampOf wd_551 hx hb hml hown hts hK hP hD hS hA hN hl.1 [0, 1] [] rfl rfl rfl rfl (of_decide_eq_true rfl) rfl rfl rfl (Nat.le_of_ble_eq_true rfl) (Nat.le_of_ble_eq_true rfl) (Nat.le_of_ble_eq_true rfl) (Nat.le_of_ble_eq_true rfl) (Nat.le_of_ble_eq_true rfl) dX10_quarrels_72 (fun r_10 u_9 H locs hw_u_9 hP hD hS => ?_)
          replace hw_u_9 : r_10 = (f_m_stampOf (upd (upd w_4m0 32 ((w_4m0 32) + 1)) 33 ((w_4m0 33) - w_4l6)) f10 c_ t_ ((w_4m0 33) - w_4l6)) := hw_u_9
          rw [hw_u_9]
          clear hw_u_9
          have hP : va_P D classes [(h, .inr (10, ML (upd (upd w_4m0 32 ((w_4m0 32) + 1)) 33 ((w_4m0 33) - w_4l6)) Rf)), ((Rf 10), .inl (cI, 30, .inl f10))] H := hP
          have hD : va_D A [(h, .inr (10, ML (upd (upd w_4m0 32 ((w_4m0 32) + 1)) 33 ((w_4m0 33) - w_4l6)) Rf)), ((Rf 10), .inl (cI, 30, .inl f10))] := hD
          refine lv_istore (lv' := [(6, .int (f_m_stampOf (upd (upd w_4m0 32 ((w_4m0 32) + 1)) 33 ((w_4m0 33) - w_4l6)) f10 c_ t_ ((w_4m0 33) - w_4l6))), (5, .int (w_4l5 + w_4l6)), (0, .ref h), (1, .int c_), (2, .int t_), (3, .int from_), (4, .int need_)]) hx hb dX10_quarrels_75 hl (Nat.le_of_ble_eq_true rfl) rfl (fun ls hl => ?_)
          refine lv_goto (tgt := 25) hx hb dX10_quarrels_77 rfl ?_
          exact ih_w_4 (f_m_stampOf (upd (upd w_4m0 32 ((w_4m0 32) + 1)) 33 ((w_4m0 33) - w_4l6)) f10 c_ t_ ((w_4m0 33) - w_4l6)) (w_4l5 + w_4l6) (upd (upd w_4m0 32 ((w_4m0 32) + 1)) 33 ((w_4m0 33) - w_4l6)) _ _ ls hP hD hS (lv_sub hl [0, 1, 2, 3, 4, 5, 6] rfl) hF hE
  exact lp_25_w_4 ((from_ : Int32).toInt.toNat + 2) (f_m_stampOf (upd (upd G 32 0) 33 from_) f10 c_ t_ from_) 0 (upd (upd G 32 0) 33 from_) _ _ ls hP hD hS hl hF hE
end
section
def fw_cX10_minds : List (List Nat) := [[42, 180, 0, 180, 16, 20, 160, 0, 51, 3, 60, 27, 17, 3, 30, 162, 0, 32], [0, 32, 42, 180, 0, 7, 17, 1, 206, 27, 96, 42, 180, 0, 7, 17, 1, 206], [1, 206, 27, 96, 16, 42, 96, 46, 79, 132, 1, 1, 167, 255, 223, 42, 89, 180], [89, 180, 0, 180, 4, 100, 181, 0, 180, 42, 3, 17, 1, 206, 16, 42, 42, 180], [42, 180, 0, 180, 104, 96, 182, 0, 229, 42, 89, 180, 0, 180, 4, 96, 181, 0], [181, 0, 180, 177]]
theorem fW_cX10_minds : fq_wins 6 cX10_minds.data.toList = fw_cX10_minds := by decide +kernel
theorem fk_cX10_minds_0 : fq_ck cX10_minds 0 [42, 180, 0, 180, 16, 20, 160, 0, 51, 3, 60, 27, 17, 3, 30, 162, 0, 32] := fq_of fW_cX10_minds 0 rfl rfl
theorem dX10_minds_0 : decode cX10_minds 0 = .ok (.aload_n 0, 1) := fq_42 fk_cX10_minds_0 0 rfl rfl
theorem wd_556 : Cond.fieldLink RX10 180 "QuarrelBridgesModel" "undoes" "I" ∈ BG := BG_at4 65 (by decide +kernel) rfl
theorem dX10_minds_1 : decode cX10_minds 1 = .ok (.getfield 180, 3) := fq_180 fk_cX10_minds_0 1 rfl rfl rfl rfl rfl
theorem dX10_minds_4 : decode cX10_minds 4 = .ok (.bipush 20, 2) := fq_16 fk_cX10_minds_0 4 rfl rfl rfl rfl
theorem dX10_minds_6 : decode cX10_minds 6 = .ok (.if_icmp .ne 51, 3) := fq_160 fk_cX10_minds_0 6 rfl rfl rfl rfl rfl
theorem fk_cX10_minds_3 : fq_ck cX10_minds 48 [89, 180, 0, 180, 4, 100, 181, 0, 180, 42, 3, 17, 1, 206, 16, 42, 42, 180] := fq_of fW_cX10_minds 3 rfl rfl
theorem dX10_minds_57 : decode cX10_minds 57 = .ok (.aload_n 0, 1) := fq_42 fk_cX10_minds_3 9 rfl rfl
theorem dX10_minds_58 : decode cX10_minds 58 = .ok (.iconst 0, 1) := fq_3 fk_cX10_minds_3 10 rfl rfl
theorem dX10_minds_59 : decode cX10_minds 59 = .ok (.sipush 462, 3) := fq_17 fk_cX10_minds_3 11 rfl rfl rfl rfl rfl
theorem dX10_minds_62 : decode cX10_minds 62 = .ok (.bipush 42, 2) := fq_16 fk_cX10_minds_3 14 rfl rfl rfl rfl
theorem fk_cX10_minds_4 : fq_ck cX10_minds 64 [42, 180, 0, 180, 104, 96, 182, 0, 229, 42, 89, 180, 0, 180, 4, 96, 181, 0] := fq_of fW_cX10_minds 4 rfl rfl
theorem dX10_minds_64 : decode cX10_minds 64 = .ok (.aload_n 0, 1) := fq_42 fk_cX10_minds_4 0 rfl rfl
theorem dX10_minds_65 : decode cX10_minds 65 = .ok (.getfield 180, 3) := fq_180 fk_cX10_minds_4 1 rfl rfl rfl rfl rfl
theorem dX10_minds_68 : decode cX10_minds 68 = .ok (.imul, 1) := fq_104 fk_cX10_minds_4 4 rfl rfl
theorem dX10_minds_69 : decode cX10_minds 69 = .ok (.iadd, 1) := fq_96 fk_cX10_minds_4 5 rfl rfl
theorem dX10_minds_70 : decode cX10_minds 70 = .ok (.invokevirtual 229, 3) := fq_182 fk_cX10_minds_4 6 rfl rfl rfl rfl rfl
theorem wd_557 : Cond.methodLink RX10 229 yX10_copy ∈ BG := BG_at5 87 (by decide +kernel) rfl
theorem wd_558 : Cond.code yX10_copy cX10_copy 4 none ∈ BG := BG_at5 90 rfl rfl
theorem wd_559 : Cond.instanceMethod yX10_copy ∈ BG := BG_at5 89 (by decide +kernel) rfl
theorem wd_560 : Cond.selects RX10 yX10_copy yX10_copy ∈ BG := BG_in (by decide +kernel) rfl
theorem okV_X10_copy : okV yX10_copy cX10_copy 4 none 2 := ⟨⟨wd_558, wd_497, by decide +kernel⟩, wd_559, wd_560⟩
theorem dX10_minds_73 : decode cX10_minds 73 = .ok (.aload_n 0, 1) := fq_42 fk_cX10_minds_4 9 rfl rfl
theorem dX10_minds_74 : decode cX10_minds 74 = .ok (.dup, 1) := fq_89 fk_cX10_minds_4 10 rfl rfl
theorem dX10_minds_75 : decode cX10_minds 75 = .ok (.getfield 180, 3) := fq_180 fk_cX10_minds_4 11 rfl rfl rfl rfl rfl
theorem dX10_minds_78 : decode cX10_minds 78 = .ok (.iconst 1, 1) := fq_4 fk_cX10_minds_4 14 rfl rfl
theorem dX10_minds_79 : decode cX10_minds 79 = .ok (.iadd, 1) := fq_96 fk_cX10_minds_4 15 rfl rfl
theorem fk_cX10_minds_5 : fq_ck cX10_minds 80 [181, 0, 180, 177] := fq_of fW_cX10_minds 5 rfl rfl
theorem dX10_minds_80 : decode cX10_minds 80 = .ok (.putfield 180, 3) := fq_181 fk_cX10_minds_5 0 rfl rfl rfl rfl rfl
theorem dX10_minds_83 : decode cX10_minds 83 = .ok (.return_, 1) := fq_177 fk_cX10_minds_5 3 rfl rfl
theorem dX10_minds_9 : decode cX10_minds 9 = .ok (.iconst 0, 1) := fq_3 fk_cX10_minds_0 9 rfl rfl
theorem dX10_minds_10 : decode cX10_minds 10 = .ok (.istore_n 1, 1) := fq_60 fk_cX10_minds_0 10 rfl rfl
theorem fk_cX10_minds_2 : fq_ck cX10_minds 32 [1, 206, 27, 96, 16, 42, 96, 46, 79, 132, 1, 1, 167, 255, 223, 42, 89, 180] := fq_of fW_cX10_minds 2 rfl rfl
theorem dX10_minds_47 : decode cX10_minds 47 = .ok (.aload_n 0, 1) := fq_42 fk_cX10_minds_2 15 rfl rfl
theorem dX10_minds_48 : decode cX10_minds 48 = .ok (.dup, 1) := fq_89 fk_cX10_minds_3 0 rfl rfl
theorem dX10_minds_49 : decode cX10_minds 49 = .ok (.getfield 180, 3) := fq_180 fk_cX10_minds_3 1 rfl rfl rfl rfl rfl
theorem dX10_minds_52 : decode cX10_minds 52 = .ok (.iconst 1, 1) := fq_4 fk_cX10_minds_3 4 rfl rfl
theorem dX10_minds_53 : decode cX10_minds 53 = .ok (.isub, 1) := fq_100 fk_cX10_minds_3 5 rfl rfl
theorem dX10_minds_54 : decode cX10_minds 54 = .ok (.putfield 180, 3) := fq_181 fk_cX10_minds_3 6 rfl rfl rfl rfl rfl
theorem dX10_minds_11 : decode cX10_minds 11 = .ok (.iload_n 1, 1) := fq_27 fk_cX10_minds_0 11 rfl rfl
theorem dX10_minds_12 : decode cX10_minds 12 = .ok (.sipush 798, 3) := fq_17 fk_cX10_minds_0 12 rfl rfl rfl rfl rfl
theorem dX10_minds_15 : decode cX10_minds 15 = .ok (.if_icmp .ge 32, 3) := fq_162 fk_cX10_minds_0 15 rfl rfl rfl rfl rfl
theorem fk_cX10_minds_1 : fq_ck cX10_minds 16 [0, 32, 42, 180, 0, 7, 17, 1, 206, 27, 96, 42, 180, 0, 7, 17, 1, 206] := fq_of fW_cX10_minds 1 rfl rfl
theorem dX10_minds_18 : decode cX10_minds 18 = .ok (.aload_n 0, 1) := fq_42 fk_cX10_minds_1 2 rfl rfl
theorem dX10_minds_19 : decode cX10_minds 19 = .ok (.getfield 7, 3) := fq_180 fk_cX10_minds_1 3 rfl rfl rfl rfl rfl
theorem dX10_minds_22 : decode cX10_minds 22 = .ok (.sipush 462, 3) := fq_17 fk_cX10_minds_1 6 rfl rfl rfl rfl rfl
theorem dX10_minds_25 : decode cX10_minds 25 = .ok (.iload_n 1, 1) := fq_27 fk_cX10_minds_1 9 rfl rfl
theorem dX10_minds_26 : decode cX10_minds 26 = .ok (.iadd, 1) := fq_96 fk_cX10_minds_1 10 rfl rfl
theorem dX10_minds_27 : decode cX10_minds 27 = .ok (.aload_n 0, 1) := fq_42 fk_cX10_minds_1 11 rfl rfl
theorem dX10_minds_28 : decode cX10_minds 28 = .ok (.getfield 7, 3) := fq_180 fk_cX10_minds_1 12 rfl rfl rfl rfl rfl
theorem dX10_minds_31 : decode cX10_minds 31 = .ok (.sipush 462, 3) := fq_17 fk_cX10_minds_1 15 rfl rfl rfl rfl rfl
theorem dX10_minds_34 : decode cX10_minds 34 = .ok (.iload_n 1, 1) := fq_27 fk_cX10_minds_2 2 rfl rfl
theorem dX10_minds_35 : decode cX10_minds 35 = .ok (.iadd, 1) := fq_96 fk_cX10_minds_2 3 rfl rfl
theorem dX10_minds_36 : decode cX10_minds 36 = .ok (.bipush 42, 2) := fq_16 fk_cX10_minds_2 4 rfl rfl rfl rfl
theorem dX10_minds_38 : decode cX10_minds 38 = .ok (.iadd, 1) := fq_96 fk_cX10_minds_2 6 rfl rfl
theorem dX10_minds_39 : decode cX10_minds 39 = .ok (.iaload, 1) := fq_46 fk_cX10_minds_2 7 rfl rfl
theorem dX10_minds_40 : decode cX10_minds 40 = .ok (.iastore, 1) := fq_79 fk_cX10_minds_2 8 rfl rfl
theorem dX10_minds_41 : decode cX10_minds 41 = .ok (.iinc 1 1, 3) := fq_132 fk_cX10_minds_2 9 rfl rfl rfl rfl rfl
theorem dX10_minds_44 : decode cX10_minds 44 = .ok (.goto (-33), 3) := fq_167 fk_cX10_minds_2 12 rfl rfl rfl rfl rfl
noncomputable def f_m_minds_11  (n : Nat) : Int32 → (Nat → Int32) → (Nat → Int32) → Int32 × (Nat → Int32) × (Nat → Int32) := Nat.rec (motive := fun _ => Int32 → (Nat → Int32) → (Nat → Int32) → Int32 × (Nat → Int32) × (Nat → Int32)) (fun w_5l1 w_5m0 w_5m1 => (w_5l1, w_5m0, w_5m1)) (fun n ih w_5l1 w_5m0 w_5m1 => (if 798 ≤ w_5l1 then (w_5l1, w_5m0, w_5m1) else (ih (w_5l1 + 1) w_5m0 (upd w_5m1 ((462 + w_5l1) : Int32).toNatClampNeg (w_5m1 (((462 + w_5l1) + 42) : Int32).toNatClampNeg))))) n
theorem f_m_minds_11_s  (n : Nat) (w_5l1 : Int32) (w_5m0 : (Nat → Int32)) (w_5m1 : (Nat → Int32)) : f_m_minds_11  (n + 1) w_5l1 w_5m0 w_5m1 = (if 798 ≤ w_5l1 then (w_5l1, w_5m0, w_5m1) else (f_m_minds_11  n (w_5l1 + 1) w_5m0 (upd w_5m1 ((462 + w_5l1) : Int32).toNatClampNeg (w_5m1 (((462 + w_5l1) + 42) : Int32).toNatClampNeg)))) := rfl
def S_m_minds_11  (K : Int32 → (Nat → Int32) → (Nat → Int32) → Prop) (n : Nat) : Int32 → (Nat → Int32) → (Nat → Int32) → Prop := Nat.rec (motive := fun _ => Int32 → (Nat → Int32) → (Nat → Int32) → Prop) (fun _ _ _ => True) (fun n ih w_5l1 w_5m0 w_5m1 => ((798 ≤ w_5l1 → (K w_5l1 w_5m0 w_5m1)) ∧ (¬ 798 ≤ w_5l1 → (vp_in ((462 + w_5l1) + 42) 1302 ∧ (vp_in (462 + w_5l1) 1302 ∧ (ih (w_5l1 + 1) w_5m0 (upd w_5m1 ((462 + w_5l1) : Int32).toNatClampNeg (w_5m1 (((462 + w_5l1) + 42) : Int32).toNatClampNeg)))))))) n
theorem S_m_minds_11_s  (K : Int32 → (Nat → Int32) → (Nat → Int32) → Prop) (n : Nat) (w_5l1 : Int32) (w_5m0 : (Nat → Int32)) (w_5m1 : (Nat → Int32)) : S_m_minds_11  K (n + 1) w_5l1 w_5m0 w_5m1 = (((798 ≤ w_5l1 → (K w_5l1 w_5m0 w_5m1)) ∧ (¬ 798 ≤ w_5l1 → (vp_in ((462 + w_5l1) + 42) 1302 ∧ (vp_in (462 + w_5l1) 1302 ∧ (S_m_minds_11  K n (w_5l1 + 1) w_5m0 (upd w_5m1 ((462 + w_5l1) : Int32).toNatClampNeg (w_5m1 (((462 + w_5l1) + 42) : Int32).toNatClampNeg)))))))) := rfl
noncomputable def f_m_minds (G : Nat → Int32) (f0 : Nat → Int32) : (Nat → Int32) × (Nat → Int32) := (if (G 2) = 20 then (match ((f_m_minds_11  (((798 : Int32).toInt - (0 : Int32).toInt).toNat + 1) 0 G f0) : Int32 × (Nat → Int32) × (Nat → Int32)) with | (w_5l1, w_5m0, w_5m1) => ((upd (upd w_5m0 2 ((w_5m0 2) - 1)) 2 (((upd w_5m0 2 ((w_5m0 2) - 1)) 2) + 1)), (f_m_copy w_5m1 0 (462 + (42 * ((w_5m0 2) - 1)))))) else ((upd G 2 ((G 2) + 1)), (f_m_copy f0 0 (462 + (42 * (G 2))))))
def S_m_minds (G : Nat → Int32) (f0 : Nat → Int32) : Prop := (((G 2) = 20 → (S_m_minds_11  (fun (w_5l1 : Int32) (w_5m0 : (Nat → Int32)) (w_5m1 : (Nat → Int32)) => ((S_m_copy w_5m1 0 (462 + (42 * ((w_5m0 2) - 1)))) ∧ True)) (((798 : Int32).toInt - (0 : Int32).toInt).toNat + 1) 0 G f0)) ∧ (¬ (G 2) = 20 → ((S_m_copy f0 0 (462 + (42 * (G 2)))) ∧ True)))
def rm_m_minds : Room := { frames := 1, cells := 0, slots := 0, locals := 23 }
set_option maxHeartbeats 4000000 in
set_option maxRecDepth 100000 in
theorem m_minds {l : Launch} {D : va_G} {cI cZ : ClassId} {sz : Nat} (Rf : Nat → Nat) (h : Nat) (G : Nat → Int32) (f0 : Nat → Int32) (hF : S_m_minds G f0) : KV l yX10_minds cX10_minds 2 rm_m_minds D cI cZ [.ref h] sz [(h, .inr (10, ML G Rf)), ((Rf 0), .inl (cI, 1302, .inl f0))] (fun (u : (Nat → Int32) × (Nat → Int32)) => u = f_m_minds G f0) (fun (u : (Nat → Int32) × (Nat → Int32)) => [(h, .inr (10, ML u.1 Rf)), ((Rf 0), .inl (cI, 1302, .inl u.2))]) := by
  refine KV.go rfl (Nat.le_of_ble_eq_true rfl) ?_
  intro p e s m args below meth c ls A Q hx hb hml hts hown hin hP hK hD hS hA hN hl hret
  have hl : lv_has ls 2 [(0, .ref h)] := hl
  rw [S_m_minds] at hF
  obtain ⟨RES, hE⟩ : ∃ xRES, f_m_minds G f0 = xRES := ⟨_, rfl⟩
  rw [hE] at hret
  rw [f_m_minds] at hE
  refine lv_aload_n hx hb dX10_minds_0 rfl (lv_at hl 0 rfl) ?_
  refine va_get (D := D) (ci := 10) (v := .int (G 2)) (C := RX10) (T := TX10) (N := 45) hx hb hts iX10 hown hK hP 0 rfl rfl 2 (Nat.le_of_ble_eq_true rfl) (hts _ wd_556) (fun _ h9 => h9) rfl dX10_minds_1 ?_
  refine lv_bipush (v := 20) hx hb dX10_minds_4 rfl ?_
  refine lv_icmp_ne (tgt := 57) hx hb dX10_minds_6 rfl (fun c_1 => ?_) (fun c_1 => ?_)
  · replace hF := hF.2 c_1
    rw [if_neg c_1] at hE
    refine lv_aload_n hx hb dX10_minds_57 rfl (lv_at hl 0 rfl) ?_
    refine lv_iconst (v := 0) hx hb dX10_minds_58 rfl ?_
    refine lv_sipush (v := 462) hx hb dX10_minds_59 rfl ?_
    refine lv_bipush (v := 42) hx hb dX10_minds_62 rfl ?_
    refine lv_aload_n hx hb dX10_minds_64 rfl (lv_at hl 0 rfl) ?_
    refine va_get (D := D) (ci := 10) (v := .int (G 2)) (C := RX10) (T := TX10) (N := 45) hx hb hts iX10 hown hK hP 0 rfl rfl 2 (Nat.le_of_ble_eq_true rfl) (hts _ wd_556) (fun _ h9 => h9) rfl dX10_minds_65 ?_
    refine lv_imul hx hb dX10_minds_68 ?_
    refine lv_iadd hx hb dX10_minds_69 ?_
    obtain ⟨hs_2, hF⟩ := hF
    refine cVv (wr := []) (rest := []) (m_copy Rf h G f0 0 (462 + (42 * (G 2))) hs_2) okV_X10_copy wd_557 hx hb hml hown hts hK hP hD hS hA hN hl.1 [0, 1] [] rfl rfl rfl rfl (of_decide_eq_true rfl) rfl rfl rfl (Nat.le_of_ble_eq_true rfl) (Nat.le_of_ble_eq_true rfl) (Nat.le_of_ble_eq_true rfl) (Nat.le_of_ble_eq_true rfl) (Nat.le_of_ble_eq_true rfl) dX10_minds_70 (fun u_3 H locs hw_u_3 hP hD hS => ?_)
    replace hw_u_3 : u_3 = (f_m_copy f0 0 (462 + (42 * (G 2)))) := hw_u_3
    subst hw_u_3
    have hP : va_P D classes [(h, .inr (10, ML G Rf)), ((Rf 0), .inl (cI, 1302, .inl (f_m_copy f0 0 (462 + (42 * (G 2))))))] H := hP
    have hD : va_D A [(h, .inr (10, ML G Rf)), ((Rf 0), .inl (cI, 1302, .inl (f_m_copy f0 0 (462 + (42 * (G 2))))))] := hD
    refine lv_aload_n hx hb dX10_minds_73 rfl (lv_at hl 0 rfl) ?_
    refine lv_dup hx hb dX10_minds_74 rfl ?_
    refine va_get (D := D) (ci := 10) (v := .int (G 2)) (C := RX10) (T := TX10) (N := 45) hx hb hts iX10 hown hK hP 0 rfl rfl 2 (Nat.le_of_ble_eq_true rfl) (hts _ wd_556) (fun _ h9 => h9) rfl dX10_minds_75 ?_
    refine lv_iconst (v := 1) hx hb dX10_minds_78 rfl ?_
    refine lv_iadd hx hb dX10_minds_79 ?_
    refine va_put (D := D) (ci := 10) (v := .int ((G 2) + 1)) (ty := .int) (C := RX10) (T := TX10) (N := 45) hx hb hts iX10 tyX10 tyX10_ok nmX10 hown hK hP hD hS 0 rfl rfl 2 (Nat.le_of_ble_eq_true rfl) (hts _ wd_556) (fun _ h9 => h9) rfl (by decide +kernel) rfl rfl (Nat.le_of_ble_eq_true rfl) dX10_minds_80 (fun H locs hP hD hS => ?_)
    have hP : va_P D classes [(h, .inr (10, ML (upd G 2 ((G 2) + 1)) Rf)), ((Rf 0), .inl (cI, 1302, .inl (f_m_copy f0 0 (462 + (42 * (G 2))))))] H := hP
    have hD : va_D A [(h, .inr (10, ML (upd G 2 ((G 2) + 1)) Rf)), ((Rf 0), .inl (cI, 1302, .inl (f_m_copy f0 0 (462 + (42 * (G 2))))))] := hD
    exact hret ((upd G 2 ((G 2) + 1)), (f_m_copy f0 0 (462 + (42 * (G 2))))) _ _ _ _ dX10_minds_83 hE hP hD hS
  · replace hF := hF.1 c_1
    rw [if_pos c_1] at hE
    refine lv_iconst (v := 0) hx hb dX10_minds_9 rfl ?_
    refine lv_istore_n (lv' := [(1, .int 0), (0, .ref h)]) hx hb dX10_minds_10 rfl hl (Nat.le_of_ble_eq_true rfl) rfl (fun ls hl => ?_)
    have ex_11_w_5 : ∀ (w_5l1 : Int32) (w_5m0 : (Nat → Int32)) (w_5m1 : (Nat → Int32)) (H : Heap) (locs : List Loc) (ls : Array Slot), va_P D classes [(h, .inr (10, ML w_5m0 Rf)), ((Rf 0), .inl (cI, 1302, .inl w_5m1))] H → va_D A [(h, .inr (10, ML w_5m0 Rf)), ((Rf 0), .inl (cI, 1302, .inl w_5m1))] → va_S A s.heap H locs → lv_has ls 2 [(1, .int w_5l1), (0, .ref h)] → (((S_m_copy w_5m1 0 (462 + (42 * ((w_5m0 2) - 1)))) ∧ True)) → ((((upd (upd w_5m0 2 ((w_5m0 2) - 1)) 2 (((upd w_5m0 2 ((w_5m0 2) - 1)) 2) + 1)), (f_m_copy w_5m1 0 (462 + (42 * ((w_5m0 2) - 1)))))) : (Nat → Int32) × (Nat → Int32)) = RES → W p l e rm_m_minds s m args below meth c H locs 0 0 Q (F0 m 47 ls []) := by
      intro w_5l1 w_5m0 w_5m1 H locs ls hP hD hS hl hF hE
      refine lv_aload_n hx hb dX10_minds_47 rfl (lv_at hl 1 rfl) ?_
      refine lv_dup hx hb dX10_minds_48 rfl ?_
      refine va_get (D := D) (ci := 10) (v := .int (w_5m0 2)) (C := RX10) (T := TX10) (N := 45) hx hb hts iX10 hown hK hP 0 rfl rfl 2 (Nat.le_of_ble_eq_true rfl) (hts _ wd_556) (fun _ h9 => h9) rfl dX10_minds_49 ?_
      refine lv_iconst (v := 1) hx hb dX10_minds_52 rfl ?_
      refine lv_isub hx hb dX10_minds_53 ?_
      refine va_put (D := D) (ci := 10) (v := .int ((w_5m0 2) - 1)) (ty := .int) (C := RX10) (T := TX10) (N := 45) hx hb hts iX10 tyX10 tyX10_ok nmX10 hown hK hP hD hS 0 rfl rfl 2 (Nat.le_of_ble_eq_true rfl) (hts _ wd_556) (fun _ h9 => h9) rfl (by decide +kernel) rfl rfl (Nat.le_of_ble_eq_true rfl) dX10_minds_54 (fun H locs hP hD hS => ?_)
      have hP : va_P D classes [(h, .inr (10, ML (upd w_5m0 2 ((w_5m0 2) - 1)) Rf)), ((Rf 0), .inl (cI, 1302, .inl w_5m1))] H := hP
      have hD : va_D A [(h, .inr (10, ML (upd w_5m0 2 ((w_5m0 2) - 1)) Rf)), ((Rf 0), .inl (cI, 1302, .inl w_5m1))] := hD
      refine lv_aload_n hx hb dX10_minds_57 rfl (lv_at hl 1 rfl) ?_
      refine lv_iconst (v := 0) hx hb dX10_minds_58 rfl ?_
      refine lv_sipush (v := 462) hx hb dX10_minds_59 rfl ?_
      refine lv_bipush (v := 42) hx hb dX10_minds_62 rfl ?_
      refine lv_aload_n hx hb dX10_minds_64 rfl (lv_at hl 1 rfl) ?_
      refine va_get (D := D) (ci := 10) (v := .int ((w_5m0 2) - 1)) (C := RX10) (T := TX10) (N := 45) hx hb hts iX10 hown hK hP 0 rfl rfl 2 (Nat.le_of_ble_eq_true rfl) (hts _ wd_556) (fun _ h9 => h9) rfl dX10_minds_65 ?_
      refine lv_imul hx hb dX10_minds_68 ?_
      refine lv_iadd hx hb dX10_minds_69 ?_
      obtain ⟨hs_6, hF⟩ := hF
      refine cVv (wr := []) (rest := []) (m_copy Rf h (upd w_5m0 2 ((w_5m0 2) - 1)) w_5m1 0 (462 + (42 * ((w_5m0 2) - 1))) hs_6) okV_X10_copy wd_557 hx hb hml hown hts hK hP hD hS hA hN hl.1 [0, 1] [] rfl rfl rfl rfl (of_decide_eq_true rfl) rfl rfl rfl (Nat.le_of_ble_eq_true rfl) (Nat.le_of_ble_eq_true rfl) (Nat.le_of_ble_eq_true rfl) (Nat.le_of_ble_eq_true rfl) (Nat.le_of_ble_eq_true rfl) dX10_minds_70 (fun u_7 H locs hw_u_7 hP hD hS => ?_)
      replace hw_u_7 : u_7 = (f_m_copy w_5m1 0 (462 + (42 * ((w_5m0 2) - 1)))) := hw_u_7
      subst hw_u_7
      have hP : va_P D classes [(h, .inr (10, ML (upd w_5m0 2 ((w_5m0 2) - 1)) Rf)), ((Rf 0), .inl (cI, 1302, .inl (f_m_copy w_5m1 0 (462 + (42 * ((w_5m0 2) - 1))))))] H := hP
      have hD : va_D A [(h, .inr (10, ML (upd w_5m0 2 ((w_5m0 2) - 1)) Rf)), ((Rf 0), .inl (cI, 1302, .inl (f_m_copy w_5m1 0 (462 + (42 * ((w_5m0 2) - 1))))))] := hD
      refine lv_aload_n hx hb dX10_minds_73 rfl (lv_at hl 1 rfl) ?_
      refine lv_dup hx hb dX10_minds_74 rfl ?_
      refine va_get (D := D) (ci := 10) (v := .int ((upd w_5m0 2 ((w_5m0 2) - 1)) 2)) (C := RX10) (T := TX10) (N := 45) hx hb hts iX10 hown hK hP 0 rfl rfl 2 (Nat.le_of_ble_eq_true rfl) (hts _ wd_556) (fun _ h9 => h9) rfl dX10_minds_75 ?_
      refine lv_iconst (v := 1) hx hb dX10_minds_78 rfl ?_
      refine lv_iadd hx hb dX10_minds_79 ?_
      refine va_put (D := D) (ci := 10) (v := .int (((upd w_5m0 2 ((w_5m0 2) - 1)) 2) + 1)) (ty := .int) (C := RX10) (T := TX10) (N := 45) hx hb hts iX10 tyX10 tyX10_ok nmX10 hown hK hP hD hS 0 rfl rfl 2 (Nat.le_of_ble_eq_true rfl) (hts _ wd_556) (fun _ h9 => h9) rfl (by decide +kernel) rfl rfl (Nat.le_of_ble_eq_true rfl) dX10_minds_80 (fun H locs hP hD hS => ?_)
      have hP : va_P D classes [(h, .inr (10, ML (upd (upd w_5m0 2 ((w_5m0 2) - 1)) 2 (((upd w_5m0 2 ((w_5m0 2) - 1)) 2) + 1)) Rf)), ((Rf 0), .inl (cI, 1302, .inl (f_m_copy w_5m1 0 (462 + (42 * ((w_5m0 2) - 1))))))] H := hP
      have hD : va_D A [(h, .inr (10, ML (upd (upd w_5m0 2 ((w_5m0 2) - 1)) 2 (((upd w_5m0 2 ((w_5m0 2) - 1)) 2) + 1)) Rf)), ((Rf 0), .inl (cI, 1302, .inl (f_m_copy w_5m1 0 (462 + (42 * ((w_5m0 2) - 1))))))] := hD
      exact hret ((upd (upd w_5m0 2 ((w_5m0 2) - 1)) 2 (((upd w_5m0 2 ((w_5m0 2) - 1)) 2) + 1)), (f_m_copy w_5m1 0 (462 + (42 * ((w_5m0 2) - 1))))) _ _ _ _ dX10_minds_83 hE hP hD hS
    have lp_11_w_5 : ∀ (n_w_5 : Nat) (w_5l1 : Int32) (w_5m0 : (Nat → Int32)) (w_5m1 : (Nat → Int32)) (H : Heap) (locs : List Loc) (ls : Array Slot), va_P D classes [(h, .inr (10, ML w_5m0 Rf)), ((Rf 0), .inl (cI, 1302, .inl w_5m1))] H → va_D A [(h, .inr (10, ML w_5m0 Rf)), ((Rf 0), .inl (cI, 1302, .inl w_5m1))] → va_S A s.heap H locs → lv_has ls 2 [(1, .int w_5l1), (0, .ref h)] → (S_m_minds_11  (fun (w_5l1 : Int32) (w_5m0 : (Nat → Int32)) (w_5m1 : (Nat → Int32)) => ((S_m_copy w_5m1 0 (462 + (42 * ((w_5m0 2) - 1)))) ∧ True)) n_w_5 w_5l1 w_5m0 w_5m1) → ((798 : Int32).toInt - (w_5l1 : Int32).toInt).toNat < n_w_5 → ((match ((f_m_minds_11  n_w_5 w_5l1 w_5m0 w_5m1) : Int32 × (Nat → Int32) × (Nat → Int32)) with | (w_5l1, w_5m0, w_5m1) => ((upd (upd w_5m0 2 ((w_5m0 2) - 1)) 2 (((upd w_5m0 2 ((w_5m0 2) - 1)) 2) + 1)), (f_m_copy w_5m1 0 (462 + (42 * ((w_5m0 2) - 1)))))) : (Nat → Int32) × (Nat → Int32)) = RES → W p l e rm_m_minds s m args below meth c H locs 0 0 Q (F0 m 11 ls []) := by
      intro n_w_5
      induction n_w_5 with
      | zero => intro w_5l1 w_5m0 w_5m1 H locs ls hP hD hS hl hF hm; exact absurd hm (Nat.not_lt_zero _)
      | succ n_w_5 ih_w_5 =>
        intro w_5l1 w_5m0 w_5m1 H locs ls hP hD hS hl hF hm hE
        rw [S_m_minds_11_s] at hF
        rw [f_m_minds_11_s] at hE
        refine lv_iload_n hx hb dX10_minds_11 rfl (lv_at hl 0 rfl) ?_
        refine lv_sipush (v := 798) hx hb dX10_minds_12 rfl ?_
        refine lv_icmp_ge (tgt := 47) hx hb dX10_minds_15 rfl (fun c_9 => ?_) (fun c_9 => ?_)
        · replace hF := hF.1 c_9
          rw [if_pos c_9] at hE
          exact ex_11_w_5 w_5l1 w_5m0 w_5m1 _ _ ls hP hD hS (lv_sub hl [0, 1] rfl) hF hE
        · replace hF := hF.2 c_9
          rw [if_neg c_9] at hE
          refine lv_aload_n hx hb dX10_minds_18 rfl (lv_at hl 1 rfl) ?_
          refine va_get (D := D) (ci := 10) (v := .ref (Rf 0)) (C := RX10) (T := TX10) (N := 45) hx hb hts iX10 hown hK hP 0 rfl rfl 0 (Nat.le_of_ble_eq_true rfl) (hts _ wd_491) (fun _ h9 => h9) rfl dX10_minds_19 ?_
          refine lv_sipush (v := 462) hx hb dX10_minds_22 rfl ?_
          refine lv_iload_n hx hb dX10_minds_25 rfl (lv_at hl 0 rfl) ?_
          refine lv_iadd hx hb dX10_minds_26 ?_
          refine lv_aload_n hx hb dX10_minds_27 rfl (lv_at hl 1 rfl) ?_
          refine va_get (D := D) (ci := 10) (v := .ref (Rf 0)) (C := RX10) (T := TX10) (N := 45) hx hb hts iX10 hown hK hP 0 rfl rfl 0 (Nat.le_of_ble_eq_true rfl) (hts _ wd_491) (fun _ h9 => h9) rfl dX10_minds_28 ?_
          refine lv_sipush (v := 462) hx hb dX10_minds_31 rfl ?_
          refine lv_iload_n hx hb dX10_minds_34 rfl (lv_at hl 0 rfl) ?_
          refine lv_iadd hx hb dX10_minds_35 ?_
          refine lv_bipush (v := 42) hx hb dX10_minds_36 rfl ?_
          refine lv_iadd hx hb dX10_minds_38 ?_
          obtain ⟨hv_10, hF⟩ := hF
          refine va_iald hx hb hK hP 1 0 rfl rfl hv_10 dX10_minds_39 ?_
          obtain ⟨hv_11, hF⟩ := hF
          refine va_iast hx hb hK hP hD hS 1 0 rfl rfl hv_11 dX10_minds_40 (fun H locs hP hD hS => ?_)
          have hP : va_P D classes [(h, .inr (10, ML w_5m0 Rf)), ((Rf 0), .inl (cI, 1302, .inl (upd w_5m1 ((462 + w_5l1) : Int32).toNatClampNeg (w_5m1 (((462 + w_5l1) + 42) : Int32).toNatClampNeg))))] H := hP
          have hD : va_D A [(h, .inr (10, ML w_5m0 Rf)), ((Rf 0), .inl (cI, 1302, .inl (upd w_5m1 ((462 + w_5l1) : Int32).toNatClampNeg (w_5m1 (((462 + w_5l1) + 42) : Int32).toNatClampNeg))))] := hD
          refine lv_iinc (v := (w_5l1 + 1)) (lv' := [(1, .int (w_5l1 + 1)), (0, .ref h)]) hx hb dX10_minds_41 hl (k := 0) rfl rfl (Nat.le_of_ble_eq_true rfl) rfl (fun ls hl => ?_)
          refine lv_goto (tgt := 11) hx hb dX10_minds_44 rfl ?_
          exact ih_w_5 (w_5l1 + 1) w_5m0 (upd w_5m1 ((462 + w_5l1) : Int32).toNatClampNeg (w_5m1 (((462 + w_5l1) + 42) : Int32).toNatClampNeg)) _ _ ls hP hD hS (lv_sub hl [0, 1] rfl) hF (up_step c_9 hm) hE
    exact lp_11_w_5 (((798 : Int32).toInt - (0 : Int32).toInt).toNat + 1) 0 G f0 _ _ ls hP hD hS hl hF (Nat.lt_succ_self _) hE
end
section
def fw_cX10_begins : List (List Nat) := [[42, 180, 0, 7, 16, 41, 46, 60, 3, 61, 28, 16, 42, 162, 0, 16, 42, 180], [42, 180, 0, 7, 28, 3, 79, 132, 2, 1, 167, 255, 240, 3, 61, 28, 16, 6], [16, 6, 162, 0, 45, 42, 180, 0, 7, 3, 28, 96, 28, 42, 180, 0, 78, 162], [78, 162, 0, 12, 42, 180, 0, 24, 28, 46, 167, 0, 4, 3, 79, 42, 180, 0], [180, 0, 7, 16, 6, 28, 96, 2, 79, 132, 2, 1, 167, 255, 211, 3, 61, 28], [61, 28, 16, 7, 162, 0, 29, 42, 180, 0, 7, 16, 27, 28, 96, 2, 79, 42], [79, 42, 180, 0, 7, 16, 34, 28, 96, 2, 79, 132, 2, 1, 167, 255, 227, 42], [227, 42, 180, 0, 7, 16, 41, 27, 79, 177]]
theorem fW_cX10_begins : fq_wins 8 cX10_begins.data.toList = fw_cX10_begins := by decide +kernel
theorem fk_cX10_begins_0 : fq_ck cX10_begins 0 [42, 180, 0, 7, 16, 41, 46, 60, 3, 61, 28, 16, 42, 162, 0, 16, 42, 180] := fq_of fW_cX10_begins 0 rfl rfl
theorem dX10_begins_0 : decode cX10_begins 0 = .ok (.aload_n 0, 1) := fq_42 fk_cX10_begins_0 0 rfl rfl
theorem dX10_begins_1 : decode cX10_begins 1 = .ok (.getfield 7, 3) := fq_180 fk_cX10_begins_0 1 rfl rfl rfl rfl rfl
theorem dX10_begins_4 : decode cX10_begins 4 = .ok (.bipush 41, 2) := fq_16 fk_cX10_begins_0 4 rfl rfl rfl rfl
theorem dX10_begins_6 : decode cX10_begins 6 = .ok (.iaload, 1) := fq_46 fk_cX10_begins_0 6 rfl rfl
theorem dX10_begins_7 : decode cX10_begins 7 = .ok (.istore_n 1, 1) := fq_60 fk_cX10_begins_0 7 rfl rfl
theorem dX10_begins_8 : decode cX10_begins 8 = .ok (.iconst 0, 1) := fq_3 fk_cX10_begins_0 8 rfl rfl
theorem dX10_begins_9 : decode cX10_begins 9 = .ok (.istore_n 2, 1) := fq_61 fk_cX10_begins_0 9 rfl rfl
theorem fk_cX10_begins_1 : fq_ck cX10_begins 16 [42, 180, 0, 7, 28, 3, 79, 132, 2, 1, 167, 255, 240, 3, 61, 28, 16, 6] := fq_of fW_cX10_begins 1 rfl rfl
theorem dX10_begins_29 : decode cX10_begins 29 = .ok (.iconst 0, 1) := fq_3 fk_cX10_begins_1 13 rfl rfl
theorem dX10_begins_30 : decode cX10_begins 30 = .ok (.istore_n 2, 1) := fq_61 fk_cX10_begins_1 14 rfl rfl
theorem fk_cX10_begins_4 : fq_ck cX10_begins 64 [180, 0, 7, 16, 6, 28, 96, 2, 79, 132, 2, 1, 167, 255, 211, 3, 61, 28] := fq_of fW_cX10_begins 4 rfl rfl
theorem dX10_begins_79 : decode cX10_begins 79 = .ok (.iconst 0, 1) := fq_3 fk_cX10_begins_4 15 rfl rfl
theorem fk_cX10_begins_5 : fq_ck cX10_begins 80 [61, 28, 16, 7, 162, 0, 29, 42, 180, 0, 7, 16, 27, 28, 96, 2, 79, 42] := fq_of fW_cX10_begins 5 rfl rfl
theorem dX10_begins_80 : decode cX10_begins 80 = .ok (.istore_n 2, 1) := fq_61 fk_cX10_begins_5 0 rfl rfl
theorem fk_cX10_begins_7 : fq_ck cX10_begins 112 [227, 42, 180, 0, 7, 16, 41, 27, 79, 177] := fq_of fW_cX10_begins 7 rfl rfl
theorem dX10_begins_113 : decode cX10_begins 113 = .ok (.aload_n 0, 1) := fq_42 fk_cX10_begins_7 1 rfl rfl
theorem dX10_begins_114 : decode cX10_begins 114 = .ok (.getfield 7, 3) := fq_180 fk_cX10_begins_7 2 rfl rfl rfl rfl rfl
theorem dX10_begins_117 : decode cX10_begins 117 = .ok (.bipush 41, 2) := fq_16 fk_cX10_begins_7 5 rfl rfl rfl rfl
theorem dX10_begins_119 : decode cX10_begins 119 = .ok (.iload_n 1, 1) := fq_27 fk_cX10_begins_7 7 rfl rfl
theorem dX10_begins_120 : decode cX10_begins 120 = .ok (.iastore, 1) := fq_79 fk_cX10_begins_7 8 rfl rfl
theorem dX10_begins_121 : decode cX10_begins 121 = .ok (.return_, 1) := fq_177 fk_cX10_begins_7 9 rfl rfl
theorem dX10_begins_81 : decode cX10_begins 81 = .ok (.iload_n 2, 1) := fq_28 fk_cX10_begins_5 1 rfl rfl
theorem dX10_begins_82 : decode cX10_begins 82 = .ok (.bipush 7, 2) := fq_16 fk_cX10_begins_5 2 rfl rfl rfl rfl
theorem dX10_begins_84 : decode cX10_begins 84 = .ok (.if_icmp .ge 29, 3) := fq_162 fk_cX10_begins_5 4 rfl rfl rfl rfl rfl
theorem dX10_begins_87 : decode cX10_begins 87 = .ok (.aload_n 0, 1) := fq_42 fk_cX10_begins_5 7 rfl rfl
theorem dX10_begins_88 : decode cX10_begins 88 = .ok (.getfield 7, 3) := fq_180 fk_cX10_begins_5 8 rfl rfl rfl rfl rfl
theorem dX10_begins_91 : decode cX10_begins 91 = .ok (.bipush 27, 2) := fq_16 fk_cX10_begins_5 11 rfl rfl rfl rfl
theorem dX10_begins_93 : decode cX10_begins 93 = .ok (.iload_n 2, 1) := fq_28 fk_cX10_begins_5 13 rfl rfl
theorem dX10_begins_94 : decode cX10_begins 94 = .ok (.iadd, 1) := fq_96 fk_cX10_begins_5 14 rfl rfl
theorem dX10_begins_95 : decode cX10_begins 95 = .ok (.iconst (-1), 1) := fq_2 fk_cX10_begins_5 15 rfl rfl
theorem fk_cX10_begins_6 : fq_ck cX10_begins 96 [79, 42, 180, 0, 7, 16, 34, 28, 96, 2, 79, 132, 2, 1, 167, 255, 227, 42] := fq_of fW_cX10_begins 6 rfl rfl
theorem dX10_begins_96 : decode cX10_begins 96 = .ok (.iastore, 1) := fq_79 fk_cX10_begins_6 0 rfl rfl
theorem dX10_begins_97 : decode cX10_begins 97 = .ok (.aload_n 0, 1) := fq_42 fk_cX10_begins_6 1 rfl rfl
theorem dX10_begins_98 : decode cX10_begins 98 = .ok (.getfield 7, 3) := fq_180 fk_cX10_begins_6 2 rfl rfl rfl rfl rfl
theorem dX10_begins_101 : decode cX10_begins 101 = .ok (.bipush 34, 2) := fq_16 fk_cX10_begins_6 5 rfl rfl rfl rfl
theorem dX10_begins_103 : decode cX10_begins 103 = .ok (.iload_n 2, 1) := fq_28 fk_cX10_begins_6 7 rfl rfl
theorem dX10_begins_104 : decode cX10_begins 104 = .ok (.iadd, 1) := fq_96 fk_cX10_begins_6 8 rfl rfl
theorem dX10_begins_105 : decode cX10_begins 105 = .ok (.iconst (-1), 1) := fq_2 fk_cX10_begins_6 9 rfl rfl
theorem dX10_begins_106 : decode cX10_begins 106 = .ok (.iastore, 1) := fq_79 fk_cX10_begins_6 10 rfl rfl
theorem dX10_begins_107 : decode cX10_begins 107 = .ok (.iinc 2 1, 3) := fq_132 fk_cX10_begins_6 11 rfl rfl rfl rfl rfl
theorem dX10_begins_110 : decode cX10_begins 110 = .ok (.goto (-29), 3) := fq_167 fk_cX10_begins_6 14 rfl rfl rfl rfl rfl
theorem dX10_begins_31 : decode cX10_begins 31 = .ok (.iload_n 2, 1) := fq_28 fk_cX10_begins_1 15 rfl rfl
theorem fk_cX10_begins_2 : fq_ck cX10_begins 32 [16, 6, 162, 0, 45, 42, 180, 0, 7, 3, 28, 96, 28, 42, 180, 0, 78, 162] := fq_of fW_cX10_begins 2 rfl rfl
theorem dX10_begins_32 : decode cX10_begins 32 = .ok (.bipush 6, 2) := fq_16 fk_cX10_begins_2 0 rfl rfl rfl rfl
theorem dX10_begins_34 : decode cX10_begins 34 = .ok (.if_icmp .ge 45, 3) := fq_162 fk_cX10_begins_2 2 rfl rfl rfl rfl rfl
theorem dX10_begins_37 : decode cX10_begins 37 = .ok (.aload_n 0, 1) := fq_42 fk_cX10_begins_2 5 rfl rfl
theorem dX10_begins_38 : decode cX10_begins 38 = .ok (.getfield 7, 3) := fq_180 fk_cX10_begins_2 6 rfl rfl rfl rfl rfl
theorem dX10_begins_41 : decode cX10_begins 41 = .ok (.iconst 0, 1) := fq_3 fk_cX10_begins_2 9 rfl rfl
theorem dX10_begins_42 : decode cX10_begins 42 = .ok (.iload_n 2, 1) := fq_28 fk_cX10_begins_2 10 rfl rfl
theorem dX10_begins_43 : decode cX10_begins 43 = .ok (.iadd, 1) := fq_96 fk_cX10_begins_2 11 rfl rfl
theorem dX10_begins_44 : decode cX10_begins 44 = .ok (.iload_n 2, 1) := fq_28 fk_cX10_begins_2 12 rfl rfl
theorem dX10_begins_45 : decode cX10_begins 45 = .ok (.aload_n 0, 1) := fq_42 fk_cX10_begins_2 13 rfl rfl
theorem dX10_begins_46 : decode cX10_begins 46 = .ok (.getfield 78, 3) := fq_180 fk_cX10_begins_2 14 rfl rfl rfl rfl rfl
theorem fk_cX10_begins_3 : fq_ck cX10_begins 48 [78, 162, 0, 12, 42, 180, 0, 24, 28, 46, 167, 0, 4, 3, 79, 42, 180, 0] := fq_of fW_cX10_begins 3 rfl rfl
theorem dX10_begins_49 : decode cX10_begins 49 = .ok (.if_icmp .ge 12, 3) := fq_162 fk_cX10_begins_3 1 rfl rfl rfl rfl rfl
theorem dX10_begins_61 : decode cX10_begins 61 = .ok (.iconst 0, 1) := fq_3 fk_cX10_begins_3 13 rfl rfl
theorem dX10_begins_62 : decode cX10_begins 62 = .ok (.iastore, 1) := fq_79 fk_cX10_begins_3 14 rfl rfl
theorem dX10_begins_63 : decode cX10_begins 63 = .ok (.aload_n 0, 1) := fq_42 fk_cX10_begins_3 15 rfl rfl
theorem dX10_begins_64 : decode cX10_begins 64 = .ok (.getfield 7, 3) := fq_180 fk_cX10_begins_4 0 rfl rfl rfl rfl rfl
theorem dX10_begins_67 : decode cX10_begins 67 = .ok (.bipush 6, 2) := fq_16 fk_cX10_begins_4 3 rfl rfl rfl rfl
theorem dX10_begins_69 : decode cX10_begins 69 = .ok (.iload_n 2, 1) := fq_28 fk_cX10_begins_4 5 rfl rfl
theorem dX10_begins_70 : decode cX10_begins 70 = .ok (.iadd, 1) := fq_96 fk_cX10_begins_4 6 rfl rfl
theorem dX10_begins_71 : decode cX10_begins 71 = .ok (.iconst (-1), 1) := fq_2 fk_cX10_begins_4 7 rfl rfl
theorem dX10_begins_72 : decode cX10_begins 72 = .ok (.iastore, 1) := fq_79 fk_cX10_begins_4 8 rfl rfl
theorem dX10_begins_73 : decode cX10_begins 73 = .ok (.iinc 2 1, 3) := fq_132 fk_cX10_begins_4 9 rfl rfl rfl rfl rfl
theorem dX10_begins_76 : decode cX10_begins 76 = .ok (.goto (-45), 3) := fq_167 fk_cX10_begins_4 12 rfl rfl rfl rfl rfl
theorem dX10_begins_52 : decode cX10_begins 52 = .ok (.aload_n 0, 1) := fq_42 fk_cX10_begins_3 4 rfl rfl
theorem wd_561 : Cond.fieldLink RX10 24 "QuarrelBridgesModel" "grief" "[I" ∈ BG := BG_at4 72 (by decide +kernel) rfl
theorem dX10_begins_53 : decode cX10_begins 53 = .ok (.getfield 24, 3) := fq_180 fk_cX10_begins_3 5 rfl rfl rfl rfl rfl
theorem dX10_begins_56 : decode cX10_begins 56 = .ok (.iload_n 2, 1) := fq_28 fk_cX10_begins_3 8 rfl rfl
theorem dX10_begins_57 : decode cX10_begins 57 = .ok (.iaload, 1) := fq_46 fk_cX10_begins_3 9 rfl rfl
theorem dX10_begins_58 : decode cX10_begins 58 = .ok (.goto 4, 3) := fq_167 fk_cX10_begins_3 10 rfl rfl rfl rfl rfl
theorem dX10_begins_10 : decode cX10_begins 10 = .ok (.iload_n 2, 1) := fq_28 fk_cX10_begins_0 10 rfl rfl
theorem dX10_begins_11 : decode cX10_begins 11 = .ok (.bipush 42, 2) := fq_16 fk_cX10_begins_0 11 rfl rfl rfl rfl
theorem dX10_begins_13 : decode cX10_begins 13 = .ok (.if_icmp .ge 16, 3) := fq_162 fk_cX10_begins_0 13 rfl rfl rfl rfl rfl
theorem dX10_begins_16 : decode cX10_begins 16 = .ok (.aload_n 0, 1) := fq_42 fk_cX10_begins_1 0 rfl rfl
theorem dX10_begins_17 : decode cX10_begins 17 = .ok (.getfield 7, 3) := fq_180 fk_cX10_begins_1 1 rfl rfl rfl rfl rfl
theorem dX10_begins_20 : decode cX10_begins 20 = .ok (.iload_n 2, 1) := fq_28 fk_cX10_begins_1 4 rfl rfl
theorem dX10_begins_21 : decode cX10_begins 21 = .ok (.iconst 0, 1) := fq_3 fk_cX10_begins_1 5 rfl rfl
theorem dX10_begins_22 : decode cX10_begins 22 = .ok (.iastore, 1) := fq_79 fk_cX10_begins_1 6 rfl rfl
theorem dX10_begins_23 : decode cX10_begins 23 = .ok (.iinc 2 1, 3) := fq_132 fk_cX10_begins_1 7 rfl rfl rfl rfl rfl
theorem dX10_begins_26 : decode cX10_begins 26 = .ok (.goto (-16), 3) := fq_167 fk_cX10_begins_1 10 rfl rfl rfl rfl rfl
noncomputable def f_m_begins_81  (n : Nat) : Int32 → (Nat → Int32) → Int32 × (Nat → Int32) := Nat.rec (motive := fun _ => Int32 → (Nat → Int32) → Int32 × (Nat → Int32)) (fun w_3l2 w_3m0 => (w_3l2, w_3m0)) (fun n ih w_3l2 w_3m0 => (if 7 ≤ w_3l2 then (w_3l2, w_3m0) else (ih (w_3l2 + 1) (upd (upd w_3m0 ((27 + w_3l2) : Int32).toNatClampNeg (-1)) ((34 + w_3l2) : Int32).toNatClampNeg (-1))))) n
theorem f_m_begins_81_s  (n : Nat) (w_3l2 : Int32) (w_3m0 : (Nat → Int32)) : f_m_begins_81  (n + 1) w_3l2 w_3m0 = (if 7 ≤ w_3l2 then (w_3l2, w_3m0) else (f_m_begins_81  n (w_3l2 + 1) (upd (upd w_3m0 ((27 + w_3l2) : Int32).toNatClampNeg (-1)) ((34 + w_3l2) : Int32).toNatClampNeg (-1)))) := rfl
def S_m_begins_81  (K : Int32 → (Nat → Int32) → Prop) (n : Nat) : Int32 → (Nat → Int32) → Prop := Nat.rec (motive := fun _ => Int32 → (Nat → Int32) → Prop) (fun _ _ => True) (fun n ih w_3l2 w_3m0 => ((7 ≤ w_3l2 → (K w_3l2 w_3m0)) ∧ (¬ 7 ≤ w_3l2 → (vp_in (27 + w_3l2) 1302 ∧ (vp_in (34 + w_3l2) 1302 ∧ (ih (w_3l2 + 1) (upd (upd w_3m0 ((27 + w_3l2) : Int32).toNatClampNeg (-1)) ((34 + w_3l2) : Int32).toNatClampNeg (-1)))))))) n
theorem S_m_begins_81_s  (K : Int32 → (Nat → Int32) → Prop) (n : Nat) (w_3l2 : Int32) (w_3m0 : (Nat → Int32)) : S_m_begins_81  K (n + 1) w_3l2 w_3m0 = (((7 ≤ w_3l2 → (K w_3l2 w_3m0)) ∧ (¬ 7 ≤ w_3l2 → (vp_in (27 + w_3l2) 1302 ∧ (vp_in (34 + w_3l2) 1302 ∧ (S_m_begins_81  K n (w_3l2 + 1) (upd (upd w_3m0 ((27 + w_3l2) : Int32).toNatClampNeg (-1)) ((34 + w_3l2) : Int32).toNatClampNeg (-1)))))))) := rfl
noncomputable def f_m_begins_31 (G : Nat → Int32) (f9 : Nat → Int32) (n : Nat) : Int32 → (Nat → Int32) → Int32 × (Nat → Int32) := Nat.rec (motive := fun _ => Int32 → (Nat → Int32) → Int32 × (Nat → Int32)) (fun w_2l2 w_2m0 => (w_2l2, w_2m0)) (fun n ih w_2l2 w_2m0 => (if 6 ≤ w_2l2 then (w_2l2, w_2m0) else (if (G 5) ≤ w_2l2 then (ih (w_2l2 + 1) (upd (upd w_2m0 ((0 + w_2l2) : Int32).toNatClampNeg 0) ((6 + w_2l2) : Int32).toNatClampNeg (-1))) else (ih (w_2l2 + 1) (upd (upd w_2m0 ((0 + w_2l2) : Int32).toNatClampNeg (f9 (w_2l2 : Int32).toNatClampNeg)) ((6 + w_2l2) : Int32).toNatClampNeg (-1)))))) n
theorem f_m_begins_31_s (G : Nat → Int32) (f9 : Nat → Int32) (n : Nat) (w_2l2 : Int32) (w_2m0 : (Nat → Int32)) : f_m_begins_31 G f9 (n + 1) w_2l2 w_2m0 = (if 6 ≤ w_2l2 then (w_2l2, w_2m0) else (if (G 5) ≤ w_2l2 then (f_m_begins_31 G f9 n (w_2l2 + 1) (upd (upd w_2m0 ((0 + w_2l2) : Int32).toNatClampNeg 0) ((6 + w_2l2) : Int32).toNatClampNeg (-1))) else (f_m_begins_31 G f9 n (w_2l2 + 1) (upd (upd w_2m0 ((0 + w_2l2) : Int32).toNatClampNeg (f9 (w_2l2 : Int32).toNatClampNeg)) ((6 + w_2l2) : Int32).toNatClampNeg (-1))))) := rfl
def S_m_begins_31 (G : Nat → Int32) (f9 : Nat → Int32) (K : Int32 → (Nat → Int32) → Prop) (n : Nat) : Int32 → (Nat → Int32) → Prop := Nat.rec (motive := fun _ => Int32 → (Nat → Int32) → Prop) (fun _ _ => True) (fun n ih w_2l2 w_2m0 => ((6 ≤ w_2l2 → (K w_2l2 w_2m0)) ∧ (¬ 6 ≤ w_2l2 → (((G 5) ≤ w_2l2 → (vp_in (0 + w_2l2) 1302 ∧ (vp_in (6 + w_2l2) 1302 ∧ (ih (w_2l2 + 1) (upd (upd w_2m0 ((0 + w_2l2) : Int32).toNatClampNeg 0) ((6 + w_2l2) : Int32).toNatClampNeg (-1)))))) ∧ (¬ (G 5) ≤ w_2l2 → (vp_in w_2l2 6 ∧ (vp_in (0 + w_2l2) 1302 ∧ (vp_in (6 + w_2l2) 1302 ∧ (ih (w_2l2 + 1) (upd (upd w_2m0 ((0 + w_2l2) : Int32).toNatClampNeg (f9 (w_2l2 : Int32).toNatClampNeg)) ((6 + w_2l2) : Int32).toNatClampNeg (-1))))))))))) n
theorem S_m_begins_31_s (G : Nat → Int32) (f9 : Nat → Int32) (K : Int32 → (Nat → Int32) → Prop) (n : Nat) (w_2l2 : Int32) (w_2m0 : (Nat → Int32)) : S_m_begins_31 G f9 K (n + 1) w_2l2 w_2m0 = (((6 ≤ w_2l2 → (K w_2l2 w_2m0)) ∧ (¬ 6 ≤ w_2l2 → (((G 5) ≤ w_2l2 → (vp_in (0 + w_2l2) 1302 ∧ (vp_in (6 + w_2l2) 1302 ∧ (S_m_begins_31 G f9 K n (w_2l2 + 1) (upd (upd w_2m0 ((0 + w_2l2) : Int32).toNatClampNeg 0) ((6 + w_2l2) : Int32).toNatClampNeg (-1)))))) ∧ (¬ (G 5) ≤ w_2l2 → (vp_in w_2l2 6 ∧ (vp_in (0 + w_2l2) 1302 ∧ (vp_in (6 + w_2l2) 1302 ∧ (S_m_begins_31 G f9 K n (w_2l2 + 1) (upd (upd w_2m0 ((0 + w_2l2) : Int32).toNatClampNeg (f9 (w_2l2 : Int32).toNatClampNeg)) ((6 + w_2l2) : Int32).toNatClampNeg (-1))))))))))) := rfl
noncomputable def f_m_begins_10  (n : Nat) : Int32 → (Nat → Int32) → Int32 × (Nat → Int32) := Nat.rec (motive := fun _ => Int32 → (Nat → Int32) → Int32 × (Nat → Int32)) (fun w_1l2 w_1m0 => (w_1l2, w_1m0)) (fun n ih w_1l2 w_1m0 => (if 42 ≤ w_1l2 then (w_1l2, w_1m0) else (ih (w_1l2 + 1) (upd w_1m0 (w_1l2 : Int32).toNatClampNeg 0)))) n
theorem f_m_begins_10_s  (n : Nat) (w_1l2 : Int32) (w_1m0 : (Nat → Int32)) : f_m_begins_10  (n + 1) w_1l2 w_1m0 = (if 42 ≤ w_1l2 then (w_1l2, w_1m0) else (f_m_begins_10  n (w_1l2 + 1) (upd w_1m0 (w_1l2 : Int32).toNatClampNeg 0))) := rfl
def S_m_begins_10  (K : Int32 → (Nat → Int32) → Prop) (n : Nat) : Int32 → (Nat → Int32) → Prop := Nat.rec (motive := fun _ => Int32 → (Nat → Int32) → Prop) (fun _ _ => True) (fun n ih w_1l2 w_1m0 => ((42 ≤ w_1l2 → (K w_1l2 w_1m0)) ∧ (¬ 42 ≤ w_1l2 → (vp_in w_1l2 1302 ∧ (ih (w_1l2 + 1) (upd w_1m0 (w_1l2 : Int32).toNatClampNeg 0)))))) n
theorem S_m_begins_10_s  (K : Int32 → (Nat → Int32) → Prop) (n : Nat) (w_1l2 : Int32) (w_1m0 : (Nat → Int32)) : S_m_begins_10  K (n + 1) w_1l2 w_1m0 = (((42 ≤ w_1l2 → (K w_1l2 w_1m0)) ∧ (¬ 42 ≤ w_1l2 → (vp_in w_1l2 1302 ∧ (S_m_begins_10  K n (w_1l2 + 1) (upd w_1m0 (w_1l2 : Int32).toNatClampNeg 0)))))) := rfl
noncomputable def f_m_begins (G : Nat → Int32) (f0 : Nat → Int32) (f9 : Nat → Int32) : (Nat → Int32) := (match ((f_m_begins_10  (((42 : Int32).toInt - (0 : Int32).toInt).toNat + 1) 0 f0) : Int32 × (Nat → Int32)) with | (w_1l2, w_1m0) => (match ((f_m_begins_31 G f9 (((6 : Int32).toInt - (0 : Int32).toInt).toNat + 1) 0 w_1m0) : Int32 × (Nat → Int32)) with | (w_2l2, w_2m0) => (match ((f_m_begins_81  (((7 : Int32).toInt - (0 : Int32).toInt).toNat + 1) 0 w_2m0) : Int32 × (Nat → Int32)) with | (w_3l2, w_3m0) => (upd w_3m0 (41 : Int32).toNatClampNeg (f0 (41 : Int32).toNatClampNeg)))))
def S_m_begins (G : Nat → Int32) (f0 : Nat → Int32) (f9 : Nat → Int32) : Prop := (S_m_begins_10  (fun (w_1l2 : Int32) (w_1m0 : (Nat → Int32)) => (S_m_begins_31 G f9 (fun (w_2l2 : Int32) (w_2m0 : (Nat → Int32)) => (S_m_begins_81  (fun (w_3l2 : Int32) (w_3m0 : (Nat → Int32)) => True) (((7 : Int32).toInt - (0 : Int32).toInt).toNat + 1) 0 w_2m0)) (((6 : Int32).toInt - (0 : Int32).toInt).toNat + 1) 0 w_1m0)) (((42 : Int32).toInt - (0 : Int32).toInt).toNat + 1) 0 f0)
def rm_m_begins : Room := { frames := 0, cells := 0, slots := 0, locals := 0 }
set_option maxHeartbeats 4000000 in
set_option maxRecDepth 100000 in
theorem m_begins {l : Launch} {D : va_G} {cI cZ : ClassId} {sz : Nat} (Rf : Nat → Nat) (h : Nat) (G : Nat → Int32) (f0 : Nat → Int32) (f9 : Nat → Int32) (hF : S_m_begins G f0 f9) : KV l yX10_begins cX10_begins 3 rm_m_begins D cI cZ [.ref h] sz [(h, .inr (10, ML G Rf)), ((Rf 0), .inl (cI, 1302, .inl f0)), ((Rf 9), .inl (cI, 6, .inl f9))] (fun (u : (Nat → Int32)) => u = f_m_begins G f0 f9) (fun (u : (Nat → Int32)) => [(h, .inr (10, ML G Rf)), ((Rf 0), .inl (cI, 1302, .inl u)), ((Rf 9), .inl (cI, 6, .inl f9))]) := by
  refine KV.go rfl (Nat.le_of_ble_eq_true rfl) ?_
  intro p e s m args below meth c ls A Q hx hb hml hts hown hin hP hK hD hS hA hN hl hret
  have hl : lv_has ls 3 [(0, .ref h)] := hl
  rw [S_m_begins] at hF
  obtain ⟨RES, hE⟩ : ∃ xRES, f_m_begins G f0 f9 = xRES := ⟨_, rfl⟩
  rw [hE] at hret
  rw [f_m_begins] at hE
  refine lv_aload_n hx hb dX10_begins_0 rfl (lv_at hl 0 rfl) ?_
  refine va_get (D := D) (ci := 10) (v := .ref (Rf 0)) (C := RX10) (T := TX10) (N := 45) hx hb hts iX10 hown hK hP 0 rfl rfl 0 (Nat.le_of_ble_eq_true rfl) (hts _ wd_491) (fun _ h9 => h9) rfl dX10_begins_1 ?_
  refine lv_bipush (v := 41) hx hb dX10_begins_4 rfl ?_
  refine va_iald hx hb hK hP 1 0 rfl rfl (show ¬ ((41 : Int32) < 0 ∨ 1302 ≤ (41 : Int32).toNatClampNeg) by decide +kernel) dX10_begins_6 ?_
  refine lv_istore_n (lv' := [(1, .int (f0 (41 : Int32).toNatClampNeg)), (0, .ref h)]) hx hb dX10_begins_7 rfl hl (Nat.le_of_ble_eq_true rfl) rfl (fun ls hl => ?_)
  refine lv_iconst (v := 0) hx hb dX10_begins_8 rfl ?_
  refine lv_istore_n (lv' := [(2, .int 0), (1, .int (f0 (41 : Int32).toNatClampNeg)), (0, .ref h)]) hx hb dX10_begins_9 rfl hl (Nat.le_of_ble_eq_true rfl) rfl (fun ls hl => ?_)
  have ex_10_w_1 : ∀ (w_1l2 : Int32) (w_1m0 : (Nat → Int32)) (H : Heap) (locs : List Loc) (ls : Array Slot), va_P D classes [(h, .inr (10, ML G Rf)), ((Rf 0), .inl (cI, 1302, .inl w_1m0)), ((Rf 9), .inl (cI, 6, .inl f9))] H → va_D A [(h, .inr (10, ML G Rf)), ((Rf 0), .inl (cI, 1302, .inl w_1m0)), ((Rf 9), .inl (cI, 6, .inl f9))] → va_S A s.heap H locs → lv_has ls 3 [(2, .int w_1l2), (1, .int (f0 (41 : Int32).toNatClampNeg)), (0, .ref h)] → ((S_m_begins_31 G f9 (fun (w_2l2 : Int32) (w_2m0 : (Nat → Int32)) => (S_m_begins_81  (fun (w_3l2 : Int32) (w_3m0 : (Nat → Int32)) => True) (((7 : Int32).toInt - (0 : Int32).toInt).toNat + 1) 0 w_2m0)) (((6 : Int32).toInt - (0 : Int32).toInt).toNat + 1) 0 w_1m0)) → (((match ((f_m_begins_31 G f9 (((6 : Int32).toInt - (0 : Int32).toInt).toNat + 1) 0 w_1m0) : Int32 × (Nat → Int32)) with | (w_2l2, w_2m0) => (match ((f_m_begins_81  (((7 : Int32).toInt - (0 : Int32).toInt).toNat + 1) 0 w_2m0) : Int32 × (Nat → Int32)) with | (w_3l2, w_3m0) => (upd w_3m0 (41 : Int32).toNatClampNeg (f0 (41 : Int32).toNatClampNeg))))) : (Nat → Int32)) = RES → W p l e rm_m_begins s m args below meth c H locs 0 0 Q (F0 m 29 ls []) := by
    intro w_1l2 w_1m0 H locs ls hP hD hS hl hF hE
    refine lv_iconst (v := 0) hx hb dX10_begins_29 rfl ?_
    refine lv_istore_n (lv' := [(2, .int 0), (1, .int (f0 (41 : Int32).toNatClampNeg)), (0, .ref h)]) hx hb dX10_begins_30 rfl hl (Nat.le_of_ble_eq_true rfl) rfl (fun ls hl => ?_)
    have ex_31_w_2 : ∀ (w_2l2 : Int32) (w_2m0 : (Nat → Int32)) (H : Heap) (locs : List Loc) (ls : Array Slot), va_P D classes [(h, .inr (10, ML G Rf)), ((Rf 0), .inl (cI, 1302, .inl w_2m0)), ((Rf 9), .inl (cI, 6, .inl f9))] H → va_D A [(h, .inr (10, ML G Rf)), ((Rf 0), .inl (cI, 1302, .inl w_2m0)), ((Rf 9), .inl (cI, 6, .inl f9))] → va_S A s.heap H locs → lv_has ls 3 [(2, .int w_2l2), (1, .int (f0 (41 : Int32).toNatClampNeg)), (0, .ref h)] → ((S_m_begins_81  (fun (w_3l2 : Int32) (w_3m0 : (Nat → Int32)) => True) (((7 : Int32).toInt - (0 : Int32).toInt).toNat + 1) 0 w_2m0)) → (((match ((f_m_begins_81  (((7 : Int32).toInt - (0 : Int32).toInt).toNat + 1) 0 w_2m0) : Int32 × (Nat → Int32)) with | (w_3l2, w_3m0) => (upd w_3m0 (41 : Int32).toNatClampNeg (f0 (41 : Int32).toNatClampNeg)))) : (Nat → Int32)) = RES → W p l e rm_m_begins s m args below meth c H locs 0 0 Q (F0 m 79 ls []) := by
      intro w_2l2 w_2m0 H locs ls hP hD hS hl hF hE
      refine lv_iconst (v := 0) hx hb dX10_begins_79 rfl ?_
      refine lv_istore_n (lv' := [(2, .int 0), (1, .int (f0 (41 : Int32).toNatClampNeg)), (0, .ref h)]) hx hb dX10_begins_80 rfl hl (Nat.le_of_ble_eq_true rfl) rfl (fun ls hl => ?_)
      have ex_81_w_3 : ∀ (w_3l2 : Int32) (w_3m0 : (Nat → Int32)) (H : Heap) (locs : List Loc) (ls : Array Slot), va_P D classes [(h, .inr (10, ML G Rf)), ((Rf 0), .inl (cI, 1302, .inl w_3m0)), ((Rf 9), .inl (cI, 6, .inl f9))] H → va_D A [(h, .inr (10, ML G Rf)), ((Rf 0), .inl (cI, 1302, .inl w_3m0)), ((Rf 9), .inl (cI, 6, .inl f9))] → va_S A s.heap H locs → lv_has ls 3 [(2, .int w_3l2), (1, .int (f0 (41 : Int32).toNatClampNeg)), (0, .ref h)] → (True) → (((upd w_3m0 (41 : Int32).toNatClampNeg (f0 (41 : Int32).toNatClampNeg))) : (Nat → Int32)) = RES → W p l e rm_m_begins s m args below meth c H locs 0 0 Q (F0 m 113 ls []) := by
        intro w_3l2 w_3m0 H locs ls hP hD hS hl hF hE
        refine lv_aload_n hx hb dX10_begins_113 rfl (lv_at hl 2 rfl) ?_
        refine va_get (D := D) (ci := 10) (v := .ref (Rf 0)) (C := RX10) (T := TX10) (N := 45) hx hb hts iX10 hown hK hP 0 rfl rfl 0 (Nat.le_of_ble_eq_true rfl) (hts _ wd_491) (fun _ h9 => h9) rfl dX10_begins_114 ?_
        refine lv_bipush (v := 41) hx hb dX10_begins_117 rfl ?_
        refine lv_iload_n hx hb dX10_begins_119 rfl (lv_at hl 1 rfl) ?_
        refine va_iast hx hb hK hP hD hS 1 0 rfl rfl (show ¬ ((41 : Int32) < 0 ∨ 1302 ≤ (41 : Int32).toNatClampNeg) by decide +kernel) dX10_begins_120 (fun H locs hP hD hS => ?_)
        have hP : va_P D classes [(h, .inr (10, ML G Rf)), ((Rf 0), .inl (cI, 1302, .inl (upd w_3m0 (41 : Int32).toNatClampNeg (f0 (41 : Int32).toNatClampNeg)))), ((Rf 9), .inl (cI, 6, .inl f9))] H := hP
        have hD : va_D A [(h, .inr (10, ML G Rf)), ((Rf 0), .inl (cI, 1302, .inl (upd w_3m0 (41 : Int32).toNatClampNeg (f0 (41 : Int32).toNatClampNeg)))), ((Rf 9), .inl (cI, 6, .inl f9))] := hD
        exact hret (upd w_3m0 (41 : Int32).toNatClampNeg (f0 (41 : Int32).toNatClampNeg)) _ _ _ _ dX10_begins_121 hE hP hD hS
      have lp_81_w_3 : ∀ (n_w_3 : Nat) (w_3l2 : Int32) (w_3m0 : (Nat → Int32)) (H : Heap) (locs : List Loc) (ls : Array Slot), va_P D classes [(h, .inr (10, ML G Rf)), ((Rf 0), .inl (cI, 1302, .inl w_3m0)), ((Rf 9), .inl (cI, 6, .inl f9))] H → va_D A [(h, .inr (10, ML G Rf)), ((Rf 0), .inl (cI, 1302, .inl w_3m0)), ((Rf 9), .inl (cI, 6, .inl f9))] → va_S A s.heap H locs → lv_has ls 3 [(2, .int w_3l2), (1, .int (f0 (41 : Int32).toNatClampNeg)), (0, .ref h)] → (S_m_begins_81  (fun (w_3l2 : Int32) (w_3m0 : (Nat → Int32)) => True) n_w_3 w_3l2 w_3m0) → ((7 : Int32).toInt - (w_3l2 : Int32).toInt).toNat < n_w_3 → ((match ((f_m_begins_81  n_w_3 w_3l2 w_3m0) : Int32 × (Nat → Int32)) with | (w_3l2, w_3m0) => (upd w_3m0 (41 : Int32).toNatClampNeg (f0 (41 : Int32).toNatClampNeg))) : (Nat → Int32)) = RES → W p l e rm_m_begins s m args below meth c H locs 0 0 Q (F0 m 81 ls []) := by
        intro n_w_3
        induction n_w_3 with
        | zero => intro w_3l2 w_3m0 H locs ls hP hD hS hl hF hm; exact absurd hm (Nat.not_lt_zero _)
        | succ n_w_3 ih_w_3 =>
          intro w_3l2 w_3m0 H locs ls hP hD hS hl hF hm hE
          rw [S_m_begins_81_s] at hF
          rw [f_m_begins_81_s] at hE
          refine lv_iload_n hx hb dX10_begins_81 rfl (lv_at hl 0 rfl) ?_
          refine lv_bipush (v := 7) hx hb dX10_begins_82 rfl ?_
          refine lv_icmp_ge (tgt := 113) hx hb dX10_begins_84 rfl (fun c_4 => ?_) (fun c_4 => ?_)
          · replace hF := hF.1 c_4
            rw [if_pos c_4] at hE
            exact ex_81_w_3 w_3l2 w_3m0 _ _ ls hP hD hS (lv_sub hl [0, 1, 2] rfl) hF hE
          · replace hF := hF.2 c_4
            rw [if_neg c_4] at hE
            refine lv_aload_n hx hb dX10_begins_87 rfl (lv_at hl 2 rfl) ?_
            refine va_get (D := D) (ci := 10) (v := .ref (Rf 0)) (C := RX10) (T := TX10) (N := 45) hx hb hts iX10 hown hK hP 0 rfl rfl 0 (Nat.le_of_ble_eq_true rfl) (hts _ wd_491) (fun _ h9 => h9) rfl dX10_begins_88 ?_
            refine lv_bipush (v := 27) hx hb dX10_begins_91 rfl ?_
            refine lv_iload_n hx hb dX10_begins_93 rfl (lv_at hl 0 rfl) ?_
            refine lv_iadd hx hb dX10_begins_94 ?_
            refine lv_iconst (v := (-1)) hx hb dX10_begins_95 rfl ?_
            obtain ⟨hv_5, hF⟩ := hF
            refine va_iast hx hb hK hP hD hS 1 0 rfl rfl hv_5 dX10_begins_96 (fun H locs hP hD hS => ?_)
            have hP : va_P D classes [(h, .inr (10, ML G Rf)), ((Rf 0), .inl (cI, 1302, .inl (upd w_3m0 ((27 + w_3l2) : Int32).toNatClampNeg (-1)))), ((Rf 9), .inl (cI, 6, .inl f9))] H := hP
            have hD : va_D A [(h, .inr (10, ML G Rf)), ((Rf 0), .inl (cI, 1302, .inl (upd w_3m0 ((27 + w_3l2) : Int32).toNatClampNeg (-1)))), ((Rf 9), .inl (cI, 6, .inl f9))] := hD
            refine lv_aload_n hx hb dX10_begins_97 rfl (lv_at hl 2 rfl) ?_
            refine va_get (D := D) (ci := 10) (v := .ref (Rf 0)) (C := RX10) (T := TX10) (N := 45) hx hb hts iX10 hown hK hP 0 rfl rfl 0 (Nat.le_of_ble_eq_true rfl) (hts _ wd_491) (fun _ h9 => h9) rfl dX10_begins_98 ?_
            refine lv_bipush (v := 34) hx hb dX10_begins_101 rfl ?_
            refine lv_iload_n hx hb dX10_begins_103 rfl (lv_at hl 0 rfl) ?_
            refine lv_iadd hx hb dX10_begins_104 ?_
            refine lv_iconst (v := (-1)) hx hb dX10_begins_105 rfl ?_
            obtain ⟨hv_6, hF⟩ := hF
            refine va_iast hx hb hK hP hD hS 1 0 rfl rfl hv_6 dX10_begins_106 (fun H locs hP hD hS => ?_)
            have hP : va_P D classes [(h, .inr (10, ML G Rf)), ((Rf 0), .inl (cI, 1302, .inl (upd (upd w_3m0 ((27 + w_3l2) : Int32).toNatClampNeg (-1)) ((34 + w_3l2) : Int32).toNatClampNeg (-1)))), ((Rf 9), .inl (cI, 6, .inl f9))] H := hP
            have hD : va_D A [(h, .inr (10, ML G Rf)), ((Rf 0), .inl (cI, 1302, .inl (upd (upd w_3m0 ((27 + w_3l2) : Int32).toNatClampNeg (-1)) ((34 + w_3l2) : Int32).toNatClampNeg (-1)))), ((Rf 9), .inl (cI, 6, .inl f9))] := hD
            refine lv_iinc (v := (w_3l2 + 1)) (lv' := [(2, .int (w_3l2 + 1)), (1, .int (f0 (41 : Int32).toNatClampNeg)), (0, .ref h)]) hx hb dX10_begins_107 hl (k := 0) rfl rfl (Nat.le_of_ble_eq_true rfl) rfl (fun ls hl => ?_)
            refine lv_goto (tgt := 81) hx hb dX10_begins_110 rfl ?_
            exact ih_w_3 (w_3l2 + 1) (upd (upd w_3m0 ((27 + w_3l2) : Int32).toNatClampNeg (-1)) ((34 + w_3l2) : Int32).toNatClampNeg (-1)) _ _ ls hP hD hS (lv_sub hl [0, 1, 2] rfl) hF (up_step c_4 hm) hE
      exact lp_81_w_3 (((7 : Int32).toInt - (0 : Int32).toInt).toNat + 1) 0 w_2m0 _ _ ls hP hD hS hl hF (Nat.lt_succ_self _) hE
    have lp_31_w_2 : ∀ (n_w_2 : Nat) (w_2l2 : Int32) (w_2m0 : (Nat → Int32)) (H : Heap) (locs : List Loc) (ls : Array Slot), va_P D classes [(h, .inr (10, ML G Rf)), ((Rf 0), .inl (cI, 1302, .inl w_2m0)), ((Rf 9), .inl (cI, 6, .inl f9))] H → va_D A [(h, .inr (10, ML G Rf)), ((Rf 0), .inl (cI, 1302, .inl w_2m0)), ((Rf 9), .inl (cI, 6, .inl f9))] → va_S A s.heap H locs → lv_has ls 3 [(2, .int w_2l2), (1, .int (f0 (41 : Int32).toNatClampNeg)), (0, .ref h)] → (S_m_begins_31 G f9 (fun (w_2l2 : Int32) (w_2m0 : (Nat → Int32)) => (S_m_begins_81  (fun (w_3l2 : Int32) (w_3m0 : (Nat → Int32)) => True) (((7 : Int32).toInt - (0 : Int32).toInt).toNat + 1) 0 w_2m0)) n_w_2 w_2l2 w_2m0) → ((6 : Int32).toInt - (w_2l2 : Int32).toInt).toNat < n_w_2 → ((match ((f_m_begins_31 G f9 n_w_2 w_2l2 w_2m0) : Int32 × (Nat → Int32)) with | (w_2l2, w_2m0) => (match ((f_m_begins_81  (((7 : Int32).toInt - (0 : Int32).toInt).toNat + 1) 0 w_2m0) : Int32 × (Nat → Int32)) with | (w_3l2, w_3m0) => (upd w_3m0 (41 : Int32).toNatClampNeg (f0 (41 : Int32).toNatClampNeg)))) : (Nat → Int32)) = RES → W p l e rm_m_begins s m args below meth c H locs 0 0 Q (F0 m 31 ls []) := by
      intro n_w_2
      induction n_w_2 with
      | zero => intro w_2l2 w_2m0 H locs ls hP hD hS hl hF hm; exact absurd hm (Nat.not_lt_zero _)
      | succ n_w_2 ih_w_2 =>
        intro w_2l2 w_2m0 H locs ls hP hD hS hl hF hm hE
        rw [S_m_begins_31_s] at hF
        rw [f_m_begins_31_s] at hE
        refine lv_iload_n hx hb dX10_begins_31 rfl (lv_at hl 0 rfl) ?_
        refine lv_bipush (v := 6) hx hb dX10_begins_32 rfl ?_
        refine lv_icmp_ge (tgt := 79) hx hb dX10_begins_34 rfl (fun c_7 => ?_) (fun c_7 => ?_)
        · replace hF := hF.1 c_7
          rw [if_pos c_7] at hE
          exact ex_31_w_2 w_2l2 w_2m0 _ _ ls hP hD hS (lv_sub hl [0, 1, 2] rfl) hF hE
        · replace hF := hF.2 c_7
          rw [if_neg c_7] at hE
          refine lv_aload_n hx hb dX10_begins_37 rfl (lv_at hl 2 rfl) ?_
          refine va_get (D := D) (ci := 10) (v := .ref (Rf 0)) (C := RX10) (T := TX10) (N := 45) hx hb hts iX10 hown hK hP 0 rfl rfl 0 (Nat.le_of_ble_eq_true rfl) (hts _ wd_491) (fun _ h9 => h9) rfl dX10_begins_38 ?_
          refine lv_iconst (v := 0) hx hb dX10_begins_41 rfl ?_
          refine lv_iload_n hx hb dX10_begins_42 rfl (lv_at hl 0 rfl) ?_
          refine lv_iadd hx hb dX10_begins_43 ?_
          refine lv_iload_n hx hb dX10_begins_44 rfl (lv_at hl 0 rfl) ?_
          refine lv_aload_n hx hb dX10_begins_45 rfl (lv_at hl 2 rfl) ?_
          refine va_get (D := D) (ci := 10) (v := .int (G 5)) (C := RX10) (T := TX10) (N := 45) hx hb hts iX10 hown hK hP 0 rfl rfl 5 (Nat.le_of_ble_eq_true rfl) (hts _ wd_499) (fun _ h9 => h9) rfl dX10_begins_46 ?_
          refine lv_icmp_ge (tgt := 61) hx hb dX10_begins_49 rfl (fun c_8 => ?_) (fun c_8 => ?_)
          · replace hF := hF.1 c_8
            rw [if_pos c_8] at hE
            refine lv_iconst (v := 0) hx hb dX10_begins_61 rfl ?_
            obtain ⟨hv_9, hF⟩ := hF
            refine va_iast hx hb hK hP hD hS 1 0 rfl rfl hv_9 dX10_begins_62 (fun H locs hP hD hS => ?_)
            have hP : va_P D classes [(h, .inr (10, ML G Rf)), ((Rf 0), .inl (cI, 1302, .inl (upd w_2m0 ((0 + w_2l2) : Int32).toNatClampNeg 0))), ((Rf 9), .inl (cI, 6, .inl f9))] H := hP
            have hD : va_D A [(h, .inr (10, ML G Rf)), ((Rf 0), .inl (cI, 1302, .inl (upd w_2m0 ((0 + w_2l2) : Int32).toNatClampNeg 0))), ((Rf 9), .inl (cI, 6, .inl f9))] := hD
            refine lv_aload_n hx hb dX10_begins_63 rfl (lv_at hl 2 rfl) ?_
            refine va_get (D := D) (ci := 10) (v := .ref (Rf 0)) (C := RX10) (T := TX10) (N := 45) hx hb hts iX10 hown hK hP 0 rfl rfl 0 (Nat.le_of_ble_eq_true rfl) (hts _ wd_491) (fun _ h9 => h9) rfl dX10_begins_64 ?_
            refine lv_bipush (v := 6) hx hb dX10_begins_67 rfl ?_
            refine lv_iload_n hx hb dX10_begins_69 rfl (lv_at hl 0 rfl) ?_
            refine lv_iadd hx hb dX10_begins_70 ?_
            refine lv_iconst (v := (-1)) hx hb dX10_begins_71 rfl ?_
            obtain ⟨hv_10, hF⟩ := hF
            refine va_iast hx hb hK hP hD hS 1 0 rfl rfl hv_10 dX10_begins_72 (fun H locs hP hD hS => ?_)
            have hP : va_P D classes [(h, .inr (10, ML G Rf)), ((Rf 0), .inl (cI, 1302, .inl (upd (upd w_2m0 ((0 + w_2l2) : Int32).toNatClampNeg 0) ((6 + w_2l2) : Int32).toNatClampNeg (-1)))), ((Rf 9), .inl (cI, 6, .inl f9))] H := hP
            have hD : va_D A [(h, .inr (10, ML G Rf)), ((Rf 0), .inl (cI, 1302, .inl (upd (upd w_2m0 ((0 + w_2l2) : Int32).toNatClampNeg 0) ((6 + w_2l2) : Int32).toNatClampNeg (-1)))), ((Rf 9), .inl (cI, 6, .inl f9))] := hD
            refine lv_iinc (v := (w_2l2 + 1)) (lv' := [(2, .int (w_2l2 + 1)), (1, .int (f0 (41 : Int32).toNatClampNeg)), (0, .ref h)]) hx hb dX10_begins_73 hl (k := 0) rfl rfl (Nat.le_of_ble_eq_true rfl) rfl (fun ls hl => ?_)
            refine lv_goto (tgt := 31) hx hb dX10_begins_76 rfl ?_
            exact ih_w_2 (w_2l2 + 1) (upd (upd w_2m0 ((0 + w_2l2) : Int32).toNatClampNeg 0) ((6 + w_2l2) : Int32).toNatClampNeg (-1)) _ _ ls hP hD hS (lv_sub hl [0, 1, 2] rfl) hF (up_step c_7 hm) hE
          · replace hF := hF.2 c_8
            rw [if_neg c_8] at hE
            refine lv_aload_n hx hb dX10_begins_52 rfl (lv_at hl 2 rfl) ?_
            refine va_get (D := D) (ci := 10) (v := .ref (Rf 9)) (C := RX10) (T := TX10) (N := 45) hx hb hts iX10 hown hK hP 0 rfl rfl 9 (Nat.le_of_ble_eq_true rfl) (hts _ wd_561) (fun _ h9 => h9) rfl dX10_begins_53 ?_
            refine lv_iload_n hx hb dX10_begins_56 rfl (lv_at hl 0 rfl) ?_
            obtain ⟨hv_11, hF⟩ := hF
            refine va_iald hx hb hK hP 2 0 rfl rfl hv_11 dX10_begins_57 ?_
            refine lv_goto (tgt := 62) hx hb dX10_begins_58 rfl ?_
            obtain ⟨hv_12, hF⟩ := hF
            refine va_iast hx hb hK hP hD hS 1 0 rfl rfl hv_12 dX10_begins_62 (fun H locs hP hD hS => ?_)
            have hP : va_P D classes [(h, .inr (10, ML G Rf)), ((Rf 0), .inl (cI, 1302, .inl (upd w_2m0 ((0 + w_2l2) : Int32).toNatClampNeg (f9 (w_2l2 : Int32).toNatClampNeg)))), ((Rf 9), .inl (cI, 6, .inl f9))] H := hP
            have hD : va_D A [(h, .inr (10, ML G Rf)), ((Rf 0), .inl (cI, 1302, .inl (upd w_2m0 ((0 + w_2l2) : Int32).toNatClampNeg (f9 (w_2l2 : Int32).toNatClampNeg)))), ((Rf 9), .inl (cI, 6, .inl f9))] := hD
            refine lv_aload_n hx hb dX10_begins_63 rfl (lv_at hl 2 rfl) ?_
            refine va_get (D := D) (ci := 10) (v := .ref (Rf 0)) (C := RX10) (T := TX10) (N := 45) hx hb hts iX10 hown hK hP 0 rfl rfl 0 (Nat.le_of_ble_eq_true rfl) (hts _ wd_491) (fun _ h9 => h9) rfl dX10_begins_64 ?_
            refine lv_bipush (v := 6) hx hb dX10_begins_67 rfl ?_
            refine lv_iload_n hx hb dX10_begins_69 rfl (lv_at hl 0 rfl) ?_
            refine lv_iadd hx hb dX10_begins_70 ?_
            refine lv_iconst (v := (-1)) hx hb dX10_begins_71 rfl ?_
            obtain ⟨hv_13, hF⟩ := hF
            refine va_iast hx hb hK hP hD hS 1 0 rfl rfl hv_13 dX10_begins_72 (fun H locs hP hD hS => ?_)
            have hP : va_P D classes [(h, .inr (10, ML G Rf)), ((Rf 0), .inl (cI, 1302, .inl (upd (upd w_2m0 ((0 + w_2l2) : Int32).toNatClampNeg (f9 (w_2l2 : Int32).toNatClampNeg)) ((6 + w_2l2) : Int32).toNatClampNeg (-1)))), ((Rf 9), .inl (cI, 6, .inl f9))] H := hP
            have hD : va_D A [(h, .inr (10, ML G Rf)), ((Rf 0), .inl (cI, 1302, .inl (upd (upd w_2m0 ((0 + w_2l2) : Int32).toNatClampNeg (f9 (w_2l2 : Int32).toNatClampNeg)) ((6 + w_2l2) : Int32).toNatClampNeg (-1)))), ((Rf 9), .inl (cI, 6, .inl f9))] := hD
            refine lv_iinc (v := (w_2l2 + 1)) (lv' := [(2, .int (w_2l2 + 1)), (1, .int (f0 (41 : Int32).toNatClampNeg)), (0, .ref h)]) hx hb dX10_begins_73 hl (k := 0) rfl rfl (Nat.le_of_ble_eq_true rfl) rfl (fun ls hl => ?_)
            refine lv_goto (tgt := 31) hx hb dX10_begins_76 rfl ?_
            exact ih_w_2 (w_2l2 + 1) (upd (upd w_2m0 ((0 + w_2l2) : Int32).toNatClampNeg (f9 (w_2l2 : Int32).toNatClampNeg)) ((6 + w_2l2) : Int32).toNatClampNeg (-1)) _ _ ls hP hD hS (lv_sub hl [0, 1, 2] rfl) hF (up_step c_7 hm) hE
    exact lp_31_w_2 (((6 : Int32).toInt - (0 : Int32).toInt).toNat + 1) 0 w_1m0 _ _ ls hP hD hS hl hF (Nat.lt_succ_self _) hE
  have lp_10_w_1 : ∀ (n_w_1 : Nat) (w_1l2 : Int32) (w_1m0 : (Nat → Int32)) (H : Heap) (locs : List Loc) (ls : Array Slot), va_P D classes [(h, .inr (10, ML G Rf)), ((Rf 0), .inl (cI, 1302, .inl w_1m0)), ((Rf 9), .inl (cI, 6, .inl f9))] H → va_D A [(h, .inr (10, ML G Rf)), ((Rf 0), .inl (cI, 1302, .inl w_1m0)), ((Rf 9), .inl (cI, 6, .inl f9))] → va_S A s.heap H locs → lv_has ls 3 [(2, .int w_1l2), (1, .int (f0 (41 : Int32).toNatClampNeg)), (0, .ref h)] → (S_m_begins_10  (fun (w_1l2 : Int32) (w_1m0 : (Nat → Int32)) => (S_m_begins_31 G f9 (fun (w_2l2 : Int32) (w_2m0 : (Nat → Int32)) => (S_m_begins_81  (fun (w_3l2 : Int32) (w_3m0 : (Nat → Int32)) => True) (((7 : Int32).toInt - (0 : Int32).toInt).toNat + 1) 0 w_2m0)) (((6 : Int32).toInt - (0 : Int32).toInt).toNat + 1) 0 w_1m0)) n_w_1 w_1l2 w_1m0) → ((42 : Int32).toInt - (w_1l2 : Int32).toInt).toNat < n_w_1 → ((match ((f_m_begins_10  n_w_1 w_1l2 w_1m0) : Int32 × (Nat → Int32)) with | (w_1l2, w_1m0) => (match ((f_m_begins_31 G f9 (((6 : Int32).toInt - (0 : Int32).toInt).toNat + 1) 0 w_1m0) : Int32 × (Nat → Int32)) with | (w_2l2, w_2m0) => (match ((f_m_begins_81  (((7 : Int32).toInt - (0 : Int32).toInt).toNat + 1) 0 w_2m0) : Int32 × (Nat → Int32)) with | (w_3l2, w_3m0) => (upd w_3m0 (41 : Int32).toNatClampNeg (f0 (41 : Int32).toNatClampNeg))))) : (Nat → Int32)) = RES → W p l e rm_m_begins s m args below meth c H locs 0 0 Q (F0 m 10 ls []) := by
    intro n_w_1
    induction n_w_1 with
    | zero => intro w_1l2 w_1m0 H locs ls hP hD hS hl hF hm; exact absurd hm (Nat.not_lt_zero _)
    | succ n_w_1 ih_w_1 =>
      intro w_1l2 w_1m0 H locs ls hP hD hS hl hF hm hE
      rw [S_m_begins_10_s] at hF
      rw [f_m_begins_10_s] at hE
      refine lv_iload_n hx hb dX10_begins_10 rfl (lv_at hl 0 rfl) ?_
      refine lv_bipush (v := 42) hx hb dX10_begins_11 rfl ?_
      refine lv_icmp_ge (tgt := 29) hx hb dX10_begins_13 rfl (fun c_14 => ?_) (fun c_14 => ?_)
      · replace hF := hF.1 c_14
        rw [if_pos c_14] at hE
        exact ex_10_w_1 w_1l2 w_1m0 _ _ ls hP hD hS (lv_sub hl [0, 1, 2] rfl) hF hE
      · replace hF := hF.2 c_14
        rw [if_neg c_14] at hE
        refine lv_aload_n hx hb dX10_begins_16 rfl (lv_at hl 2 rfl) ?_
        refine va_get (D := D) (ci := 10) (v := .ref (Rf 0)) (C := RX10) (T := TX10) (N := 45) hx hb hts iX10 hown hK hP 0 rfl rfl 0 (Nat.le_of_ble_eq_true rfl) (hts _ wd_491) (fun _ h9 => h9) rfl dX10_begins_17 ?_
        refine lv_iload_n hx hb dX10_begins_20 rfl (lv_at hl 0 rfl) ?_
        refine lv_iconst (v := 0) hx hb dX10_begins_21 rfl ?_
        obtain ⟨hv_15, hF⟩ := hF
        refine va_iast hx hb hK hP hD hS 1 0 rfl rfl hv_15 dX10_begins_22 (fun H locs hP hD hS => ?_)
        have hP : va_P D classes [(h, .inr (10, ML G Rf)), ((Rf 0), .inl (cI, 1302, .inl (upd w_1m0 (w_1l2 : Int32).toNatClampNeg 0))), ((Rf 9), .inl (cI, 6, .inl f9))] H := hP
        have hD : va_D A [(h, .inr (10, ML G Rf)), ((Rf 0), .inl (cI, 1302, .inl (upd w_1m0 (w_1l2 : Int32).toNatClampNeg 0))), ((Rf 9), .inl (cI, 6, .inl f9))] := hD
        refine lv_iinc (v := (w_1l2 + 1)) (lv' := [(2, .int (w_1l2 + 1)), (1, .int (f0 (41 : Int32).toNatClampNeg)), (0, .ref h)]) hx hb dX10_begins_23 hl (k := 0) rfl rfl (Nat.le_of_ble_eq_true rfl) rfl (fun ls hl => ?_)
        refine lv_goto (tgt := 10) hx hb dX10_begins_26 rfl ?_
        exact ih_w_1 (w_1l2 + 1) (upd w_1m0 (w_1l2 : Int32).toNatClampNeg 0) _ _ ls hP hD hS (lv_sub hl [0, 1, 2] rfl) hF (up_step c_14 hm) hE
  exact lp_10_w_1 (((42 : Int32).toInt - (0 : Int32).toInt).toNat + 1) 0 f0 _ _ ls hP hD hS hl hF (Nat.lt_succ_self _) hE
end
section
def fw_cX10_undo : List (List Nat) := [[42, 180, 0, 180, 154, 0, 6, 18, 233, 172, 42, 180, 0, 7, 16, 41, 46, 60], [46, 60, 42, 89, 180, 0, 180, 4, 100, 181, 0, 180, 42, 17, 1, 206, 16, 42], [16, 42, 42, 180, 0, 180, 104, 96, 3, 182, 0, 229, 42, 180, 0, 7, 16, 41], [16, 41, 27, 79, 42, 180, 0, 180, 172]]
theorem fW_cX10_undo : fq_wins 4 cX10_undo.data.toList = fw_cX10_undo := by decide +kernel
theorem fk_cX10_undo_0 : fq_ck cX10_undo 0 [42, 180, 0, 180, 154, 0, 6, 18, 233, 172, 42, 180, 0, 7, 16, 41, 46, 60] := fq_of fW_cX10_undo 0 rfl rfl
theorem dX10_undo_0 : decode cX10_undo 0 = .ok (.aload_n 0, 1) := fq_42 fk_cX10_undo_0 0 rfl rfl
theorem dX10_undo_1 : decode cX10_undo 1 = .ok (.getfield 180, 3) := fq_180 fk_cX10_undo_0 1 rfl rfl rfl rfl rfl
theorem dX10_undo_4 : decode cX10_undo 4 = .ok (.ifCond .ne 6, 3) := fq_154 fk_cX10_undo_0 4 rfl rfl rfl rfl rfl
theorem dX10_undo_10 : decode cX10_undo 10 = .ok (.aload_n 0, 1) := fq_42 fk_cX10_undo_0 10 rfl rfl
theorem dX10_undo_11 : decode cX10_undo 11 = .ok (.getfield 7, 3) := fq_180 fk_cX10_undo_0 11 rfl rfl rfl rfl rfl
theorem dX10_undo_14 : decode cX10_undo 14 = .ok (.bipush 41, 2) := fq_16 fk_cX10_undo_0 14 rfl rfl rfl rfl
theorem fk_cX10_undo_1 : fq_ck cX10_undo 16 [46, 60, 42, 89, 180, 0, 180, 4, 100, 181, 0, 180, 42, 17, 1, 206, 16, 42] := fq_of fW_cX10_undo 1 rfl rfl
theorem dX10_undo_16 : decode cX10_undo 16 = .ok (.iaload, 1) := fq_46 fk_cX10_undo_1 0 rfl rfl
theorem dX10_undo_17 : decode cX10_undo 17 = .ok (.istore_n 1, 1) := fq_60 fk_cX10_undo_1 1 rfl rfl
theorem dX10_undo_18 : decode cX10_undo 18 = .ok (.aload_n 0, 1) := fq_42 fk_cX10_undo_1 2 rfl rfl
theorem dX10_undo_19 : decode cX10_undo 19 = .ok (.dup, 1) := fq_89 fk_cX10_undo_1 3 rfl rfl
theorem dX10_undo_20 : decode cX10_undo 20 = .ok (.getfield 180, 3) := fq_180 fk_cX10_undo_1 4 rfl rfl rfl rfl rfl
theorem dX10_undo_23 : decode cX10_undo 23 = .ok (.iconst 1, 1) := fq_4 fk_cX10_undo_1 7 rfl rfl
theorem dX10_undo_24 : decode cX10_undo 24 = .ok (.isub, 1) := fq_100 fk_cX10_undo_1 8 rfl rfl
theorem dX10_undo_25 : decode cX10_undo 25 = .ok (.putfield 180, 3) := fq_181 fk_cX10_undo_1 9 rfl rfl rfl rfl rfl
theorem dX10_undo_28 : decode cX10_undo 28 = .ok (.aload_n 0, 1) := fq_42 fk_cX10_undo_1 12 rfl rfl
theorem dX10_undo_29 : decode cX10_undo 29 = .ok (.sipush 462, 3) := fq_17 fk_cX10_undo_1 13 rfl rfl rfl rfl rfl
theorem fk_cX10_undo_2 : fq_ck cX10_undo 32 [16, 42, 42, 180, 0, 180, 104, 96, 3, 182, 0, 229, 42, 180, 0, 7, 16, 41] := fq_of fW_cX10_undo 2 rfl rfl
theorem dX10_undo_32 : decode cX10_undo 32 = .ok (.bipush 42, 2) := fq_16 fk_cX10_undo_2 0 rfl rfl rfl rfl
theorem dX10_undo_34 : decode cX10_undo 34 = .ok (.aload_n 0, 1) := fq_42 fk_cX10_undo_2 2 rfl rfl
theorem dX10_undo_35 : decode cX10_undo 35 = .ok (.getfield 180, 3) := fq_180 fk_cX10_undo_2 3 rfl rfl rfl rfl rfl
theorem dX10_undo_38 : decode cX10_undo 38 = .ok (.imul, 1) := fq_104 fk_cX10_undo_2 6 rfl rfl
theorem dX10_undo_39 : decode cX10_undo 39 = .ok (.iadd, 1) := fq_96 fk_cX10_undo_2 7 rfl rfl
theorem dX10_undo_40 : decode cX10_undo 40 = .ok (.iconst 0, 1) := fq_3 fk_cX10_undo_2 8 rfl rfl
theorem dX10_undo_41 : decode cX10_undo 41 = .ok (.invokevirtual 229, 3) := fq_182 fk_cX10_undo_2 9 rfl rfl rfl rfl rfl
theorem dX10_undo_44 : decode cX10_undo 44 = .ok (.aload_n 0, 1) := fq_42 fk_cX10_undo_2 12 rfl rfl
theorem dX10_undo_45 : decode cX10_undo 45 = .ok (.getfield 7, 3) := fq_180 fk_cX10_undo_2 13 rfl rfl rfl rfl rfl
theorem fk_cX10_undo_3 : fq_ck cX10_undo 48 [16, 41, 27, 79, 42, 180, 0, 180, 172] := fq_of fW_cX10_undo 3 rfl rfl
theorem dX10_undo_48 : decode cX10_undo 48 = .ok (.bipush 41, 2) := fq_16 fk_cX10_undo_3 0 rfl rfl rfl rfl
theorem dX10_undo_50 : decode cX10_undo 50 = .ok (.iload_n 1, 1) := fq_27 fk_cX10_undo_3 2 rfl rfl
theorem dX10_undo_51 : decode cX10_undo 51 = .ok (.iastore, 1) := fq_79 fk_cX10_undo_3 3 rfl rfl
theorem dX10_undo_52 : decode cX10_undo 52 = .ok (.aload_n 0, 1) := fq_42 fk_cX10_undo_3 4 rfl rfl
theorem dX10_undo_53 : decode cX10_undo 53 = .ok (.getfield 180, 3) := fq_180 fk_cX10_undo_3 5 rfl rfl rfl rfl rfl
theorem dX10_undo_56 : decode cX10_undo 56 = .ok (.ireturn, 1) := fq_172 fk_cX10_undo_3 8 rfl rfl
theorem wd_562 : Cond.constant RX10 233 (-1000000003) ∈ BG := BG_at5 86 (by decide +kernel) rfl
theorem dX10_undo_7 : decode cX10_undo 7 = .ok (.ldc 233, 2) := fq_18 fk_cX10_undo_0 7 rfl rfl rfl
theorem dX10_undo_9 : decode cX10_undo 9 = .ok (.ireturn, 1) := fq_172 fk_cX10_undo_0 9 rfl rfl
def fw_cX10_draw : List (List Nat) := [[42, 180, 0, 7, 16, 41, 42, 180, 0, 7, 16, 41, 46, 133, 20, 0, 250, 105], [250, 105, 20, 0, 252, 97, 20, 0, 254, 113, 136, 79, 42, 180, 0, 7, 16, 41], [16, 41, 46, 19, 1, 0, 108, 27, 112, 172]]
theorem fW_cX10_draw : fq_wins 3 cX10_draw.data.toList = fw_cX10_draw := by decide +kernel
theorem fk_cX10_draw_0 : fq_ck cX10_draw 0 [42, 180, 0, 7, 16, 41, 42, 180, 0, 7, 16, 41, 46, 133, 20, 0, 250, 105] := fq_of fW_cX10_draw 0 rfl rfl
theorem dX10_draw_0 : decode cX10_draw 0 = .ok (.aload_n 0, 1) := fq_42 fk_cX10_draw_0 0 rfl rfl
theorem dX10_draw_1 : decode cX10_draw 1 = .ok (.getfield 7, 3) := fq_180 fk_cX10_draw_0 1 rfl rfl rfl rfl rfl
theorem dX10_draw_4 : decode cX10_draw 4 = .ok (.bipush 41, 2) := fq_16 fk_cX10_draw_0 4 rfl rfl rfl rfl
theorem dX10_draw_6 : decode cX10_draw 6 = .ok (.aload_n 0, 1) := fq_42 fk_cX10_draw_0 6 rfl rfl
theorem dX10_draw_7 : decode cX10_draw 7 = .ok (.getfield 7, 3) := fq_180 fk_cX10_draw_0 7 rfl rfl rfl rfl rfl
theorem dX10_draw_10 : decode cX10_draw 10 = .ok (.bipush 41, 2) := fq_16 fk_cX10_draw_0 10 rfl rfl rfl rfl
theorem dX10_draw_12 : decode cX10_draw 12 = .ok (.iaload, 1) := fq_46 fk_cX10_draw_0 12 rfl rfl
theorem dX10_draw_13 : decode cX10_draw 13 = .ok (.i2l, 1) := fq_133 fk_cX10_draw_0 13 rfl rfl
theorem wd_563 : Cond.constantLong RX10 250 (1103515245) ∈ BG := BG_at5 137 (by decide +kernel) rfl
theorem dX10_draw_14 : decode cX10_draw 14 = .ok (.ldc2_w 250, 3) := fq_20 fk_cX10_draw_0 14 rfl rfl rfl rfl rfl
theorem fk_cX10_draw_1 : fq_ck cX10_draw 16 [250, 105, 20, 0, 252, 97, 20, 0, 254, 113, 136, 79, 42, 180, 0, 7, 16, 41] := fq_of fW_cX10_draw 1 rfl rfl
theorem dX10_draw_17 : decode cX10_draw 17 = .ok (.lmul, 1) := fq_105 fk_cX10_draw_1 1 rfl rfl
theorem wd_564 : Cond.constantLong RX10 252 (12345) ∈ BG := BG_at5 138 (by decide +kernel) rfl
theorem dX10_draw_18 : decode cX10_draw 18 = .ok (.ldc2_w 252, 3) := fq_20 fk_cX10_draw_1 2 rfl rfl rfl rfl rfl
theorem dX10_draw_21 : decode cX10_draw 21 = .ok (.ladd, 1) := fq_97 fk_cX10_draw_1 5 rfl rfl
theorem wd_565 : Cond.constantLong RX10 254 (2147483648) ∈ BG := BG_at5 139 (by decide +kernel) rfl
theorem dX10_draw_22 : decode cX10_draw 22 = .ok (.ldc2_w 254, 3) := fq_20 fk_cX10_draw_1 6 rfl rfl rfl rfl rfl
theorem dX10_draw_25 : decode cX10_draw 25 = .ok (.lrem, 1) := fq_113 fk_cX10_draw_1 9 rfl rfl
theorem dX10_draw_26 : decode cX10_draw 26 = .ok (.l2i, 1) := fq_136 fk_cX10_draw_1 10 rfl rfl
theorem dX10_draw_27 : decode cX10_draw 27 = .ok (.iastore, 1) := fq_79 fk_cX10_draw_1 11 rfl rfl
theorem dX10_draw_28 : decode cX10_draw 28 = .ok (.aload_n 0, 1) := fq_42 fk_cX10_draw_1 12 rfl rfl
theorem dX10_draw_29 : decode cX10_draw 29 = .ok (.getfield 7, 3) := fq_180 fk_cX10_draw_1 13 rfl rfl rfl rfl rfl
theorem fk_cX10_draw_2 : fq_ck cX10_draw 32 [16, 41, 46, 19, 1, 0, 108, 27, 112, 172] := fq_of fW_cX10_draw 2 rfl rfl
theorem dX10_draw_32 : decode cX10_draw 32 = .ok (.bipush 41, 2) := fq_16 fk_cX10_draw_2 0 rfl rfl rfl rfl
theorem dX10_draw_34 : decode cX10_draw 34 = .ok (.iaload, 1) := fq_46 fk_cX10_draw_2 2 rfl rfl
theorem wd_566 : Cond.constant RX10 256 (65536) ∈ BG := BG_at5 140 (by decide +kernel) rfl
theorem dX10_draw_35 : decode cX10_draw 35 = .ok (.ldc_w 256, 3) := fq_19 fk_cX10_draw_2 3 rfl rfl rfl rfl rfl
theorem dX10_draw_38 : decode cX10_draw 38 = .ok (.idiv, 1) := fq_108 fk_cX10_draw_2 6 rfl rfl
theorem dX10_draw_39 : decode cX10_draw 39 = .ok (.iload_n 1, 1) := fq_27 fk_cX10_draw_2 7 rfl rfl
theorem dX10_draw_40 : decode cX10_draw 40 = .ok (.irem, 1) := fq_112 fk_cX10_draw_2 8 rfl rfl
theorem dX10_draw_41 : decode cX10_draw 41 = .ok (.ireturn, 1) := fq_172 fk_cX10_draw_2 9 rfl rfl
def fw_cX10_grieves : List (List Nat) := [[42, 180, 0, 7, 3, 27, 96, 46, 28, 96, 62, 42, 180, 0, 7, 3, 27, 96], [27, 96, 42, 27, 182, 0, 207, 153, 0, 7, 3, 167, 0, 15, 29, 16, 99, 164], [99, 164, 0, 8, 16, 99, 167, 0, 4, 29, 79, 177]]
theorem fW_cX10_grieves : fq_wins 3 cX10_grieves.data.toList = fw_cX10_grieves := by decide +kernel
theorem fk_cX10_grieves_0 : fq_ck cX10_grieves 0 [42, 180, 0, 7, 3, 27, 96, 46, 28, 96, 62, 42, 180, 0, 7, 3, 27, 96] := fq_of fW_cX10_grieves 0 rfl rfl
theorem dX10_grieves_0 : decode cX10_grieves 0 = .ok (.aload_n 0, 1) := fq_42 fk_cX10_grieves_0 0 rfl rfl
theorem dX10_grieves_1 : decode cX10_grieves 1 = .ok (.getfield 7, 3) := fq_180 fk_cX10_grieves_0 1 rfl rfl rfl rfl rfl
theorem dX10_grieves_4 : decode cX10_grieves 4 = .ok (.iconst 0, 1) := fq_3 fk_cX10_grieves_0 4 rfl rfl
theorem dX10_grieves_5 : decode cX10_grieves 5 = .ok (.iload_n 1, 1) := fq_27 fk_cX10_grieves_0 5 rfl rfl
theorem dX10_grieves_6 : decode cX10_grieves 6 = .ok (.iadd, 1) := fq_96 fk_cX10_grieves_0 6 rfl rfl
theorem dX10_grieves_7 : decode cX10_grieves 7 = .ok (.iaload, 1) := fq_46 fk_cX10_grieves_0 7 rfl rfl
theorem dX10_grieves_8 : decode cX10_grieves 8 = .ok (.iload_n 2, 1) := fq_28 fk_cX10_grieves_0 8 rfl rfl
theorem dX10_grieves_9 : decode cX10_grieves 9 = .ok (.iadd, 1) := fq_96 fk_cX10_grieves_0 9 rfl rfl
theorem dX10_grieves_10 : decode cX10_grieves 10 = .ok (.istore_n 3, 1) := fq_62 fk_cX10_grieves_0 10 rfl rfl
theorem dX10_grieves_11 : decode cX10_grieves 11 = .ok (.aload_n 0, 1) := fq_42 fk_cX10_grieves_0 11 rfl rfl
theorem dX10_grieves_12 : decode cX10_grieves 12 = .ok (.getfield 7, 3) := fq_180 fk_cX10_grieves_0 12 rfl rfl rfl rfl rfl
theorem dX10_grieves_15 : decode cX10_grieves 15 = .ok (.iconst 0, 1) := fq_3 fk_cX10_grieves_0 15 rfl rfl
theorem fk_cX10_grieves_1 : fq_ck cX10_grieves 16 [27, 96, 42, 27, 182, 0, 207, 153, 0, 7, 3, 167, 0, 15, 29, 16, 99, 164] := fq_of fW_cX10_grieves 1 rfl rfl
theorem dX10_grieves_16 : decode cX10_grieves 16 = .ok (.iload_n 1, 1) := fq_27 fk_cX10_grieves_1 0 rfl rfl
theorem dX10_grieves_17 : decode cX10_grieves 17 = .ok (.iadd, 1) := fq_96 fk_cX10_grieves_1 1 rfl rfl
theorem dX10_grieves_18 : decode cX10_grieves 18 = .ok (.aload_n 0, 1) := fq_42 fk_cX10_grieves_1 2 rfl rfl
theorem dX10_grieves_19 : decode cX10_grieves 19 = .ok (.iload_n 1, 1) := fq_27 fk_cX10_grieves_1 3 rfl rfl
theorem dX10_grieves_20 : decode cX10_grieves 20 = .ok (.invokevirtual 207, 3) := fq_182 fk_cX10_grieves_1 4 rfl rfl rfl rfl rfl
theorem wd_567 : Cond.methodLink RX10 207 yX10_isDone ∈ BG := BG_at5 62 (by decide +kernel) rfl
theorem wd_568 : Cond.code yX10_isDone cX10_isDone 2 (some .boolean) ∈ BG := BG_at5 65 rfl rfl
theorem wd_569 : Cond.instanceMethod yX10_isDone ∈ BG := BG_at5 64 (by decide +kernel) rfl
theorem wd_570 : Cond.selects RX10 yX10_isDone yX10_isDone ∈ BG := BG_in (by decide +kernel) rfl
theorem okV_X10_isDone : okV yX10_isDone cX10_isDone 2 (some .boolean) 1 := ⟨⟨wd_568, wd_497, by decide +kernel⟩, wd_569, wd_570⟩
theorem dX10_grieves_23 : decode cX10_grieves 23 = .ok (.ifCond .eq 7, 3) := fq_153 fk_cX10_grieves_1 7 rfl rfl rfl rfl rfl
theorem dX10_grieves_30 : decode cX10_grieves 30 = .ok (.iload_n 3, 1) := fq_29 fk_cX10_grieves_1 14 rfl rfl
theorem dX10_grieves_31 : decode cX10_grieves 31 = .ok (.bipush 99, 2) := fq_16 fk_cX10_grieves_1 15 rfl rfl rfl rfl
theorem fk_cX10_grieves_2 : fq_ck cX10_grieves 32 [99, 164, 0, 8, 16, 99, 167, 0, 4, 29, 79, 177] := fq_of fW_cX10_grieves 2 rfl rfl
theorem dX10_grieves_33 : decode cX10_grieves 33 = .ok (.if_icmp .le 8, 3) := fq_164 fk_cX10_grieves_2 1 rfl rfl rfl rfl rfl
theorem dX10_grieves_41 : decode cX10_grieves 41 = .ok (.iload_n 3, 1) := fq_29 fk_cX10_grieves_2 9 rfl rfl
theorem dX10_grieves_42 : decode cX10_grieves 42 = .ok (.iastore, 1) := fq_79 fk_cX10_grieves_2 10 rfl rfl
theorem dX10_grieves_43 : decode cX10_grieves 43 = .ok (.return_, 1) := fq_177 fk_cX10_grieves_2 11 rfl rfl
theorem dX10_grieves_36 : decode cX10_grieves 36 = .ok (.bipush 99, 2) := fq_16 fk_cX10_grieves_2 4 rfl rfl rfl rfl
theorem dX10_grieves_38 : decode cX10_grieves 38 = .ok (.goto 4, 3) := fq_167 fk_cX10_grieves_2 6 rfl rfl rfl rfl rfl
theorem dX10_grieves_26 : decode cX10_grieves 26 = .ok (.iconst 0, 1) := fq_3 fk_cX10_grieves_1 10 rfl rfl
theorem dX10_grieves_27 : decode cX10_grieves 27 = .ok (.goto 15, 3) := fq_167 fk_cX10_grieves_1 11 rfl rfl rfl rfl rfl
noncomputable def f_m_undo (G : Nat → Int32) (f0 : Nat → Int32) : Int32 × (Nat → Int32) × (Nat → Int32) := (if (G 2) = 0 then ((-1000000003), G, f0) else (((upd G 2 ((G 2) - 1)) 2), (upd G 2 ((G 2) - 1)), (upd (f_m_copy f0 (462 + (42 * ((G 2) - 1))) 0) (41 : Int32).toNatClampNeg (f0 (41 : Int32).toNatClampNeg))))
def S_m_undo (G : Nat → Int32) (f0 : Nat → Int32) : Prop := (((G 2) = 0 → True) ∧ (¬ (G 2) = 0 → ((S_m_copy f0 (462 + (42 * ((G 2) - 1))) 0) ∧ True)))
def rm_m_undo : Room := { frames := 1, cells := 0, slots := 0, locals := 23 }
set_option maxHeartbeats 4000000 in
set_option maxRecDepth 100000 in
theorem m_undo {l : Launch} {D : va_G} {cI cZ : ClassId} {sz : Nat} (Rf : Nat → Nat) (h : Nat) (G : Nat → Int32) (f0 : Nat → Int32) (hF : S_m_undo G f0) : KI l yX10_undo cX10_undo 2 (some .int) rm_m_undo D cI cZ [.ref h] sz [(h, .inr (10, ML G Rf)), ((Rf 0), .inl (cI, 1302, .inl f0))] (fun (r : Int32) (u : (Nat → Int32) × (Nat → Int32)) => (r, u) = f_m_undo G f0) (fun (u : (Nat → Int32) × (Nat → Int32)) => [(h, .inr (10, ML u.1 Rf)), ((Rf 0), .inl (cI, 1302, .inl u.2))]) := by
  refine KI.go rfl (Nat.le_of_ble_eq_true rfl) ?_
  intro p e s m args below meth c ls A Q hx hb hml hts hown hin hP hK hD hS hA hN hl hret
  have hl : lv_has ls 2 [(0, .ref h)] := hl
  rw [S_m_undo] at hF
  obtain ⟨RES, hE⟩ : ∃ xRES, f_m_undo G f0 = xRES := ⟨_, rfl⟩
  rw [hE] at hret
  rw [f_m_undo] at hE
  refine lv_aload_n hx hb dX10_undo_0 rfl (lv_at hl 0 rfl) ?_
  refine va_get (D := D) (ci := 10) (v := .int (G 2)) (C := RX10) (T := TX10) (N := 45) hx hb hts iX10 hown hK hP 0 rfl rfl 2 (Nat.le_of_ble_eq_true rfl) (hts _ wd_556) (fun _ h9 => h9) rfl dX10_undo_1 ?_
  refine lv_if_ne (tgt := 10) hx hb dX10_undo_4 rfl (fun c_1 => ?_) (fun c_1 => ?_)
  · replace hF := hF.2 c_1
    rw [if_neg c_1] at hE
    refine lv_aload_n hx hb dX10_undo_10 rfl (lv_at hl 0 rfl) ?_
    refine va_get (D := D) (ci := 10) (v := .ref (Rf 0)) (C := RX10) (T := TX10) (N := 45) hx hb hts iX10 hown hK hP 0 rfl rfl 0 (Nat.le_of_ble_eq_true rfl) (hts _ wd_491) (fun _ h9 => h9) rfl dX10_undo_11 ?_
    refine lv_bipush (v := 41) hx hb dX10_undo_14 rfl ?_
    refine va_iald hx hb hK hP 1 0 rfl rfl (show ¬ ((41 : Int32) < 0 ∨ 1302 ≤ (41 : Int32).toNatClampNeg) by decide +kernel) dX10_undo_16 ?_
    refine lv_istore_n (lv' := [(1, .int (f0 (41 : Int32).toNatClampNeg)), (0, .ref h)]) hx hb dX10_undo_17 rfl hl (Nat.le_of_ble_eq_true rfl) rfl (fun ls hl => ?_)
    refine lv_aload_n hx hb dX10_undo_18 rfl (lv_at hl 1 rfl) ?_
    refine lv_dup hx hb dX10_undo_19 rfl ?_
    refine va_get (D := D) (ci := 10) (v := .int (G 2)) (C := RX10) (T := TX10) (N := 45) hx hb hts iX10 hown hK hP 0 rfl rfl 2 (Nat.le_of_ble_eq_true rfl) (hts _ wd_556) (fun _ h9 => h9) rfl dX10_undo_20 ?_
    refine lv_iconst (v := 1) hx hb dX10_undo_23 rfl ?_
    refine lv_isub hx hb dX10_undo_24 ?_
    refine va_put (D := D) (ci := 10) (v := .int ((G 2) - 1)) (ty := .int) (C := RX10) (T := TX10) (N := 45) hx hb hts iX10 tyX10 tyX10_ok nmX10 hown hK hP hD hS 0 rfl rfl 2 (Nat.le_of_ble_eq_true rfl) (hts _ wd_556) (fun _ h9 => h9) rfl (by decide +kernel) rfl rfl (Nat.le_of_ble_eq_true rfl) dX10_undo_25 (fun H locs hP hD hS => ?_)
    have hP : va_P D classes [(h, .inr (10, ML (upd G 2 ((G 2) - 1)) Rf)), ((Rf 0), .inl (cI, 1302, .inl f0))] H := hP
    have hD : va_D A [(h, .inr (10, ML (upd G 2 ((G 2) - 1)) Rf)), ((Rf 0), .inl (cI, 1302, .inl f0))] := hD
    refine lv_aload_n hx hb dX10_undo_28 rfl (lv_at hl 1 rfl) ?_
    refine lv_sipush (v := 462) hx hb dX10_undo_29 rfl ?_
    refine lv_bipush (v := 42) hx hb dX10_undo_32 rfl ?_
    refine lv_aload_n hx hb dX10_undo_34 rfl (lv_at hl 1 rfl) ?_
    refine va_get (D := D) (ci := 10) (v := .int ((G 2) - 1)) (C := RX10) (T := TX10) (N := 45) hx hb hts iX10 hown hK hP 0 rfl rfl 2 (Nat.le_of_ble_eq_true rfl) (hts _ wd_556) (fun _ h9 => h9) rfl dX10_undo_35 ?_
    refine lv_imul hx hb dX10_undo_38 ?_
    refine lv_iadd hx hb dX10_undo_39 ?_
    refine lv_iconst (v := 0) hx hb dX10_undo_40 rfl ?_
    obtain ⟨hs_2, hF⟩ := hF
    refine cVv (wr := []) (rest := []) (m_copy Rf h (upd G 2 ((G 2) - 1)) f0 (462 + (42 * ((G 2) - 1))) 0 hs_2) okV_X10_copy wd_557 hx hb hml hown hts hK hP hD hS hA hN hl.1 [0, 1] [] rfl rfl rfl rfl (of_decide_eq_true rfl) rfl rfl rfl (Nat.le_of_ble_eq_true rfl) (Nat.le_of_ble_eq_true rfl) (Nat.le_of_ble_eq_true rfl) (Nat.le_of_ble_eq_true rfl) (Nat.le_of_ble_eq_true rfl) dX10_undo_41 (fun u_3 H locs hw_u_3 hP hD hS => ?_)
    replace hw_u_3 : u_3 = (f_m_copy f0 (462 + (42 * ((G 2) - 1))) 0) := hw_u_3
    subst hw_u_3
    have hP : va_P D classes [(h, .inr (10, ML (upd G 2 ((G 2) - 1)) Rf)), ((Rf 0), .inl (cI, 1302, .inl (f_m_copy f0 (462 + (42 * ((G 2) - 1))) 0)))] H := hP
    have hD : va_D A [(h, .inr (10, ML (upd G 2 ((G 2) - 1)) Rf)), ((Rf 0), .inl (cI, 1302, .inl (f_m_copy f0 (462 + (42 * ((G 2) - 1))) 0)))] := hD
    refine lv_aload_n hx hb dX10_undo_44 rfl (lv_at hl 1 rfl) ?_
    refine va_get (D := D) (ci := 10) (v := .ref (Rf 0)) (C := RX10) (T := TX10) (N := 45) hx hb hts iX10 hown hK hP 0 rfl rfl 0 (Nat.le_of_ble_eq_true rfl) (hts _ wd_491) (fun _ h9 => h9) rfl dX10_undo_45 ?_
    refine lv_bipush (v := 41) hx hb dX10_undo_48 rfl ?_
    refine lv_iload_n hx hb dX10_undo_50 rfl (lv_at hl 0 rfl) ?_
    refine va_iast hx hb hK hP hD hS 1 0 rfl rfl (show ¬ ((41 : Int32) < 0 ∨ 1302 ≤ (41 : Int32).toNatClampNeg) by decide +kernel) dX10_undo_51 (fun H locs hP hD hS => ?_)
    have hP : va_P D classes [(h, .inr (10, ML (upd G 2 ((G 2) - 1)) Rf)), ((Rf 0), .inl (cI, 1302, .inl (upd (f_m_copy f0 (462 + (42 * ((G 2) - 1))) 0) (41 : Int32).toNatClampNeg (f0 (41 : Int32).toNatClampNeg))))] H := hP
    have hD : va_D A [(h, .inr (10, ML (upd G 2 ((G 2) - 1)) Rf)), ((Rf 0), .inl (cI, 1302, .inl (upd (f_m_copy f0 (462 + (42 * ((G 2) - 1))) 0) (41 : Int32).toNatClampNeg (f0 (41 : Int32).toNatClampNeg))))] := hD
    refine lv_aload_n hx hb dX10_undo_52 rfl (lv_at hl 1 rfl) ?_
    refine va_get (D := D) (ci := 10) (v := .int ((upd G 2 ((G 2) - 1)) 2)) (C := RX10) (T := TX10) (N := 45) hx hb hts iX10 hown hK hP 0 rfl rfl 2 (Nat.le_of_ble_eq_true rfl) (hts _ wd_556) (fun _ h9 => h9) rfl dX10_undo_53 ?_
    exact hret ((upd G 2 ((G 2) - 1)) 2) ((upd G 2 ((G 2) - 1)), (upd (f_m_copy f0 (462 + (42 * ((G 2) - 1))) 0) (41 : Int32).toNatClampNeg (f0 (41 : Int32).toNatClampNeg))) _ _ _ _ dX10_undo_56 rfl hE hP hD hS
  · replace hF := hF.1 c_1
    rw [if_pos c_1] at hE
    refine lv_ldc (v := (-1000000003)) hx hb hown (hts _ wd_562) dX10_undo_7 ?_
    exact hret (-1000000003) (G, f0) _ _ _ _ dX10_undo_9 rfl hE hP hD hS
noncomputable def f_m_draw (f0 : Nat → Int32) (n_ : Int32) : Int32 × (Nat → Int32) := (((((upd f0 (41 : Int32).toNatClampNeg (((((((f0 (41 : Int32).toNatClampNeg)).toInt64 * 1103515245) + 12345) - ((((f0 (41 : Int32).toNatClampNeg)).toInt64 * 1103515245) + 12345) / 2147483648 * 2147483648)).toInt32)) (41 : Int32).toNatClampNeg) / 65536) - (((upd f0 (41 : Int32).toNatClampNeg (((((((f0 (41 : Int32).toNatClampNeg)).toInt64 * 1103515245) + 12345) - ((((f0 (41 : Int32).toNatClampNeg)).toInt64 * 1103515245) + 12345) / 2147483648 * 2147483648)).toInt32)) (41 : Int32).toNatClampNeg) / 65536) / n_ * n_), (upd f0 (41 : Int32).toNatClampNeg (((((((f0 (41 : Int32).toNatClampNeg)).toInt64 * 1103515245) + 12345) - ((((f0 (41 : Int32).toNatClampNeg)).toInt64 * 1103515245) + 12345) / 2147483648 * 2147483648)).toInt32)))
def S_m_draw (f0 : Nat → Int32) (n_ : Int32) : Prop := (¬ n_ = 0 ∧ True)
def rm_m_draw : Room := { frames := 0, cells := 0, slots := 0, locals := 0 }
set_option maxHeartbeats 4000000 in
set_option maxRecDepth 100000 in
theorem m_draw {l : Launch} {D : va_G} {cI cZ : ClassId} {sz : Nat} (Rf : Nat → Nat) (h : Nat) (G : Nat → Int32) (f0 : Nat → Int32) (n_ : Int32) (hF : S_m_draw f0 n_) : KI l yX10_draw cX10_draw 2 (some .int) rm_m_draw D cI cZ [.ref h, .int n_] sz [(h, .inr (10, ML G Rf)), ((Rf 0), .inl (cI, 1302, .inl f0))] (fun (r : Int32) (u : (Nat → Int32)) => (r, u) = f_m_draw f0 n_) (fun (u : (Nat → Int32)) => [(h, .inr (10, ML G Rf)), ((Rf 0), .inl (cI, 1302, .inl u))]) := by
  refine KI.go rfl (Nat.le_of_ble_eq_true rfl) ?_
  intro p e s m args below meth c ls A Q hx hb hml hts hown hin hP hK hD hS hA hN hl hret
  have hl : lv_has ls 2 [(0, .ref h), (1, .int n_)] := hl
  rw [S_m_draw] at hF
  obtain ⟨RES, hE⟩ : ∃ xRES, f_m_draw f0 n_ = xRES := ⟨_, rfl⟩
  rw [hE] at hret
  rw [f_m_draw] at hE
  refine lv_aload_n hx hb dX10_draw_0 rfl (lv_at hl 0 rfl) ?_
  refine va_get (D := D) (ci := 10) (v := .ref (Rf 0)) (C := RX10) (T := TX10) (N := 45) hx hb hts iX10 hown hK hP 0 rfl rfl 0 (Nat.le_of_ble_eq_true rfl) (hts _ wd_491) (fun _ h9 => h9) rfl dX10_draw_1 ?_
  refine lv_bipush (v := 41) hx hb dX10_draw_4 rfl ?_
  refine lv_aload_n hx hb dX10_draw_6 rfl (lv_at hl 0 rfl) ?_
  refine va_get (D := D) (ci := 10) (v := .ref (Rf 0)) (C := RX10) (T := TX10) (N := 45) hx hb hts iX10 hown hK hP 0 rfl rfl 0 (Nat.le_of_ble_eq_true rfl) (hts _ wd_491) (fun _ h9 => h9) rfl dX10_draw_7 ?_
  refine lv_bipush (v := 41) hx hb dX10_draw_10 rfl ?_
  refine va_iald hx hb hK hP 1 0 rfl rfl (show ¬ ((41 : Int32) < 0 ∨ 1302 ≤ (41 : Int32).toNatClampNeg) by decide +kernel) dX10_draw_12 ?_
  refine lv_i2l (v := ((f0 (41 : Int32).toNatClampNeg)).toInt64) hx hb dX10_draw_13 rfl ?_
  refine lv_ldc2 (v := 1103515245) hx hb hown (hts _ wd_563) dX10_draw_14 ?_
  refine lv_lmul hx hb dX10_draw_17 ?_
  refine lv_ldc2 (v := 12345) hx hb hown (hts _ wd_564) dX10_draw_18 ?_
  refine lv_ladd hx hb dX10_draw_21 ?_
  refine lv_ldc2 (v := 2147483648) hx hb hown (hts _ wd_565) dX10_draw_22 ?_
  refine lv_lrem hx hb dX10_draw_25 (by decide) ?_
  refine lv_l2i (v := ((((((f0 (41 : Int32).toNatClampNeg)).toInt64 * 1103515245) + 12345) - ((((f0 (41 : Int32).toNatClampNeg)).toInt64 * 1103515245) + 12345) / 2147483648 * 2147483648)).toInt32) hx hb dX10_draw_26 rfl ?_
  refine va_iast hx hb hK hP hD hS 1 0 rfl rfl (show ¬ ((41 : Int32) < 0 ∨ 1302 ≤ (41 : Int32).toNatClampNeg) by decide +kernel) dX10_draw_27 (fun H locs hP hD hS => ?_)
  have hP : va_P D classes [(h, .inr (10, ML G Rf)), ((Rf 0), .inl (cI, 1302, .inl (upd f0 (41 : Int32).toNatClampNeg (((((((f0 (41 : Int32).toNatClampNeg)).toInt64 * 1103515245) + 12345) - ((((f0 (41 : Int32).toNatClampNeg)).toInt64 * 1103515245) + 12345) / 2147483648 * 2147483648)).toInt32))))] H := hP
  have hD : va_D A [(h, .inr (10, ML G Rf)), ((Rf 0), .inl (cI, 1302, .inl (upd f0 (41 : Int32).toNatClampNeg (((((((f0 (41 : Int32).toNatClampNeg)).toInt64 * 1103515245) + 12345) - ((((f0 (41 : Int32).toNatClampNeg)).toInt64 * 1103515245) + 12345) / 2147483648 * 2147483648)).toInt32))))] := hD
  refine lv_aload_n hx hb dX10_draw_28 rfl (lv_at hl 0 rfl) ?_
  refine va_get (D := D) (ci := 10) (v := .ref (Rf 0)) (C := RX10) (T := TX10) (N := 45) hx hb hts iX10 hown hK hP 0 rfl rfl 0 (Nat.le_of_ble_eq_true rfl) (hts _ wd_491) (fun _ h9 => h9) rfl dX10_draw_29 ?_
  refine lv_bipush (v := 41) hx hb dX10_draw_32 rfl ?_
  refine va_iald hx hb hK hP 1 0 rfl rfl (show ¬ ((41 : Int32) < 0 ∨ 1302 ≤ (41 : Int32).toNatClampNeg) by decide +kernel) dX10_draw_34 ?_
  refine lv_ldcw (v := 65536) hx hb hown (hts _ wd_566) dX10_draw_35 ?_
  refine lv_idiv hx hb dX10_draw_38 (by decide) ?_
  refine lv_iload_n hx hb dX10_draw_39 rfl (lv_at hl 1 rfl) ?_
  obtain ⟨hv_1, hF⟩ := hF
  refine lv_irem hx hb dX10_draw_40 hv_1 ?_
  exact hret ((((upd f0 (41 : Int32).toNatClampNeg (((((((f0 (41 : Int32).toNatClampNeg)).toInt64 * 1103515245) + 12345) - ((((f0 (41 : Int32).toNatClampNeg)).toInt64 * 1103515245) + 12345) / 2147483648 * 2147483648)).toInt32)) (41 : Int32).toNatClampNeg) / 65536) - (((upd f0 (41 : Int32).toNatClampNeg (((((((f0 (41 : Int32).toNatClampNeg)).toInt64 * 1103515245) + 12345) - ((((f0 (41 : Int32).toNatClampNeg)).toInt64 * 1103515245) + 12345) / 2147483648 * 2147483648)).toInt32)) (41 : Int32).toNatClampNeg) / 65536) / n_ * n_) (upd f0 (41 : Int32).toNatClampNeg (((((((f0 (41 : Int32).toNatClampNeg)).toInt64 * 1103515245) + 12345) - ((((f0 (41 : Int32).toNatClampNeg)).toInt64 * 1103515245) + 12345) / 2147483648 * 2147483648)).toInt32)) _ _ _ _ dX10_draw_41 rfl hE hP hD hS
noncomputable def f_m_grieves (f0 : Nat → Int32) (c_ : Int32) (m_ : Int32) : (Nat → Int32) := (if (f_m_isDone f0 c_) = 0 then (if ((f0 ((0 + c_) : Int32).toNatClampNeg) + m_) ≤ 99 then (upd f0 ((0 + c_) : Int32).toNatClampNeg ((f0 ((0 + c_) : Int32).toNatClampNeg) + m_)) else (upd f0 ((0 + c_) : Int32).toNatClampNeg 99)) else (upd f0 ((0 + c_) : Int32).toNatClampNeg 0))
def S_m_grieves (f0 : Nat → Int32) (c_ : Int32) (m_ : Int32) : Prop := (vp_in (0 + c_) 1302 ∧ ((S_m_isDone f0 c_) ∧ (((f_m_isDone f0 c_) = 0 → ((((f0 ((0 + c_) : Int32).toNatClampNeg) + m_) ≤ 99 → (vp_in (0 + c_) 1302 ∧ True)) ∧ (¬ ((f0 ((0 + c_) : Int32).toNatClampNeg) + m_) ≤ 99 → (vp_in (0 + c_) 1302 ∧ True)))) ∧ (¬ (f_m_isDone f0 c_) = 0 → (vp_in (0 + c_) 1302 ∧ True)))))
def rm_m_grieves : Room := { frames := 2, cells := 0, slots := 0, locals := 42 }
set_option maxHeartbeats 4000000 in
set_option maxRecDepth 100000 in
theorem m_grieves {l : Launch} {D : va_G} {cI cZ : ClassId} {sz : Nat} (Rf : Nat → Nat) (h : Nat) (G : Nat → Int32) (f0 : Nat → Int32) (c_ : Int32) (m_ : Int32) (hF : S_m_grieves f0 c_ m_) : KV l yX10_grieves cX10_grieves 4 rm_m_grieves D cI cZ [.ref h, .int c_, .int m_] sz [(h, .inr (10, ML G Rf)), ((Rf 0), .inl (cI, 1302, .inl f0))] (fun (u : (Nat → Int32)) => u = f_m_grieves f0 c_ m_) (fun (u : (Nat → Int32)) => [(h, .inr (10, ML G Rf)), ((Rf 0), .inl (cI, 1302, .inl u))]) := by
  refine KV.go rfl (Nat.le_of_ble_eq_true rfl) ?_
  intro p e s m args below meth c ls A Q hx hb hml hts hown hin hP hK hD hS hA hN hl hret
  have hl : lv_has ls 4 [(0, .ref h), (1, .int c_), (2, .int m_)] := hl
  rw [S_m_grieves] at hF
  obtain ⟨RES, hE⟩ : ∃ xRES, f_m_grieves f0 c_ m_ = xRES := ⟨_, rfl⟩
  rw [hE] at hret
  rw [f_m_grieves] at hE
  refine lv_aload_n hx hb dX10_grieves_0 rfl (lv_at hl 0 rfl) ?_
  refine va_get (D := D) (ci := 10) (v := .ref (Rf 0)) (C := RX10) (T := TX10) (N := 45) hx hb hts iX10 hown hK hP 0 rfl rfl 0 (Nat.le_of_ble_eq_true rfl) (hts _ wd_491) (fun _ h9 => h9) rfl dX10_grieves_1 ?_
  refine lv_iconst (v := 0) hx hb dX10_grieves_4 rfl ?_
  refine lv_iload_n hx hb dX10_grieves_5 rfl (lv_at hl 1 rfl) ?_
  refine lv_iadd hx hb dX10_grieves_6 ?_
  obtain ⟨hv_1, hF⟩ := hF
  refine va_iald hx hb hK hP 1 0 rfl rfl hv_1 dX10_grieves_7 ?_
  refine lv_iload_n hx hb dX10_grieves_8 rfl (lv_at hl 2 rfl) ?_
  refine lv_iadd hx hb dX10_grieves_9 ?_
  refine lv_istore_n (lv' := [(3, .int ((f0 ((0 + c_) : Int32).toNatClampNeg) + m_)), (0, .ref h), (1, .int c_), (2, .int m_)]) hx hb dX10_grieves_10 rfl hl (Nat.le_of_ble_eq_true rfl) rfl (fun ls hl => ?_)
  refine lv_aload_n hx hb dX10_grieves_11 rfl (lv_at hl 1 rfl) ?_
  refine va_get (D := D) (ci := 10) (v := .ref (Rf 0)) (C := RX10) (T := TX10) (N := 45) hx hb hts iX10 hown hK hP 0 rfl rfl 0 (Nat.le_of_ble_eq_true rfl) (hts _ wd_491) (fun _ h9 => h9) rfl dX10_grieves_12 ?_
  refine lv_iconst (v := 0) hx hb dX10_grieves_15 rfl ?_
  refine lv_iload_n hx hb dX10_grieves_16 rfl (lv_at hl 2 rfl) ?_
  refine lv_iadd hx hb dX10_grieves_17 ?_
  refine lv_aload_n hx hb dX10_grieves_18 rfl (lv_at hl 1 rfl) ?_
  refine lv_iload_n hx hb dX10_grieves_19 rfl (lv_at hl 2 rfl) ?_
  obtain ⟨hs_2, hF⟩ := hF
  refine cVi (wr := []) (rest := [.int (0 + c_), .ref (Rf 0)]) (m_isDone Rf h G f0 c_ hs_2) okV_X10_isDone wd_567 hx hb hml hown hts hK hP hD hS hA hN hl.1 [0, 1] [] rfl rfl rfl rfl (of_decide_eq_true rfl) rfl rfl rfl (Nat.le_of_ble_eq_true rfl) (Nat.le_of_ble_eq_true rfl) (Nat.le_of_ble_eq_true rfl) (Nat.le_of_ble_eq_true rfl) (Nat.le_of_ble_eq_true rfl) dX10_grieves_20 (fun r_4 u_3 H locs hw_u_3 hP hD hS => ?_)
  replace hw_u_3 : r_4 = (f_m_isDone f0 c_) := hw_u_3
  rw [hw_u_3]
  clear hw_u_3
  have hP : va_P D classes [(h, .inr (10, ML G Rf)), ((Rf 0), .inl (cI, 1302, .inl f0))] H := hP
  have hD : va_D A [(h, .inr (10, ML G Rf)), ((Rf 0), .inl (cI, 1302, .inl f0))] := hD
  refine lv_if_eq (tgt := 30) hx hb dX10_grieves_23 rfl (fun c_5 => ?_) (fun c_5 => ?_)
  · replace hF := hF.1 c_5
    rw [if_pos c_5] at hE
    refine lv_iload_n hx hb dX10_grieves_30 rfl (lv_at hl 0 rfl) ?_
    refine lv_bipush (v := 99) hx hb dX10_grieves_31 rfl ?_
    refine lv_icmp_le (tgt := 41) hx hb dX10_grieves_33 rfl (fun c_6 => ?_) (fun c_6 => ?_)
    · replace hF := hF.1 c_6
      rw [if_pos c_6] at hE
      refine lv_iload_n hx hb dX10_grieves_41 rfl (lv_at hl 0 rfl) ?_
      obtain ⟨hv_7, hF⟩ := hF
      refine va_iast hx hb hK hP hD hS 1 0 rfl rfl hv_7 dX10_grieves_42 (fun H locs hP hD hS => ?_)
      have hP : va_P D classes [(h, .inr (10, ML G Rf)), ((Rf 0), .inl (cI, 1302, .inl (upd f0 ((0 + c_) : Int32).toNatClampNeg ((f0 ((0 + c_) : Int32).toNatClampNeg) + m_))))] H := hP
      have hD : va_D A [(h, .inr (10, ML G Rf)), ((Rf 0), .inl (cI, 1302, .inl (upd f0 ((0 + c_) : Int32).toNatClampNeg ((f0 ((0 + c_) : Int32).toNatClampNeg) + m_))))] := hD
      exact hret (upd f0 ((0 + c_) : Int32).toNatClampNeg ((f0 ((0 + c_) : Int32).toNatClampNeg) + m_)) _ _ _ _ dX10_grieves_43 hE hP hD hS
    · replace hF := hF.2 c_6
      rw [if_neg c_6] at hE
      refine lv_bipush (v := 99) hx hb dX10_grieves_36 rfl ?_
      refine lv_goto (tgt := 42) hx hb dX10_grieves_38 rfl ?_
      obtain ⟨hv_8, hF⟩ := hF
      refine va_iast hx hb hK hP hD hS 1 0 rfl rfl hv_8 dX10_grieves_42 (fun H locs hP hD hS => ?_)
      have hP : va_P D classes [(h, .inr (10, ML G Rf)), ((Rf 0), .inl (cI, 1302, .inl (upd f0 ((0 + c_) : Int32).toNatClampNeg 99)))] H := hP
      have hD : va_D A [(h, .inr (10, ML G Rf)), ((Rf 0), .inl (cI, 1302, .inl (upd f0 ((0 + c_) : Int32).toNatClampNeg 99)))] := hD
      exact hret (upd f0 ((0 + c_) : Int32).toNatClampNeg 99) _ _ _ _ dX10_grieves_43 hE hP hD hS
  · replace hF := hF.2 c_5
    rw [if_neg c_5] at hE
    refine lv_iconst (v := 0) hx hb dX10_grieves_26 rfl ?_
    refine lv_goto (tgt := 42) hx hb dX10_grieves_27 rfl ?_
    obtain ⟨hv_9, hF⟩ := hF
    refine va_iast hx hb hK hP hD hS 1 0 rfl rfl hv_9 dX10_grieves_42 (fun H locs hP hD hS => ?_)
    have hP : va_P D classes [(h, .inr (10, ML G Rf)), ((Rf 0), .inl (cI, 1302, .inl (upd f0 ((0 + c_) : Int32).toNatClampNeg 0)))] H := hP
    have hD : va_D A [(h, .inr (10, ML G Rf)), ((Rf 0), .inl (cI, 1302, .inl (upd f0 ((0 + c_) : Int32).toNatClampNeg 0)))] := hD
    exact hret (upd f0 ((0 + c_) : Int32).toNatClampNeg 0) _ _ _ _ dX10_grieves_43 hE hP hD hS
end
section
def fw_cX10_fault : List (List Nat) := [[42, 180, 0, 39, 172]]
theorem fW_cX10_fault : fq_wins 1 cX10_fault.data.toList = fw_cX10_fault := by decide +kernel
theorem fk_cX10_fault_0 : fq_ck cX10_fault 0 [42, 180, 0, 39, 172] := fq_of fW_cX10_fault 0 rfl rfl
theorem dX10_fault_0 : decode cX10_fault 0 = .ok (.aload_n 0, 1) := fq_42 fk_cX10_fault_0 0 rfl rfl
theorem dX10_fault_1 : decode cX10_fault 1 = .ok (.getfield 39, 3) := fq_180 fk_cX10_fault_0 1 rfl rfl rfl rfl rfl
theorem dX10_fault_4 : decode cX10_fault 4 = .ok (.ireturn, 1) := fq_172 fk_cX10_fault_0 4 rfl rfl
def fw_cX10_bridge : List (List Nat) := [[42, 27, 182, 0, 196, 154, 0, 6, 18, 199, 172, 28, 154, 0, 12, 42, 180, 0], [180, 0, 21, 27, 46, 167, 0, 19, 28, 4, 160, 0, 12, 42, 3, 27, 182, 0], [182, 0, 200, 167, 0, 5, 18, 93, 172]]
theorem fW_cX10_bridge : fq_wins 3 cX10_bridge.data.toList = fw_cX10_bridge := by decide +kernel
theorem fk_cX10_bridge_0 : fq_ck cX10_bridge 0 [42, 27, 182, 0, 196, 154, 0, 6, 18, 199, 172, 28, 154, 0, 12, 42, 180, 0] := fq_of fW_cX10_bridge 0 rfl rfl
theorem dX10_bridge_0 : decode cX10_bridge 0 = .ok (.aload_n 0, 1) := fq_42 fk_cX10_bridge_0 0 rfl rfl
theorem dX10_bridge_1 : decode cX10_bridge 1 = .ok (.iload_n 1, 1) := fq_27 fk_cX10_bridge_0 1 rfl rfl
theorem dX10_bridge_2 : decode cX10_bridge 2 = .ok (.invokevirtual 196, 3) := fq_182 fk_cX10_bridge_0 2 rfl rfl rfl rfl rfl
theorem wd_571 : Cond.methodLink RX10 196 yX10_isBridge ∈ BG := BG_at5 45 (by decide +kernel) rfl
theorem wd_572 : Cond.code yX10_isBridge cX10_isBridge 2 (some .boolean) ∈ BG := BG_at5 48 rfl rfl
theorem wd_573 : Cond.instanceMethod yX10_isBridge ∈ BG := BG_at5 47 (by decide +kernel) rfl
theorem wd_574 : Cond.selects RX10 yX10_isBridge yX10_isBridge ∈ BG := BG_in (by decide +kernel) rfl
theorem okV_X10_isBridge : okV yX10_isBridge cX10_isBridge 2 (some .boolean) 1 := ⟨⟨wd_572, wd_497, by decide +kernel⟩, wd_573, wd_574⟩
theorem dX10_bridge_5 : decode cX10_bridge 5 = .ok (.ifCond .ne 6, 3) := fq_154 fk_cX10_bridge_0 5 rfl rfl rfl rfl rfl
theorem dX10_bridge_11 : decode cX10_bridge 11 = .ok (.iload_n 2, 1) := fq_28 fk_cX10_bridge_0 11 rfl rfl
theorem dX10_bridge_12 : decode cX10_bridge 12 = .ok (.ifCond .ne 12, 3) := fq_154 fk_cX10_bridge_0 12 rfl rfl rfl rfl rfl
theorem fk_cX10_bridge_1 : fq_ck cX10_bridge 16 [180, 0, 21, 27, 46, 167, 0, 19, 28, 4, 160, 0, 12, 42, 3, 27, 182, 0] := fq_of fW_cX10_bridge 1 rfl rfl
theorem dX10_bridge_24 : decode cX10_bridge 24 = .ok (.iload_n 2, 1) := fq_28 fk_cX10_bridge_1 8 rfl rfl
theorem dX10_bridge_25 : decode cX10_bridge 25 = .ok (.iconst 1, 1) := fq_4 fk_cX10_bridge_1 9 rfl rfl
theorem dX10_bridge_26 : decode cX10_bridge 26 = .ok (.if_icmp .ne 12, 3) := fq_160 fk_cX10_bridge_1 10 rfl rfl rfl rfl rfl
theorem fk_cX10_bridge_2 : fq_ck cX10_bridge 32 [182, 0, 200, 167, 0, 5, 18, 93, 172] := fq_of fW_cX10_bridge 2 rfl rfl
theorem dX10_bridge_38 : decode cX10_bridge 38 = .ok (.ldc 93, 2) := fq_18 fk_cX10_bridge_2 6 rfl rfl rfl
theorem dX10_bridge_40 : decode cX10_bridge 40 = .ok (.ireturn, 1) := fq_172 fk_cX10_bridge_2 8 rfl rfl
theorem dX10_bridge_29 : decode cX10_bridge 29 = .ok (.aload_n 0, 1) := fq_42 fk_cX10_bridge_1 13 rfl rfl
theorem dX10_bridge_30 : decode cX10_bridge 30 = .ok (.iconst 0, 1) := fq_3 fk_cX10_bridge_1 14 rfl rfl
theorem dX10_bridge_31 : decode cX10_bridge 31 = .ok (.iload_n 1, 1) := fq_27 fk_cX10_bridge_1 15 rfl rfl
theorem dX10_bridge_32 : decode cX10_bridge 32 = .ok (.invokevirtual 200, 3) := fq_182 fk_cX10_bridge_2 0 rfl rfl rfl rfl rfl
theorem wd_575 : Cond.methodLink RX10 200 yX10_whoIsAt ∈ BG := BG_at5 50 (by decide +kernel) rfl
theorem wd_576 : Cond.code yX10_whoIsAt cX10_whoIsAt 5 (some .int) ∈ BG := BG_at5 53 rfl rfl
theorem wd_577 : Cond.instanceMethod yX10_whoIsAt ∈ BG := BG_at5 52 (by decide +kernel) rfl
theorem wd_578 : Cond.selects RX10 yX10_whoIsAt yX10_whoIsAt ∈ BG := BG_in (by decide +kernel) rfl
theorem okV_X10_whoIsAt : okV yX10_whoIsAt cX10_whoIsAt 5 (some .int) 2 := ⟨⟨wd_576, wd_497, by decide +kernel⟩, wd_577, wd_578⟩
theorem dX10_bridge_35 : decode cX10_bridge 35 = .ok (.goto 5, 3) := fq_167 fk_cX10_bridge_2 3 rfl rfl rfl rfl rfl
theorem dX10_bridge_15 : decode cX10_bridge 15 = .ok (.aload_n 0, 1) := fq_42 fk_cX10_bridge_0 15 rfl rfl
theorem wd_579 : Cond.fieldLink RX10 21 "QuarrelBridgesModel" "needs" "[I" ∈ BG := BG_at4 71 (by decide +kernel) rfl
theorem dX10_bridge_16 : decode cX10_bridge 16 = .ok (.getfield 21, 3) := fq_180 fk_cX10_bridge_1 0 rfl rfl rfl rfl rfl
theorem dX10_bridge_19 : decode cX10_bridge 19 = .ok (.iload_n 1, 1) := fq_27 fk_cX10_bridge_1 3 rfl rfl
theorem dX10_bridge_20 : decode cX10_bridge 20 = .ok (.iaload, 1) := fq_46 fk_cX10_bridge_1 4 rfl rfl
theorem dX10_bridge_21 : decode cX10_bridge 21 = .ok (.goto 19, 3) := fq_167 fk_cX10_bridge_1 5 rfl rfl rfl rfl rfl
theorem wd_580 : Cond.constant RX10 199 (-1000000001) ∈ BG := BG_at5 49 (by decide +kernel) rfl
theorem dX10_bridge_8 : decode cX10_bridge 8 = .ok (.ldc 199, 2) := fq_18 fk_cX10_bridge_0 8 rfl rfl rfl
theorem dX10_bridge_10 : decode cX10_bridge 10 = .ok (.ireturn, 1) := fq_172 fk_cX10_bridge_0 10 rfl rfl
def fw_cX10_couple : List (List Nat) := [[42, 27, 182, 0, 204, 154, 0, 6, 18, 199, 172, 28, 170, 0, 0, 0, 0, 0], [0, 0, 0, 86, 0, 0, 0, 0, 0, 0, 0, 4, 0, 0, 0, 36, 0, 0], [0, 0, 0, 45, 0, 0, 0, 52, 0, 0, 0, 62, 0, 0, 0, 72, 42, 180], [42, 180, 0, 7, 3, 27, 96, 46, 172, 42, 180, 0, 24, 27, 46, 172, 42, 180], [42, 180, 0, 7, 16, 6, 27, 96, 46, 172, 42, 180, 0, 7, 16, 12, 27, 96], [27, 96, 46, 172, 42, 27, 182, 0, 207, 153, 0, 7, 4, 167, 0, 4, 3, 172], [3, 172, 18, 93, 172]]
theorem fW_cX10_couple : fq_wins 7 cX10_couple.data.toList = fw_cX10_couple := by decide +kernel
theorem fk_cX10_couple_0 : fq_ck cX10_couple 0 [42, 27, 182, 0, 204, 154, 0, 6, 18, 199, 172, 28, 170, 0, 0, 0, 0, 0] := fq_of fW_cX10_couple 0 rfl rfl
theorem dX10_couple_0 : decode cX10_couple 0 = .ok (.aload_n 0, 1) := fq_42 fk_cX10_couple_0 0 rfl rfl
theorem dX10_couple_1 : decode cX10_couple 1 = .ok (.iload_n 1, 1) := fq_27 fk_cX10_couple_0 1 rfl rfl
theorem dX10_couple_2 : decode cX10_couple 2 = .ok (.invokevirtual 204, 3) := fq_182 fk_cX10_couple_0 2 rfl rfl rfl rfl rfl
theorem wd_581 : Cond.methodLink RX10 204 yX10_isCouple ∈ BG := BG_at5 58 (by decide +kernel) rfl
theorem wd_582 : Cond.code yX10_isCouple cX10_isCouple 2 (some .boolean) ∈ BG := BG_at5 61 rfl rfl
theorem wd_583 : Cond.instanceMethod yX10_isCouple ∈ BG := BG_at5 60 (by decide +kernel) rfl
theorem wd_584 : Cond.selects RX10 yX10_isCouple yX10_isCouple ∈ BG := BG_in (by decide +kernel) rfl
theorem okV_X10_isCouple : okV yX10_isCouple cX10_isCouple 2 (some .boolean) 1 := ⟨⟨wd_582, wd_497, by decide +kernel⟩, wd_583, wd_584⟩
theorem dX10_couple_5 : decode cX10_couple 5 = .ok (.ifCond .ne 6, 3) := fq_154 fk_cX10_couple_0 5 rfl rfl rfl rfl rfl
theorem dX10_couple_11 : decode cX10_couple 11 = .ok (.iload_n 2, 1) := fq_28 fk_cX10_couple_0 11 rfl rfl
theorem dX10_couple_12 : decode cX10_couple 12 = .ok (.tableswitch 86 0 4 #[36, 45, 52, 62, 72], 36) := by decide +kernel
theorem fk_cX10_couple_3 : fq_ck cX10_couple 48 [42, 180, 0, 7, 3, 27, 96, 46, 172, 42, 180, 0, 24, 27, 46, 172, 42, 180] := fq_of fW_cX10_couple 3 rfl rfl
theorem dX10_couple_48 : decode cX10_couple 48 = .ok (.aload_n 0, 1) := fq_42 fk_cX10_couple_3 0 rfl rfl
theorem dX10_couple_49 : decode cX10_couple 49 = .ok (.getfield 7, 3) := fq_180 fk_cX10_couple_3 1 rfl rfl rfl rfl rfl
theorem dX10_couple_52 : decode cX10_couple 52 = .ok (.iconst 0, 1) := fq_3 fk_cX10_couple_3 4 rfl rfl
theorem dX10_couple_53 : decode cX10_couple 53 = .ok (.iload_n 1, 1) := fq_27 fk_cX10_couple_3 5 rfl rfl
theorem dX10_couple_54 : decode cX10_couple 54 = .ok (.iadd, 1) := fq_96 fk_cX10_couple_3 6 rfl rfl
theorem dX10_couple_55 : decode cX10_couple 55 = .ok (.iaload, 1) := fq_46 fk_cX10_couple_3 7 rfl rfl
theorem dX10_couple_56 : decode cX10_couple 56 = .ok (.ireturn, 1) := fq_172 fk_cX10_couple_3 8 rfl rfl
theorem dX10_couple_57 : decode cX10_couple 57 = .ok (.aload_n 0, 1) := fq_42 fk_cX10_couple_3 9 rfl rfl
theorem dX10_couple_58 : decode cX10_couple 58 = .ok (.getfield 24, 3) := fq_180 fk_cX10_couple_3 10 rfl rfl rfl rfl rfl
theorem dX10_couple_61 : decode cX10_couple 61 = .ok (.iload_n 1, 1) := fq_27 fk_cX10_couple_3 13 rfl rfl
theorem dX10_couple_62 : decode cX10_couple 62 = .ok (.iaload, 1) := fq_46 fk_cX10_couple_3 14 rfl rfl
theorem dX10_couple_63 : decode cX10_couple 63 = .ok (.ireturn, 1) := fq_172 fk_cX10_couple_3 15 rfl rfl
theorem fk_cX10_couple_4 : fq_ck cX10_couple 64 [42, 180, 0, 7, 16, 6, 27, 96, 46, 172, 42, 180, 0, 7, 16, 12, 27, 96] := fq_of fW_cX10_couple 4 rfl rfl
theorem dX10_couple_64 : decode cX10_couple 64 = .ok (.aload_n 0, 1) := fq_42 fk_cX10_couple_4 0 rfl rfl
theorem dX10_couple_65 : decode cX10_couple 65 = .ok (.getfield 7, 3) := fq_180 fk_cX10_couple_4 1 rfl rfl rfl rfl rfl
theorem dX10_couple_68 : decode cX10_couple 68 = .ok (.bipush 6, 2) := fq_16 fk_cX10_couple_4 4 rfl rfl rfl rfl
theorem dX10_couple_70 : decode cX10_couple 70 = .ok (.iload_n 1, 1) := fq_27 fk_cX10_couple_4 6 rfl rfl
theorem dX10_couple_71 : decode cX10_couple 71 = .ok (.iadd, 1) := fq_96 fk_cX10_couple_4 7 rfl rfl
theorem dX10_couple_72 : decode cX10_couple 72 = .ok (.iaload, 1) := fq_46 fk_cX10_couple_4 8 rfl rfl
theorem dX10_couple_73 : decode cX10_couple 73 = .ok (.ireturn, 1) := fq_172 fk_cX10_couple_4 9 rfl rfl
theorem dX10_couple_74 : decode cX10_couple 74 = .ok (.aload_n 0, 1) := fq_42 fk_cX10_couple_4 10 rfl rfl
theorem dX10_couple_75 : decode cX10_couple 75 = .ok (.getfield 7, 3) := fq_180 fk_cX10_couple_4 11 rfl rfl rfl rfl rfl
theorem dX10_couple_78 : decode cX10_couple 78 = .ok (.bipush 12, 2) := fq_16 fk_cX10_couple_4 14 rfl rfl rfl rfl
theorem fk_cX10_couple_5 : fq_ck cX10_couple 80 [27, 96, 46, 172, 42, 27, 182, 0, 207, 153, 0, 7, 4, 167, 0, 4, 3, 172] := fq_of fW_cX10_couple 5 rfl rfl
theorem dX10_couple_80 : decode cX10_couple 80 = .ok (.iload_n 1, 1) := fq_27 fk_cX10_couple_5 0 rfl rfl
theorem dX10_couple_81 : decode cX10_couple 81 = .ok (.iadd, 1) := fq_96 fk_cX10_couple_5 1 rfl rfl
theorem dX10_couple_82 : decode cX10_couple 82 = .ok (.iaload, 1) := fq_46 fk_cX10_couple_5 2 rfl rfl
theorem dX10_couple_83 : decode cX10_couple 83 = .ok (.ireturn, 1) := fq_172 fk_cX10_couple_5 3 rfl rfl
theorem dX10_couple_84 : decode cX10_couple 84 = .ok (.aload_n 0, 1) := fq_42 fk_cX10_couple_5 4 rfl rfl
theorem dX10_couple_85 : decode cX10_couple 85 = .ok (.iload_n 1, 1) := fq_27 fk_cX10_couple_5 5 rfl rfl
theorem dX10_couple_86 : decode cX10_couple 86 = .ok (.invokevirtual 207, 3) := fq_182 fk_cX10_couple_5 6 rfl rfl rfl rfl rfl
theorem dX10_couple_89 : decode cX10_couple 89 = .ok (.ifCond .eq 7, 3) := fq_153 fk_cX10_couple_5 9 rfl rfl rfl rfl rfl
theorem fk_cX10_couple_6 : fq_ck cX10_couple 96 [3, 172, 18, 93, 172] := fq_of fW_cX10_couple 6 rfl rfl
theorem dX10_couple_96 : decode cX10_couple 96 = .ok (.iconst 0, 1) := fq_3 fk_cX10_couple_6 0 rfl rfl
theorem dX10_couple_97 : decode cX10_couple 97 = .ok (.ireturn, 1) := fq_172 fk_cX10_couple_6 1 rfl rfl
theorem dX10_couple_92 : decode cX10_couple 92 = .ok (.iconst 1, 1) := fq_4 fk_cX10_couple_5 12 rfl rfl
theorem dX10_couple_93 : decode cX10_couple 93 = .ok (.goto 4, 3) := fq_167 fk_cX10_couple_5 13 rfl rfl rfl rfl rfl
theorem dX10_couple_98 : decode cX10_couple 98 = .ok (.ldc 93, 2) := fq_18 fk_cX10_couple_6 2 rfl rfl rfl
theorem dX10_couple_100 : decode cX10_couple 100 = .ok (.ireturn, 1) := fq_172 fk_cX10_couple_6 4 rfl rfl
theorem dX10_couple_8 : decode cX10_couple 8 = .ok (.ldc 199, 2) := fq_18 fk_cX10_couple_0 8 rfl rfl rfl
theorem dX10_couple_10 : decode cX10_couple 10 = .ok (.ireturn, 1) := fq_172 fk_cX10_couple_0 10 rfl rfl
def fw_cX10_force : List (List Nat) := [[42, 27, 182, 0, 204, 153, 0, 24, 42, 28, 182, 0, 210, 153, 0, 16, 42, 180], [42, 180, 0, 27, 8, 27, 104, 28, 96, 46, 167, 0, 5, 18, 199, 172]]
theorem fW_cX10_force : fq_wins 2 cX10_force.data.toList = fw_cX10_force := by decide +kernel
theorem fk_cX10_force_0 : fq_ck cX10_force 0 [42, 27, 182, 0, 204, 153, 0, 24, 42, 28, 182, 0, 210, 153, 0, 16, 42, 180] := fq_of fW_cX10_force 0 rfl rfl
theorem dX10_force_0 : decode cX10_force 0 = .ok (.aload_n 0, 1) := fq_42 fk_cX10_force_0 0 rfl rfl
theorem dX10_force_1 : decode cX10_force 1 = .ok (.iload_n 1, 1) := fq_27 fk_cX10_force_0 1 rfl rfl
theorem dX10_force_2 : decode cX10_force 2 = .ok (.invokevirtual 204, 3) := fq_182 fk_cX10_force_0 2 rfl rfl rfl rfl rfl
theorem dX10_force_5 : decode cX10_force 5 = .ok (.ifCond .eq 24, 3) := fq_153 fk_cX10_force_0 5 rfl rfl rfl rfl rfl
theorem fk_cX10_force_1 : fq_ck cX10_force 16 [42, 180, 0, 27, 8, 27, 104, 28, 96, 46, 167, 0, 5, 18, 199, 172] := fq_of fW_cX10_force 1 rfl rfl
theorem dX10_force_29 : decode cX10_force 29 = .ok (.ldc 199, 2) := fq_18 fk_cX10_force_1 13 rfl rfl rfl
theorem dX10_force_31 : decode cX10_force 31 = .ok (.ireturn, 1) := fq_172 fk_cX10_force_1 15 rfl rfl
theorem dX10_force_8 : decode cX10_force 8 = .ok (.aload_n 0, 1) := fq_42 fk_cX10_force_0 8 rfl rfl
theorem dX10_force_9 : decode cX10_force 9 = .ok (.iload_n 2, 1) := fq_28 fk_cX10_force_0 9 rfl rfl
theorem dX10_force_10 : decode cX10_force 10 = .ok (.invokevirtual 210, 3) := fq_182 fk_cX10_force_0 10 rfl rfl rfl rfl rfl
theorem wd_585 : Cond.methodLink RX10 210 yX10_isTheme ∈ BG := BG_at5 70 (by decide +kernel) rfl
theorem wd_586 : Cond.code yX10_isTheme cX10_isTheme 2 (some .boolean) ∈ BG := BG_at5 73 rfl rfl
theorem wd_587 : Cond.instanceMethod yX10_isTheme ∈ BG := BG_at5 72 (by decide +kernel) rfl
theorem wd_588 : Cond.selects RX10 yX10_isTheme yX10_isTheme ∈ BG := BG_in (by decide +kernel) rfl
theorem okV_X10_isTheme : okV yX10_isTheme cX10_isTheme 2 (some .boolean) 1 := ⟨⟨wd_586, wd_497, by decide +kernel⟩, wd_587, wd_588⟩
theorem dX10_force_13 : decode cX10_force 13 = .ok (.ifCond .eq 16, 3) := fq_153 fk_cX10_force_0 13 rfl rfl rfl rfl rfl
theorem dX10_force_16 : decode cX10_force 16 = .ok (.aload_n 0, 1) := fq_42 fk_cX10_force_1 0 rfl rfl
theorem dX10_force_17 : decode cX10_force 17 = .ok (.getfield 27, 3) := fq_180 fk_cX10_force_1 1 rfl rfl rfl rfl rfl
theorem dX10_force_20 : decode cX10_force 20 = .ok (.iconst 5, 1) := fq_8 fk_cX10_force_1 4 rfl rfl
theorem dX10_force_21 : decode cX10_force 21 = .ok (.iload_n 1, 1) := fq_27 fk_cX10_force_1 5 rfl rfl
theorem dX10_force_22 : decode cX10_force 22 = .ok (.imul, 1) := fq_104 fk_cX10_force_1 6 rfl rfl
theorem dX10_force_23 : decode cX10_force 23 = .ok (.iload_n 2, 1) := fq_28 fk_cX10_force_1 7 rfl rfl
theorem dX10_force_24 : decode cX10_force 24 = .ok (.iadd, 1) := fq_96 fk_cX10_force_1 8 rfl rfl
theorem dX10_force_25 : decode cX10_force 25 = .ok (.iaload, 1) := fq_46 fk_cX10_force_1 9 rfl rfl
theorem dX10_force_26 : decode cX10_force 26 = .ok (.goto 5, 3) := fq_167 fk_cX10_force_1 10 rfl rfl rfl rfl rfl
def fw_cX10_barge : List (List Nat) := [[42, 27, 182, 0, 213, 154, 0, 6, 18, 199, 172, 28, 170, 0, 0, 0, 0, 0], [0, 0, 0, 80, 0, 0, 0, 0, 0, 0, 0, 4, 0, 0, 0, 36, 0, 0], [0, 0, 0, 43, 0, 0, 0, 50, 0, 0, 0, 60, 0, 0, 0, 70, 42, 180], [42, 180, 0, 30, 27, 46, 172, 42, 180, 0, 33, 27, 46, 172, 42, 180, 0, 7], [0, 7, 16, 20, 27, 96, 46, 172, 42, 180, 0, 7, 16, 27, 27, 96, 46, 172], [46, 172, 42, 180, 0, 7, 16, 34, 27, 96, 46, 172, 18, 93, 172]]
theorem fW_cX10_barge : fq_wins 6 cX10_barge.data.toList = fw_cX10_barge := by decide +kernel
theorem fk_cX10_barge_0 : fq_ck cX10_barge 0 [42, 27, 182, 0, 213, 154, 0, 6, 18, 199, 172, 28, 170, 0, 0, 0, 0, 0] := fq_of fW_cX10_barge 0 rfl rfl
theorem dX10_barge_0 : decode cX10_barge 0 = .ok (.aload_n 0, 1) := fq_42 fk_cX10_barge_0 0 rfl rfl
theorem dX10_barge_1 : decode cX10_barge 1 = .ok (.iload_n 1, 1) := fq_27 fk_cX10_barge_0 1 rfl rfl
theorem dX10_barge_2 : decode cX10_barge 2 = .ok (.invokevirtual 213, 3) := fq_182 fk_cX10_barge_0 2 rfl rfl rfl rfl rfl
theorem wd_589 : Cond.methodLink RX10 213 yX10_isBarge ∈ BG := BG_at5 78 (by decide +kernel) rfl
theorem wd_590 : Cond.code yX10_isBarge cX10_isBarge 2 (some .boolean) ∈ BG := BG_at5 81 rfl rfl
theorem wd_591 : Cond.instanceMethod yX10_isBarge ∈ BG := BG_at5 80 (by decide +kernel) rfl
theorem wd_592 : Cond.selects RX10 yX10_isBarge yX10_isBarge ∈ BG := BG_in (by decide +kernel) rfl
theorem okV_X10_isBarge : okV yX10_isBarge cX10_isBarge 2 (some .boolean) 1 := ⟨⟨wd_590, wd_497, by decide +kernel⟩, wd_591, wd_592⟩
theorem dX10_barge_5 : decode cX10_barge 5 = .ok (.ifCond .ne 6, 3) := fq_154 fk_cX10_barge_0 5 rfl rfl rfl rfl rfl
theorem dX10_barge_11 : decode cX10_barge 11 = .ok (.iload_n 2, 1) := fq_28 fk_cX10_barge_0 11 rfl rfl
theorem dX10_barge_12 : decode cX10_barge 12 = .ok (.tableswitch 80 0 4 #[36, 43, 50, 60, 70], 36) := by decide +kernel
theorem fk_cX10_barge_3 : fq_ck cX10_barge 48 [42, 180, 0, 30, 27, 46, 172, 42, 180, 0, 33, 27, 46, 172, 42, 180, 0, 7] := fq_of fW_cX10_barge 3 rfl rfl
theorem dX10_barge_48 : decode cX10_barge 48 = .ok (.aload_n 0, 1) := fq_42 fk_cX10_barge_3 0 rfl rfl
theorem wd_593 : Cond.fieldLink RX10 30 "QuarrelBridgesModel" "far" "[I" ∈ BG := BG_at4 74 (by decide +kernel) rfl
theorem dX10_barge_49 : decode cX10_barge 49 = .ok (.getfield 30, 3) := fq_180 fk_cX10_barge_3 1 rfl rfl rfl rfl rfl
theorem dX10_barge_52 : decode cX10_barge 52 = .ok (.iload_n 1, 1) := fq_27 fk_cX10_barge_3 4 rfl rfl
theorem dX10_barge_53 : decode cX10_barge 53 = .ok (.iaload, 1) := fq_46 fk_cX10_barge_3 5 rfl rfl
theorem dX10_barge_54 : decode cX10_barge 54 = .ok (.ireturn, 1) := fq_172 fk_cX10_barge_3 6 rfl rfl
theorem dX10_barge_55 : decode cX10_barge 55 = .ok (.aload_n 0, 1) := fq_42 fk_cX10_barge_3 7 rfl rfl
theorem wd_594 : Cond.fieldLink RX10 33 "QuarrelBridgesModel" "due" "[I" ∈ BG := BG_at4 75 (by decide +kernel) rfl
theorem dX10_barge_56 : decode cX10_barge 56 = .ok (.getfield 33, 3) := fq_180 fk_cX10_barge_3 8 rfl rfl rfl rfl rfl
theorem dX10_barge_59 : decode cX10_barge 59 = .ok (.iload_n 1, 1) := fq_27 fk_cX10_barge_3 11 rfl rfl
theorem dX10_barge_60 : decode cX10_barge 60 = .ok (.iaload, 1) := fq_46 fk_cX10_barge_3 12 rfl rfl
theorem dX10_barge_61 : decode cX10_barge 61 = .ok (.ireturn, 1) := fq_172 fk_cX10_barge_3 13 rfl rfl
theorem dX10_barge_62 : decode cX10_barge 62 = .ok (.aload_n 0, 1) := fq_42 fk_cX10_barge_3 14 rfl rfl
theorem dX10_barge_63 : decode cX10_barge 63 = .ok (.getfield 7, 3) := fq_180 fk_cX10_barge_3 15 rfl rfl rfl rfl rfl
theorem fk_cX10_barge_4 : fq_ck cX10_barge 64 [0, 7, 16, 20, 27, 96, 46, 172, 42, 180, 0, 7, 16, 27, 27, 96, 46, 172] := fq_of fW_cX10_barge 4 rfl rfl
theorem dX10_barge_66 : decode cX10_barge 66 = .ok (.bipush 20, 2) := fq_16 fk_cX10_barge_4 2 rfl rfl rfl rfl
theorem dX10_barge_68 : decode cX10_barge 68 = .ok (.iload_n 1, 1) := fq_27 fk_cX10_barge_4 4 rfl rfl
theorem dX10_barge_69 : decode cX10_barge 69 = .ok (.iadd, 1) := fq_96 fk_cX10_barge_4 5 rfl rfl
theorem dX10_barge_70 : decode cX10_barge 70 = .ok (.iaload, 1) := fq_46 fk_cX10_barge_4 6 rfl rfl
theorem dX10_barge_71 : decode cX10_barge 71 = .ok (.ireturn, 1) := fq_172 fk_cX10_barge_4 7 rfl rfl
theorem dX10_barge_72 : decode cX10_barge 72 = .ok (.aload_n 0, 1) := fq_42 fk_cX10_barge_4 8 rfl rfl
theorem dX10_barge_73 : decode cX10_barge 73 = .ok (.getfield 7, 3) := fq_180 fk_cX10_barge_4 9 rfl rfl rfl rfl rfl
theorem dX10_barge_76 : decode cX10_barge 76 = .ok (.bipush 27, 2) := fq_16 fk_cX10_barge_4 12 rfl rfl rfl rfl
theorem dX10_barge_78 : decode cX10_barge 78 = .ok (.iload_n 1, 1) := fq_27 fk_cX10_barge_4 14 rfl rfl
theorem dX10_barge_79 : decode cX10_barge 79 = .ok (.iadd, 1) := fq_96 fk_cX10_barge_4 15 rfl rfl
theorem fk_cX10_barge_5 : fq_ck cX10_barge 80 [46, 172, 42, 180, 0, 7, 16, 34, 27, 96, 46, 172, 18, 93, 172] := fq_of fW_cX10_barge 5 rfl rfl
theorem dX10_barge_80 : decode cX10_barge 80 = .ok (.iaload, 1) := fq_46 fk_cX10_barge_5 0 rfl rfl
theorem dX10_barge_81 : decode cX10_barge 81 = .ok (.ireturn, 1) := fq_172 fk_cX10_barge_5 1 rfl rfl
theorem dX10_barge_82 : decode cX10_barge 82 = .ok (.aload_n 0, 1) := fq_42 fk_cX10_barge_5 2 rfl rfl
theorem dX10_barge_83 : decode cX10_barge 83 = .ok (.getfield 7, 3) := fq_180 fk_cX10_barge_5 3 rfl rfl rfl rfl rfl
theorem dX10_barge_86 : decode cX10_barge 86 = .ok (.bipush 34, 2) := fq_16 fk_cX10_barge_5 6 rfl rfl rfl rfl
theorem dX10_barge_88 : decode cX10_barge 88 = .ok (.iload_n 1, 1) := fq_27 fk_cX10_barge_5 8 rfl rfl
theorem dX10_barge_89 : decode cX10_barge 89 = .ok (.iadd, 1) := fq_96 fk_cX10_barge_5 9 rfl rfl
theorem dX10_barge_90 : decode cX10_barge 90 = .ok (.iaload, 1) := fq_46 fk_cX10_barge_5 10 rfl rfl
theorem dX10_barge_91 : decode cX10_barge 91 = .ok (.ireturn, 1) := fq_172 fk_cX10_barge_5 11 rfl rfl
theorem dX10_barge_92 : decode cX10_barge 92 = .ok (.ldc 93, 2) := fq_18 fk_cX10_barge_5 12 rfl rfl rfl
theorem dX10_barge_94 : decode cX10_barge 94 = .ok (.ireturn, 1) := fq_172 fk_cX10_barge_5 14 rfl rfl
theorem dX10_barge_8 : decode cX10_barge 8 = .ok (.ldc 199, 2) := fq_18 fk_cX10_barge_0 8 rfl rfl rfl
theorem dX10_barge_10 : decode cX10_barge 10 = .ok (.ireturn, 1) := fq_172 fk_cX10_barge_0 10 rfl rfl
noncomputable def f_m_fault (G : Nat → Int32) : Int32 := (G 19)
def S_m_fault (G : Nat → Int32) : Prop := True
def rm_m_fault : Room := { frames := 0, cells := 0, slots := 0, locals := 0 }
set_option maxHeartbeats 4000000 in
set_option maxRecDepth 100000 in
theorem m_fault {l : Launch} {D : va_G} {cI cZ : ClassId} {sz : Nat} (Rf : Nat → Nat) (h : Nat) (G : Nat → Int32) (hF : S_m_fault G) : KI l yX10_fault cX10_fault 1 (some .int) rm_m_fault D cI cZ [.ref h] sz [(h, .inr (10, ML G Rf))] (fun (r : Int32) (_ : Unit) => r = f_m_fault G) (fun (_ : Unit) => [(h, .inr (10, ML G Rf))]) := by
  refine KI.go rfl (Nat.le_of_ble_eq_true rfl) ?_
  intro p e s m args below meth c ls A Q hx hb hml hts hown hin hP hK hD hS hA hN hl hret
  have hl : lv_has ls 1 [(0, .ref h)] := hl
  rw [S_m_fault] at hF
  obtain ⟨RES, hE⟩ : ∃ xRES, f_m_fault G = xRES := ⟨_, rfl⟩
  rw [hE] at hret
  rw [f_m_fault] at hE
  refine lv_aload_n hx hb dX10_fault_0 rfl (lv_at hl 0 rfl) ?_
  refine va_get (D := D) (ci := 10) (v := .int (G 19)) (C := RX10) (T := TX10) (N := 45) hx hb hts iX10 hown hK hP 0 rfl rfl 19 (Nat.le_of_ble_eq_true rfl) (hts _ wd_515) (fun _ h9 => h9) rfl dX10_fault_1 ?_
  exact hret (G 19) () _ _ _ _ dX10_fault_4 rfl hE hP hD hS
noncomputable def f_m_bridge (G : Nat → Int32) (f0 : Nat → Int32) (f8 : Nat → Int32) (b_ : Int32) (w_ : Int32) : Int32 := (if (f_m_isBridge G b_) = 0 then (-1000000001) else (if w_ = 0 then (f8 (b_ : Int32).toNatClampNeg) else (if w_ = 1 then (f_m_whoIsAt G f0 0 b_) else (-1000000002))))
def S_m_bridge (G : Nat → Int32) (f0 : Nat → Int32) (f8 : Nat → Int32) (b_ : Int32) (w_ : Int32) : Prop := ((S_m_isBridge G b_) ∧ (((f_m_isBridge G b_) = 0 → True) ∧ (¬ (f_m_isBridge G b_) = 0 → ((w_ = 0 → (vp_in b_ 6 ∧ True)) ∧ (¬ w_ = 0 → ((w_ = 1 → ((S_m_whoIsAt G f0 0 b_) ∧ True)) ∧ (¬ w_ = 1 → True)))))))
def rm_m_bridge : Room := { frames := 2, cells := 0, slots := 0, locals := 46 }
set_option maxHeartbeats 4000000 in
set_option maxRecDepth 100000 in
theorem m_bridge {l : Launch} {D : va_G} {cI cZ : ClassId} {sz : Nat} (Rf : Nat → Nat) (h : Nat) (G : Nat → Int32) (f0 : Nat → Int32) (f8 : Nat → Int32) (b_ : Int32) (w_ : Int32) (hF : S_m_bridge G f0 f8 b_ w_) : KI l yX10_bridge cX10_bridge 3 (some .int) rm_m_bridge D cI cZ [.ref h, .int b_, .int w_] sz [(h, .inr (10, ML G Rf)), ((Rf 0), .inl (cI, 1302, .inl f0)), ((Rf 8), .inl (cI, 6, .inl f8))] (fun (r : Int32) (_ : Unit) => r = f_m_bridge G f0 f8 b_ w_) (fun (_ : Unit) => [(h, .inr (10, ML G Rf)), ((Rf 0), .inl (cI, 1302, .inl f0)), ((Rf 8), .inl (cI, 6, .inl f8))]) := by
  refine KI.go rfl (Nat.le_of_ble_eq_true rfl) ?_
  intro p e s m args below meth c ls A Q hx hb hml hts hown hin hP hK hD hS hA hN hl hret
  have hl : lv_has ls 3 [(0, .ref h), (1, .int b_), (2, .int w_)] := hl
  rw [S_m_bridge] at hF
  obtain ⟨RES, hE⟩ : ∃ xRES, f_m_bridge G f0 f8 b_ w_ = xRES := ⟨_, rfl⟩
  rw [hE] at hret
  rw [f_m_bridge] at hE
  refine lv_aload_n hx hb dX10_bridge_0 rfl (lv_at hl 0 rfl) ?_
  refine lv_iload_n hx hb dX10_bridge_1 rfl (lv_at hl 1 rfl) ?_
  obtain ⟨hs_1, hF⟩ := hF
  refine cVi (wr := [((Rf 0), .inl (cI, 1302, .inl f0)), ((Rf 8), .inl (cI, 6, .inl f8))]) (rest := []) (m_isBridge Rf h G b_ hs_1) okV_X10_isBridge wd_571 hx hb hml hown hts hK hP hD hS hA hN hl.1 [0] [1, 2] rfl rfl rfl rfl (of_decide_eq_true rfl) rfl rfl rfl (Nat.le_of_ble_eq_true rfl) (Nat.le_of_ble_eq_true rfl) (Nat.le_of_ble_eq_true rfl) (Nat.le_of_ble_eq_true rfl) (Nat.le_of_ble_eq_true rfl) dX10_bridge_2 (fun r_3 u_2 H locs hw_u_2 hP hD hS => ?_)
  replace hw_u_2 : r_3 = (f_m_isBridge G b_) := hw_u_2
  rw [hw_u_2]
  clear hw_u_2
  have hP : va_P D classes [((Rf 0), .inl (cI, 1302, .inl f0)), ((Rf 8), .inl (cI, 6, .inl f8)), (h, .inr (10, ML G Rf))] H := hP
  have hD : va_D A [((Rf 0), .inl (cI, 1302, .inl f0)), ((Rf 8), .inl (cI, 6, .inl f8)), (h, .inr (10, ML G Rf))] := hD
  refine lv_if_ne (tgt := 11) hx hb dX10_bridge_5 rfl (fun c_4 => ?_) (fun c_4 => ?_)
  · replace hF := hF.2 c_4
    rw [if_neg c_4] at hE
    refine lv_iload_n hx hb dX10_bridge_11 rfl (lv_at hl 2 rfl) ?_
    refine lv_if_ne (tgt := 24) hx hb dX10_bridge_12 rfl (fun c_5 => ?_) (fun c_5 => ?_)
    · replace hF := hF.2 c_5
      rw [if_neg c_5] at hE
      refine lv_iload_n hx hb dX10_bridge_24 rfl (lv_at hl 2 rfl) ?_
      refine lv_iconst (v := 1) hx hb dX10_bridge_25 rfl ?_
      refine lv_icmp_ne (tgt := 38) hx hb dX10_bridge_26 rfl (fun c_6 => ?_) (fun c_6 => ?_)
      · replace hF := hF.2 c_6
        rw [if_neg c_6] at hE
        refine lv_ldc (v := (-1000000002)) hx hb hown (hts _ wd_507) dX10_bridge_38 ?_
        exact hret (-1000000002) () _ _ _ _ dX10_bridge_40 rfl hE (cutP (isC := [2, 0, 1]) hP rfl) (cutD (isC := [2, 0, 1]) hD rfl rfl) hS
      · replace hF := hF.1 c_6
        rw [if_pos c_6] at hE
        refine lv_aload_n hx hb dX10_bridge_29 rfl (lv_at hl 0 rfl) ?_
        refine lv_iconst (v := 0) hx hb dX10_bridge_30 rfl ?_
        refine lv_iload_n hx hb dX10_bridge_31 rfl (lv_at hl 1 rfl) ?_
        obtain ⟨hs_7, hF⟩ := hF
        refine cVi (wr := [((Rf 8), .inl (cI, 6, .inl f8))]) (rest := []) (m_whoIsAt Rf h G f0 0 b_ hs_7) okV_X10_whoIsAt wd_575 hx hb hml hown hts hK hP hD hS hA hN hl.1 [2, 0] [1] rfl rfl rfl rfl (of_decide_eq_true rfl) rfl rfl rfl (Nat.le_of_ble_eq_true rfl) (Nat.le_of_ble_eq_true rfl) (Nat.le_of_ble_eq_true rfl) (Nat.le_of_ble_eq_true rfl) (Nat.le_of_ble_eq_true rfl) dX10_bridge_32 (fun r_9 u_8 H locs hw_u_8 hP hD hS => ?_)
        replace hw_u_8 : r_9 = (f_m_whoIsAt G f0 0 b_) := hw_u_8
        rw [hw_u_8]
        clear hw_u_8
        have hP : va_P D classes [((Rf 8), .inl (cI, 6, .inl f8)), (h, .inr (10, ML G Rf)), ((Rf 0), .inl (cI, 1302, .inl f0))] H := hP
        have hD : va_D A [((Rf 8), .inl (cI, 6, .inl f8)), (h, .inr (10, ML G Rf)), ((Rf 0), .inl (cI, 1302, .inl f0))] := hD
        refine lv_goto (tgt := 40) hx hb dX10_bridge_35 rfl ?_
        exact hret (f_m_whoIsAt G f0 0 b_) () _ _ _ _ dX10_bridge_40 rfl hE (cutP (isC := [1, 2, 0]) hP rfl) (cutD (isC := [1, 2, 0]) hD rfl rfl) hS
    · replace hF := hF.1 c_5
      rw [if_pos c_5] at hE
      refine lv_aload_n hx hb dX10_bridge_15 rfl (lv_at hl 0 rfl) ?_
      refine va_get (D := D) (ci := 10) (v := .ref (Rf 8)) (C := RX10) (T := TX10) (N := 45) hx hb hts iX10 hown hK hP 2 rfl rfl 8 (Nat.le_of_ble_eq_true rfl) (hts _ wd_579) (fun _ h9 => h9) rfl dX10_bridge_16 ?_
      refine lv_iload_n hx hb dX10_bridge_19 rfl (lv_at hl 1 rfl) ?_
      obtain ⟨hv_10, hF⟩ := hF
      refine va_iald hx hb hK hP 1 0 rfl rfl hv_10 dX10_bridge_20 ?_
      refine lv_goto (tgt := 40) hx hb dX10_bridge_21 rfl ?_
      exact hret (f8 (b_ : Int32).toNatClampNeg) () _ _ _ _ dX10_bridge_40 rfl hE (cutP (isC := [2, 0, 1]) hP rfl) (cutD (isC := [2, 0, 1]) hD rfl rfl) hS
  · replace hF := hF.1 c_4
    rw [if_pos c_4] at hE
    refine lv_ldc (v := (-1000000001)) hx hb hown (hts _ wd_580) dX10_bridge_8 ?_
    exact hret (-1000000001) () _ _ _ _ dX10_bridge_10 rfl hE (cutP (isC := [2, 0, 1]) hP rfl) (cutD (isC := [2, 0, 1]) hD rfl rfl) hS
noncomputable def f_m_couple (G : Nat → Int32) (f0 : Nat → Int32) (f9 : Nat → Int32) (c_ : Int32) (w_ : Int32) : Int32 := (if (f_m_isCouple G c_) = 0 then (-1000000001) else (if w_ = 0 then (f0 ((0 + c_) : Int32).toNatClampNeg) else (if w_ = 1 then (f9 (c_ : Int32).toNatClampNeg) else (if w_ = 2 then (f0 ((6 + c_) : Int32).toNatClampNeg) else (if w_ = 3 then (f0 ((12 + c_) : Int32).toNatClampNeg) else (if w_ = 4 then (if (f_m_isDone f0 c_) = 0 then 0 else 1) else (-1000000002)))))))
def S_m_couple (G : Nat → Int32) (f0 : Nat → Int32) (f9 : Nat → Int32) (c_ : Int32) (w_ : Int32) : Prop := ((S_m_isCouple G c_) ∧ (((f_m_isCouple G c_) = 0 → True) ∧ (¬ (f_m_isCouple G c_) = 0 → ((w_ = 0 → (vp_in (0 + c_) 1302 ∧ True)) ∧ (¬ w_ = 0 → ((w_ = 1 → (vp_in c_ 6 ∧ True)) ∧ (¬ w_ = 1 → ((w_ = 2 → (vp_in (6 + c_) 1302 ∧ True)) ∧ (¬ w_ = 2 → ((w_ = 3 → (vp_in (12 + c_) 1302 ∧ True)) ∧ (¬ w_ = 3 → ((w_ = 4 → ((S_m_isDone f0 c_) ∧ (((f_m_isDone f0 c_) = 0 → True) ∧ (¬ (f_m_isDone f0 c_) = 0 → True)))) ∧ (¬ w_ = 4 → True)))))))))))))
def rm_m_couple : Room := { frames := 2, cells := 0, slots := 0, locals := 46 }
set_option maxHeartbeats 4000000 in
set_option maxRecDepth 100000 in
theorem m_couple {l : Launch} {D : va_G} {cI cZ : ClassId} {sz : Nat} (Rf : Nat → Nat) (h : Nat) (G : Nat → Int32) (f0 : Nat → Int32) (f9 : Nat → Int32) (c_ : Int32) (w_ : Int32) (hF : S_m_couple G f0 f9 c_ w_) : KI l yX10_couple cX10_couple 3 (some .int) rm_m_couple D cI cZ [.ref h, .int c_, .int w_] sz [(h, .inr (10, ML G Rf)), ((Rf 0), .inl (cI, 1302, .inl f0)), ((Rf 9), .inl (cI, 6, .inl f9))] (fun (r : Int32) (_ : Unit) => r = f_m_couple G f0 f9 c_ w_) (fun (_ : Unit) => [(h, .inr (10, ML G Rf)), ((Rf 0), .inl (cI, 1302, .inl f0)), ((Rf 9), .inl (cI, 6, .inl f9))]) := by
  refine KI.go rfl (Nat.le_of_ble_eq_true rfl) ?_
  intro p e s m args below meth c ls A Q hx hb hml hts hown hin hP hK hD hS hA hN hl hret
  have hl : lv_has ls 3 [(0, .ref h), (1, .int c_), (2, .int w_)] := hl
  rw [S_m_couple] at hF
  obtain ⟨RES, hE⟩ : ∃ xRES, f_m_couple G f0 f9 c_ w_ = xRES := ⟨_, rfl⟩
  rw [hE] at hret
  rw [f_m_couple] at hE
  refine lv_aload_n hx hb dX10_couple_0 rfl (lv_at hl 0 rfl) ?_
  refine lv_iload_n hx hb dX10_couple_1 rfl (lv_at hl 1 rfl) ?_
  obtain ⟨hs_1, hF⟩ := hF
  refine cVi (wr := [((Rf 0), .inl (cI, 1302, .inl f0)), ((Rf 9), .inl (cI, 6, .inl f9))]) (rest := []) (m_isCouple Rf h G c_ hs_1) okV_X10_isCouple wd_581 hx hb hml hown hts hK hP hD hS hA hN hl.1 [0] [1, 2] rfl rfl rfl rfl (of_decide_eq_true rfl) rfl rfl rfl (Nat.le_of_ble_eq_true rfl) (Nat.le_of_ble_eq_true rfl) (Nat.le_of_ble_eq_true rfl) (Nat.le_of_ble_eq_true rfl) (Nat.le_of_ble_eq_true rfl) dX10_couple_2 (fun r_3 u_2 H locs hw_u_2 hP hD hS => ?_)
  replace hw_u_2 : r_3 = (f_m_isCouple G c_) := hw_u_2
  rw [hw_u_2]
  clear hw_u_2
  have hP : va_P D classes [((Rf 0), .inl (cI, 1302, .inl f0)), ((Rf 9), .inl (cI, 6, .inl f9)), (h, .inr (10, ML G Rf))] H := hP
  have hD : va_D A [((Rf 0), .inl (cI, 1302, .inl f0)), ((Rf 9), .inl (cI, 6, .inl f9)), (h, .inr (10, ML G Rf))] := hD
  refine lv_if_ne (tgt := 11) hx hb dX10_couple_5 rfl (fun c_4 => ?_) (fun c_4 => ?_)
  · replace hF := hF.2 c_4
    rw [if_neg c_4] at hE
    refine lv_iload_n hx hb dX10_couple_11 rfl (lv_at hl 2 rfl) ?_
    by_cases c_5 : w_ = 0
    · replace hF := hF.1 c_5
      rw [if_pos c_5] at hE
      subst c_5
      refine lv_tableIn (off := 36) (tgt := 48) hx hb dX10_couple_12 (by decide +kernel) (by decide +kernel) (by decide +kernel) rfl ?_
      refine lv_aload_n hx hb dX10_couple_48 rfl (lv_at hl 0 rfl) ?_
      refine va_get (D := D) (ci := 10) (v := .ref (Rf 0)) (C := RX10) (T := TX10) (N := 45) hx hb hts iX10 hown hK hP 2 rfl rfl 0 (Nat.le_of_ble_eq_true rfl) (hts _ wd_491) (fun _ h9 => h9) rfl dX10_couple_49 ?_
      refine lv_iconst (v := 0) hx hb dX10_couple_52 rfl ?_
      refine lv_iload_n hx hb dX10_couple_53 rfl (lv_at hl 1 rfl) ?_
      refine lv_iadd hx hb dX10_couple_54 ?_
      obtain ⟨hv_6, hF⟩ := hF
      refine va_iald hx hb hK hP 0 0 rfl rfl hv_6 dX10_couple_55 ?_
      exact hret (f0 ((0 + c_) : Int32).toNatClampNeg) () _ _ _ _ dX10_couple_56 rfl hE (cutP (isC := [2, 0, 1]) hP rfl) (cutD (isC := [2, 0, 1]) hD rfl rfl) hS
    · skip
      replace hF := hF.2 c_5
      rw [if_neg c_5] at hE
      by_cases c_7 : w_ = 1
      · replace hF := hF.1 c_7
        rw [if_pos c_7] at hE
        subst c_7
        refine lv_tableIn (off := 45) (tgt := 57) hx hb dX10_couple_12 (by decide +kernel) (by decide +kernel) (by decide +kernel) rfl ?_
        refine lv_aload_n hx hb dX10_couple_57 rfl (lv_at hl 0 rfl) ?_
        refine va_get (D := D) (ci := 10) (v := .ref (Rf 9)) (C := RX10) (T := TX10) (N := 45) hx hb hts iX10 hown hK hP 2 rfl rfl 9 (Nat.le_of_ble_eq_true rfl) (hts _ wd_561) (fun _ h9 => h9) rfl dX10_couple_58 ?_
        refine lv_iload_n hx hb dX10_couple_61 rfl (lv_at hl 1 rfl) ?_
        obtain ⟨hv_8, hF⟩ := hF
        refine va_iald hx hb hK hP 1 0 rfl rfl hv_8 dX10_couple_62 ?_
        exact hret (f9 (c_ : Int32).toNatClampNeg) () _ _ _ _ dX10_couple_63 rfl hE (cutP (isC := [2, 0, 1]) hP rfl) (cutD (isC := [2, 0, 1]) hD rfl rfl) hS
      · skip
        replace hF := hF.2 c_7
        rw [if_neg c_7] at hE
        by_cases c_9 : w_ = 2
        · replace hF := hF.1 c_9
          rw [if_pos c_9] at hE
          subst c_9
          refine lv_tableIn (off := 52) (tgt := 64) hx hb dX10_couple_12 (by decide +kernel) (by decide +kernel) (by decide +kernel) rfl ?_
          refine lv_aload_n hx hb dX10_couple_64 rfl (lv_at hl 0 rfl) ?_
          refine va_get (D := D) (ci := 10) (v := .ref (Rf 0)) (C := RX10) (T := TX10) (N := 45) hx hb hts iX10 hown hK hP 2 rfl rfl 0 (Nat.le_of_ble_eq_true rfl) (hts _ wd_491) (fun _ h9 => h9) rfl dX10_couple_65 ?_
          refine lv_bipush (v := 6) hx hb dX10_couple_68 rfl ?_
          refine lv_iload_n hx hb dX10_couple_70 rfl (lv_at hl 1 rfl) ?_
          refine lv_iadd hx hb dX10_couple_71 ?_
          obtain ⟨hv_10, hF⟩ := hF
          refine va_iald hx hb hK hP 0 0 rfl rfl hv_10 dX10_couple_72 ?_
          exact hret (f0 ((6 + c_) : Int32).toNatClampNeg) () _ _ _ _ dX10_couple_73 rfl hE (cutP (isC := [2, 0, 1]) hP rfl) (cutD (isC := [2, 0, 1]) hD rfl rfl) hS
        · skip
          replace hF := hF.2 c_9
          rw [if_neg c_9] at hE
          by_cases c_11 : w_ = 3
          · replace hF := hF.1 c_11
            rw [if_pos c_11] at hE
            subst c_11
            refine lv_tableIn (off := 62) (tgt := 74) hx hb dX10_couple_12 (by decide +kernel) (by decide +kernel) (by decide +kernel) rfl ?_
            refine lv_aload_n hx hb dX10_couple_74 rfl (lv_at hl 0 rfl) ?_
            refine va_get (D := D) (ci := 10) (v := .ref (Rf 0)) (C := RX10) (T := TX10) (N := 45) hx hb hts iX10 hown hK hP 2 rfl rfl 0 (Nat.le_of_ble_eq_true rfl) (hts _ wd_491) (fun _ h9 => h9) rfl dX10_couple_75 ?_
            refine lv_bipush (v := 12) hx hb dX10_couple_78 rfl ?_
            refine lv_iload_n hx hb dX10_couple_80 rfl (lv_at hl 1 rfl) ?_
            refine lv_iadd hx hb dX10_couple_81 ?_
            obtain ⟨hv_12, hF⟩ := hF
            refine va_iald hx hb hK hP 0 0 rfl rfl hv_12 dX10_couple_82 ?_
            exact hret (f0 ((12 + c_) : Int32).toNatClampNeg) () _ _ _ _ dX10_couple_83 rfl hE (cutP (isC := [2, 0, 1]) hP rfl) (cutD (isC := [2, 0, 1]) hD rfl rfl) hS
          · skip
            replace hF := hF.2 c_11
            rw [if_neg c_11] at hE
            by_cases c_13 : w_ = 4
            · replace hF := hF.1 c_13
              rw [if_pos c_13] at hE
              subst c_13
              refine lv_tableIn (off := 72) (tgt := 84) hx hb dX10_couple_12 (by decide +kernel) (by decide +kernel) (by decide +kernel) rfl ?_
              refine lv_aload_n hx hb dX10_couple_84 rfl (lv_at hl 0 rfl) ?_
              refine lv_iload_n hx hb dX10_couple_85 rfl (lv_at hl 1 rfl) ?_
              obtain ⟨hs_14, hF⟩ := hF
              refine cVi (wr := [((Rf 9), .inl (cI, 6, .inl f9))]) (rest := []) (m_isDone Rf h G f0 c_ hs_14) okV_X10_isDone wd_567 hx hb hml hown hts hK hP hD hS hA hN hl.1 [2, 0] [1] rfl rfl rfl rfl (of_decide_eq_true rfl) rfl rfl rfl (Nat.le_of_ble_eq_true rfl) (Nat.le_of_ble_eq_true rfl) (Nat.le_of_ble_eq_true rfl) (Nat.le_of_ble_eq_true rfl) (Nat.le_of_ble_eq_true rfl) dX10_couple_86 (fun r_16 u_15 H locs hw_u_15 hP hD hS => ?_)
              replace hw_u_15 : r_16 = (f_m_isDone f0 c_) := hw_u_15
              rw [hw_u_15]
              clear hw_u_15
              have hP : va_P D classes [((Rf 9), .inl (cI, 6, .inl f9)), (h, .inr (10, ML G Rf)), ((Rf 0), .inl (cI, 1302, .inl f0))] H := hP
              have hD : va_D A [((Rf 9), .inl (cI, 6, .inl f9)), (h, .inr (10, ML G Rf)), ((Rf 0), .inl (cI, 1302, .inl f0))] := hD
              refine lv_if_eq (tgt := 96) hx hb dX10_couple_89 rfl (fun c_17 => ?_) (fun c_17 => ?_)
              · replace hF := hF.1 c_17
                rw [if_pos c_17] at hE
                refine lv_iconst (v := 0) hx hb dX10_couple_96 rfl ?_
                exact hret 0 () _ _ _ _ dX10_couple_97 rfl hE (cutP (isC := [1, 2, 0]) hP rfl) (cutD (isC := [1, 2, 0]) hD rfl rfl) hS
              · replace hF := hF.2 c_17
                rw [if_neg c_17] at hE
                refine lv_iconst (v := 1) hx hb dX10_couple_92 rfl ?_
                refine lv_goto (tgt := 97) hx hb dX10_couple_93 rfl ?_
                exact hret 1 () _ _ _ _ dX10_couple_97 rfl hE (cutP (isC := [1, 2, 0]) hP rfl) (cutD (isC := [1, 2, 0]) hD rfl rfl) hS
            · skip
              replace hF := hF.2 c_13
              rw [if_neg c_13] at hE
              refine lv_tableOut (tgt := 98) hx hb dX10_couple_12 (by have q := lv_neT (a := 0) c_5 rfl; have q0 := lv_neT (a := 0) c_5 rfl; have q1 := lv_neT (a := 1) c_7 rfl; have q2 := lv_neT (a := 2) c_9 rfl; have q3 := lv_neT (a := 3) c_11 rfl; have q4 := lv_neT (a := 4) c_13 rfl; omega) rfl ?_
              refine lv_ldc (v := (-1000000002)) hx hb hown (hts _ wd_507) dX10_couple_98 ?_
              exact hret (-1000000002) () _ _ _ _ dX10_couple_100 rfl hE (cutP (isC := [2, 0, 1]) hP rfl) (cutD (isC := [2, 0, 1]) hD rfl rfl) hS
  · replace hF := hF.1 c_4
    rw [if_pos c_4] at hE
    refine lv_ldc (v := (-1000000001)) hx hb hown (hts _ wd_580) dX10_couple_8 ?_
    exact hret (-1000000001) () _ _ _ _ dX10_couple_10 rfl hE (cutP (isC := [2, 0, 1]) hP rfl) (cutD (isC := [2, 0, 1]) hD rfl rfl) hS
noncomputable def f_m_force (G : Nat → Int32) (f10 : Nat → Int32) (c_ : Int32) (t_ : Int32) : Int32 := (if (f_m_isCouple G c_) = 0 then (-1000000001) else (if (f_m_isTheme G t_) = 0 then (-1000000001) else (f10 (((5 * c_) + t_) : Int32).toNatClampNeg)))
def S_m_force (G : Nat → Int32) (f10 : Nat → Int32) (c_ : Int32) (t_ : Int32) : Prop := ((S_m_isCouple G c_) ∧ (((f_m_isCouple G c_) = 0 → True) ∧ (¬ (f_m_isCouple G c_) = 0 → ((S_m_isTheme G t_) ∧ (((f_m_isTheme G t_) = 0 → True) ∧ (¬ (f_m_isTheme G t_) = 0 → (vp_in ((5 * c_) + t_) 30 ∧ True)))))))
def rm_m_force : Room := { frames := 2, cells := 0, slots := 0, locals := 46 }
set_option maxHeartbeats 4000000 in
set_option maxRecDepth 100000 in
theorem m_force {l : Launch} {D : va_G} {cI cZ : ClassId} {sz : Nat} (Rf : Nat → Nat) (h : Nat) (G : Nat → Int32) (f10 : Nat → Int32) (c_ : Int32) (t_ : Int32) (hF : S_m_force G f10 c_ t_) : KI l yX10_force cX10_force 3 (some .int) rm_m_force D cI cZ [.ref h, .int c_, .int t_] sz [(h, .inr (10, ML G Rf)), ((Rf 10), .inl (cI, 30, .inl f10))] (fun (r : Int32) (_ : Unit) => r = f_m_force G f10 c_ t_) (fun (_ : Unit) => [(h, .inr (10, ML G Rf)), ((Rf 10), .inl (cI, 30, .inl f10))]) := by
  refine KI.go rfl (Nat.le_of_ble_eq_true rfl) ?_
  intro p e s m args below meth c ls A Q hx hb hml hts hown hin hP hK hD hS hA hN hl hret
  have hl : lv_has ls 3 [(0, .ref h), (1, .int c_), (2, .int t_)] := hl
  rw [S_m_force] at hF
  obtain ⟨RES, hE⟩ : ∃ xRES, f_m_force G f10 c_ t_ = xRES := ⟨_, rfl⟩
  rw [hE] at hret
  rw [f_m_force] at hE
  refine lv_aload_n hx hb dX10_force_0 rfl (lv_at hl 0 rfl) ?_
  refine lv_iload_n hx hb dX10_force_1 rfl (lv_at hl 1 rfl) ?_
  obtain ⟨hs_1, hF⟩ := hF
  refine cVi (wr := [((Rf 10), .inl (cI, 30, .inl f10))]) (rest := []) (m_isCouple Rf h G c_ hs_1) okV_X10_isCouple wd_581 hx hb hml hown hts hK hP hD hS hA hN hl.1 [0] [1] rfl rfl rfl rfl (of_decide_eq_true rfl) rfl rfl rfl (Nat.le_of_ble_eq_true rfl) (Nat.le_of_ble_eq_true rfl) (Nat.le_of_ble_eq_true rfl) (Nat.le_of_ble_eq_true rfl) (Nat.le_of_ble_eq_true rfl) dX10_force_2 (fun r_3 u_2 H locs hw_u_2 hP hD hS => ?_)
  replace hw_u_2 : r_3 = (f_m_isCouple G c_) := hw_u_2
  rw [hw_u_2]
  clear hw_u_2
  have hP : va_P D classes [((Rf 10), .inl (cI, 30, .inl f10)), (h, .inr (10, ML G Rf))] H := hP
  have hD : va_D A [((Rf 10), .inl (cI, 30, .inl f10)), (h, .inr (10, ML G Rf))] := hD
  refine lv_if_eq (tgt := 29) hx hb dX10_force_5 rfl (fun c_4 => ?_) (fun c_4 => ?_)
  · replace hF := hF.1 c_4
    rw [if_pos c_4] at hE
    refine lv_ldc (v := (-1000000001)) hx hb hown (hts _ wd_580) dX10_force_29 ?_
    exact hret (-1000000001) () _ _ _ _ dX10_force_31 rfl hE (cutP (isC := [1, 0]) hP rfl) (cutD (isC := [1, 0]) hD rfl rfl) hS
  · replace hF := hF.2 c_4
    rw [if_neg c_4] at hE
    refine lv_aload_n hx hb dX10_force_8 rfl (lv_at hl 0 rfl) ?_
    refine lv_iload_n hx hb dX10_force_9 rfl (lv_at hl 2 rfl) ?_
    obtain ⟨hs_5, hF⟩ := hF
    refine cVi (wr := [((Rf 10), .inl (cI, 30, .inl f10))]) (rest := []) (m_isTheme Rf h G t_ hs_5) okV_X10_isTheme wd_585 hx hb hml hown hts hK hP hD hS hA hN hl.1 [1] [0] rfl rfl rfl rfl (of_decide_eq_true rfl) rfl rfl rfl (Nat.le_of_ble_eq_true rfl) (Nat.le_of_ble_eq_true rfl) (Nat.le_of_ble_eq_true rfl) (Nat.le_of_ble_eq_true rfl) (Nat.le_of_ble_eq_true rfl) dX10_force_10 (fun r_7 u_6 H locs hw_u_6 hP hD hS => ?_)
    replace hw_u_6 : r_7 = (f_m_isTheme G t_) := hw_u_6
    rw [hw_u_6]
    clear hw_u_6
    have hP : va_P D classes [((Rf 10), .inl (cI, 30, .inl f10)), (h, .inr (10, ML G Rf))] H := hP
    have hD : va_D A [((Rf 10), .inl (cI, 30, .inl f10)), (h, .inr (10, ML G Rf))] := hD
    refine lv_if_eq (tgt := 29) hx hb dX10_force_13 rfl (fun c_8 => ?_) (fun c_8 => ?_)
    · replace hF := hF.1 c_8
      rw [if_pos c_8] at hE
      refine lv_ldc (v := (-1000000001)) hx hb hown (hts _ wd_580) dX10_force_29 ?_
      exact hret (-1000000001) () _ _ _ _ dX10_force_31 rfl hE (cutP (isC := [1, 0]) hP rfl) (cutD (isC := [1, 0]) hD rfl rfl) hS
    · replace hF := hF.2 c_8
      rw [if_neg c_8] at hE
      refine lv_aload_n hx hb dX10_force_16 rfl (lv_at hl 0 rfl) ?_
      refine va_get (D := D) (ci := 10) (v := .ref (Rf 10)) (C := RX10) (T := TX10) (N := 45) hx hb hts iX10 hown hK hP 1 rfl rfl 10 (Nat.le_of_ble_eq_true rfl) (hts _ wd_547) (fun _ h9 => h9) rfl dX10_force_17 ?_
      refine lv_iconst (v := 5) hx hb dX10_force_20 rfl ?_
      refine lv_iload_n hx hb dX10_force_21 rfl (lv_at hl 1 rfl) ?_
      refine lv_imul hx hb dX10_force_22 ?_
      refine lv_iload_n hx hb dX10_force_23 rfl (lv_at hl 2 rfl) ?_
      refine lv_iadd hx hb dX10_force_24 ?_
      obtain ⟨hv_9, hF⟩ := hF
      refine va_iald hx hb hK hP 0 0 rfl rfl hv_9 dX10_force_25 ?_
      refine lv_goto (tgt := 31) hx hb dX10_force_26 rfl ?_
      exact hret (f10 (((5 * c_) + t_) : Int32).toNatClampNeg) () _ _ _ _ dX10_force_31 rfl hE (cutP (isC := [1, 0]) hP rfl) (cutD (isC := [1, 0]) hD rfl rfl) hS
noncomputable def f_m_barge (G : Nat → Int32) (f0 : Nat → Int32) (f11 : Nat → Int32) (f12 : Nat → Int32) (v_ : Int32) (w_ : Int32) : Int32 := (if (f_m_isBarge G v_) = 0 then (-1000000001) else (if w_ = 0 then (f11 (v_ : Int32).toNatClampNeg) else (if w_ = 1 then (f12 (v_ : Int32).toNatClampNeg) else (if w_ = 2 then (f0 ((20 + v_) : Int32).toNatClampNeg) else (if w_ = 3 then (f0 ((27 + v_) : Int32).toNatClampNeg) else (if w_ = 4 then (f0 ((34 + v_) : Int32).toNatClampNeg) else (-1000000002)))))))
def S_m_barge (G : Nat → Int32) (f0 : Nat → Int32) (f11 : Nat → Int32) (f12 : Nat → Int32) (v_ : Int32) (w_ : Int32) : Prop := ((S_m_isBarge G v_) ∧ (((f_m_isBarge G v_) = 0 → True) ∧ (¬ (f_m_isBarge G v_) = 0 → ((w_ = 0 → (vp_in v_ 7 ∧ True)) ∧ (¬ w_ = 0 → ((w_ = 1 → (vp_in v_ 7 ∧ True)) ∧ (¬ w_ = 1 → ((w_ = 2 → (vp_in (20 + v_) 1302 ∧ True)) ∧ (¬ w_ = 2 → ((w_ = 3 → (vp_in (27 + v_) 1302 ∧ True)) ∧ (¬ w_ = 3 → ((w_ = 4 → (vp_in (34 + v_) 1302 ∧ True)) ∧ (¬ w_ = 4 → True)))))))))))))
def rm_m_barge : Room := { frames := 2, cells := 0, slots := 0, locals := 46 }
set_option maxHeartbeats 4000000 in
set_option maxRecDepth 100000 in
theorem m_barge {l : Launch} {D : va_G} {cI cZ : ClassId} {sz : Nat} (Rf : Nat → Nat) (h : Nat) (G : Nat → Int32) (f0 : Nat → Int32) (f11 : Nat → Int32) (f12 : Nat → Int32) (v_ : Int32) (w_ : Int32) (hF : S_m_barge G f0 f11 f12 v_ w_) : KI l yX10_barge cX10_barge 3 (some .int) rm_m_barge D cI cZ [.ref h, .int v_, .int w_] sz [(h, .inr (10, ML G Rf)), ((Rf 0), .inl (cI, 1302, .inl f0)), ((Rf 11), .inl (cI, 7, .inl f11)), ((Rf 12), .inl (cI, 7, .inl f12))] (fun (r : Int32) (_ : Unit) => r = f_m_barge G f0 f11 f12 v_ w_) (fun (_ : Unit) => [(h, .inr (10, ML G Rf)), ((Rf 0), .inl (cI, 1302, .inl f0)), ((Rf 11), .inl (cI, 7, .inl f11)), ((Rf 12), .inl (cI, 7, .inl f12))]) := by
  refine KI.go rfl (Nat.le_of_ble_eq_true rfl) ?_
  intro p e s m args below meth c ls A Q hx hb hml hts hown hin hP hK hD hS hA hN hl hret
  have hl : lv_has ls 3 [(0, .ref h), (1, .int v_), (2, .int w_)] := hl
  rw [S_m_barge] at hF
  obtain ⟨RES, hE⟩ : ∃ xRES, f_m_barge G f0 f11 f12 v_ w_ = xRES := ⟨_, rfl⟩
  rw [hE] at hret
  rw [f_m_barge] at hE
  refine lv_aload_n hx hb dX10_barge_0 rfl (lv_at hl 0 rfl) ?_
  refine lv_iload_n hx hb dX10_barge_1 rfl (lv_at hl 1 rfl) ?_
  obtain ⟨hs_1, hF⟩ := hF
  refine cVi (wr := [((Rf 0), .inl (cI, 1302, .inl f0)), ((Rf 11), .inl (cI, 7, .inl f11)), ((Rf 12), .inl (cI, 7, .inl f12))]) (rest := []) (m_isBarge Rf h G v_ hs_1) okV_X10_isBarge wd_589 hx hb hml hown hts hK hP hD hS hA hN hl.1 [0] [1, 2, 3] rfl rfl rfl rfl (of_decide_eq_true rfl) rfl rfl rfl (Nat.le_of_ble_eq_true rfl) (Nat.le_of_ble_eq_true rfl) (Nat.le_of_ble_eq_true rfl) (Nat.le_of_ble_eq_true rfl) (Nat.le_of_ble_eq_true rfl) dX10_barge_2 (fun r_3 u_2 H locs hw_u_2 hP hD hS => ?_)
  replace hw_u_2 : r_3 = (f_m_isBarge G v_) := hw_u_2
  rw [hw_u_2]
  clear hw_u_2
  have hP : va_P D classes [((Rf 0), .inl (cI, 1302, .inl f0)), ((Rf 11), .inl (cI, 7, .inl f11)), ((Rf 12), .inl (cI, 7, .inl f12)), (h, .inr (10, ML G Rf))] H := hP
  have hD : va_D A [((Rf 0), .inl (cI, 1302, .inl f0)), ((Rf 11), .inl (cI, 7, .inl f11)), ((Rf 12), .inl (cI, 7, .inl f12)), (h, .inr (10, ML G Rf))] := hD
  refine lv_if_ne (tgt := 11) hx hb dX10_barge_5 rfl (fun c_4 => ?_) (fun c_4 => ?_)
  · replace hF := hF.2 c_4
    rw [if_neg c_4] at hE
    refine lv_iload_n hx hb dX10_barge_11 rfl (lv_at hl 2 rfl) ?_
    by_cases c_5 : w_ = 0
    · replace hF := hF.1 c_5
      rw [if_pos c_5] at hE
      subst c_5
      refine lv_tableIn (off := 36) (tgt := 48) hx hb dX10_barge_12 (by decide +kernel) (by decide +kernel) (by decide +kernel) rfl ?_
      refine lv_aload_n hx hb dX10_barge_48 rfl (lv_at hl 0 rfl) ?_
      refine va_get (D := D) (ci := 10) (v := .ref (Rf 11)) (C := RX10) (T := TX10) (N := 45) hx hb hts iX10 hown hK hP 3 rfl rfl 11 (Nat.le_of_ble_eq_true rfl) (hts _ wd_593) (fun _ h9 => h9) rfl dX10_barge_49 ?_
      refine lv_iload_n hx hb dX10_barge_52 rfl (lv_at hl 1 rfl) ?_
      obtain ⟨hv_6, hF⟩ := hF
      refine va_iald hx hb hK hP 1 0 rfl rfl hv_6 dX10_barge_53 ?_
      exact hret (f11 (v_ : Int32).toNatClampNeg) () _ _ _ _ dX10_barge_54 rfl hE (cutP (isC := [3, 0, 1, 2]) hP rfl) (cutD (isC := [3, 0, 1, 2]) hD rfl rfl) hS
    · skip
      replace hF := hF.2 c_5
      rw [if_neg c_5] at hE
      by_cases c_7 : w_ = 1
      · replace hF := hF.1 c_7
        rw [if_pos c_7] at hE
        subst c_7
        refine lv_tableIn (off := 43) (tgt := 55) hx hb dX10_barge_12 (by decide +kernel) (by decide +kernel) (by decide +kernel) rfl ?_
        refine lv_aload_n hx hb dX10_barge_55 rfl (lv_at hl 0 rfl) ?_
        refine va_get (D := D) (ci := 10) (v := .ref (Rf 12)) (C := RX10) (T := TX10) (N := 45) hx hb hts iX10 hown hK hP 3 rfl rfl 12 (Nat.le_of_ble_eq_true rfl) (hts _ wd_594) (fun _ h9 => h9) rfl dX10_barge_56 ?_
        refine lv_iload_n hx hb dX10_barge_59 rfl (lv_at hl 1 rfl) ?_
        obtain ⟨hv_8, hF⟩ := hF
        refine va_iald hx hb hK hP 2 0 rfl rfl hv_8 dX10_barge_60 ?_
        exact hret (f12 (v_ : Int32).toNatClampNeg) () _ _ _ _ dX10_barge_61 rfl hE (cutP (isC := [3, 0, 1, 2]) hP rfl) (cutD (isC := [3, 0, 1, 2]) hD rfl rfl) hS
      · skip
        replace hF := hF.2 c_7
        rw [if_neg c_7] at hE
        by_cases c_9 : w_ = 2
        · replace hF := hF.1 c_9
          rw [if_pos c_9] at hE
          subst c_9
          refine lv_tableIn (off := 50) (tgt := 62) hx hb dX10_barge_12 (by decide +kernel) (by decide +kernel) (by decide +kernel) rfl ?_
          refine lv_aload_n hx hb dX10_barge_62 rfl (lv_at hl 0 rfl) ?_
          refine va_get (D := D) (ci := 10) (v := .ref (Rf 0)) (C := RX10) (T := TX10) (N := 45) hx hb hts iX10 hown hK hP 3 rfl rfl 0 (Nat.le_of_ble_eq_true rfl) (hts _ wd_491) (fun _ h9 => h9) rfl dX10_barge_63 ?_
          refine lv_bipush (v := 20) hx hb dX10_barge_66 rfl ?_
          refine lv_iload_n hx hb dX10_barge_68 rfl (lv_at hl 1 rfl) ?_
          refine lv_iadd hx hb dX10_barge_69 ?_
          obtain ⟨hv_10, hF⟩ := hF
          refine va_iald hx hb hK hP 0 0 rfl rfl hv_10 dX10_barge_70 ?_
          exact hret (f0 ((20 + v_) : Int32).toNatClampNeg) () _ _ _ _ dX10_barge_71 rfl hE (cutP (isC := [3, 0, 1, 2]) hP rfl) (cutD (isC := [3, 0, 1, 2]) hD rfl rfl) hS
        · skip
          replace hF := hF.2 c_9
          rw [if_neg c_9] at hE
          by_cases c_11 : w_ = 3
          · replace hF := hF.1 c_11
            rw [if_pos c_11] at hE
            subst c_11
            refine lv_tableIn (off := 60) (tgt := 72) hx hb dX10_barge_12 (by decide +kernel) (by decide +kernel) (by decide +kernel) rfl ?_
            refine lv_aload_n hx hb dX10_barge_72 rfl (lv_at hl 0 rfl) ?_
            refine va_get (D := D) (ci := 10) (v := .ref (Rf 0)) (C := RX10) (T := TX10) (N := 45) hx hb hts iX10 hown hK hP 3 rfl rfl 0 (Nat.le_of_ble_eq_true rfl) (hts _ wd_491) (fun _ h9 => h9) rfl dX10_barge_73 ?_
            refine lv_bipush (v := 27) hx hb dX10_barge_76 rfl ?_
            refine lv_iload_n hx hb dX10_barge_78 rfl (lv_at hl 1 rfl) ?_
            refine lv_iadd hx hb dX10_barge_79 ?_
            obtain ⟨hv_12, hF⟩ := hF
            refine va_iald hx hb hK hP 0 0 rfl rfl hv_12 dX10_barge_80 ?_
            exact hret (f0 ((27 + v_) : Int32).toNatClampNeg) () _ _ _ _ dX10_barge_81 rfl hE (cutP (isC := [3, 0, 1, 2]) hP rfl) (cutD (isC := [3, 0, 1, 2]) hD rfl rfl) hS
          · skip
            replace hF := hF.2 c_11
            rw [if_neg c_11] at hE
            by_cases c_13 : w_ = 4
            · replace hF := hF.1 c_13
              rw [if_pos c_13] at hE
              subst c_13
              refine lv_tableIn (off := 70) (tgt := 82) hx hb dX10_barge_12 (by decide +kernel) (by decide +kernel) (by decide +kernel) rfl ?_
              refine lv_aload_n hx hb dX10_barge_82 rfl (lv_at hl 0 rfl) ?_
              refine va_get (D := D) (ci := 10) (v := .ref (Rf 0)) (C := RX10) (T := TX10) (N := 45) hx hb hts iX10 hown hK hP 3 rfl rfl 0 (Nat.le_of_ble_eq_true rfl) (hts _ wd_491) (fun _ h9 => h9) rfl dX10_barge_83 ?_
              refine lv_bipush (v := 34) hx hb dX10_barge_86 rfl ?_
              refine lv_iload_n hx hb dX10_barge_88 rfl (lv_at hl 1 rfl) ?_
              refine lv_iadd hx hb dX10_barge_89 ?_
              obtain ⟨hv_14, hF⟩ := hF
              refine va_iald hx hb hK hP 0 0 rfl rfl hv_14 dX10_barge_90 ?_
              exact hret (f0 ((34 + v_) : Int32).toNatClampNeg) () _ _ _ _ dX10_barge_91 rfl hE (cutP (isC := [3, 0, 1, 2]) hP rfl) (cutD (isC := [3, 0, 1, 2]) hD rfl rfl) hS
            · skip
              replace hF := hF.2 c_13
              rw [if_neg c_13] at hE
              refine lv_tableOut (tgt := 92) hx hb dX10_barge_12 (by have q := lv_neT (a := 0) c_5 rfl; have q0 := lv_neT (a := 0) c_5 rfl; have q1 := lv_neT (a := 1) c_7 rfl; have q2 := lv_neT (a := 2) c_9 rfl; have q3 := lv_neT (a := 3) c_11 rfl; have q4 := lv_neT (a := 4) c_13 rfl; omega) rfl ?_
              refine lv_ldc (v := (-1000000002)) hx hb hown (hts _ wd_507) dX10_barge_92 ?_
              exact hret (-1000000002) () _ _ _ _ dX10_barge_94 rfl hE (cutP (isC := [3, 0, 1, 2]) hP rfl) (cutD (isC := [3, 0, 1, 2]) hD rfl rfl) hS
  · replace hF := hF.1 c_4
    rw [if_pos c_4] at hE
    refine lv_ldc (v := (-1000000001)) hx hb hown (hts _ wd_580) dX10_barge_8 ?_
    exact hret (-1000000001) () _ _ _ _ dX10_barge_10 rfl hE (cutP (isC := [3, 0, 1, 2]) hP rfl) (cutD (isC := [3, 0, 1, 2]) hD rfl rfl) hS
end
section
def fw_cX10_send : List (List Nat) := [[42, 27, 182, 0, 204, 153, 0, 19, 42, 28, 182, 0, 196, 153, 0, 11, 42, 29], [42, 29, 182, 0, 210, 154, 0, 6, 18, 199, 172, 42, 3, 28, 182, 0, 200, 54], [200, 54, 4, 42, 27, 182, 0, 207, 154, 0, 15, 21, 4, 2, 159, 0, 12, 21], [12, 21, 4, 27, 159, 0, 6, 18, 233, 172, 42, 182, 0, 234, 42, 180, 0, 7], [0, 7, 16, 6, 27, 96, 46, 54, 5, 42, 180, 0, 7, 16, 6, 27, 96, 28], [96, 28, 79, 42, 180, 0, 7, 16, 12, 27, 96, 29, 79, 21, 5, 172]]
theorem fW_cX10_send : fq_wins 6 cX10_send.data.toList = fw_cX10_send := by decide +kernel
theorem fk_cX10_send_0 : fq_ck cX10_send 0 [42, 27, 182, 0, 204, 153, 0, 19, 42, 28, 182, 0, 196, 153, 0, 11, 42, 29] := fq_of fW_cX10_send 0 rfl rfl
theorem dX10_send_0 : decode cX10_send 0 = .ok (.aload_n 0, 1) := fq_42 fk_cX10_send_0 0 rfl rfl
theorem dX10_send_1 : decode cX10_send 1 = .ok (.iload_n 1, 1) := fq_27 fk_cX10_send_0 1 rfl rfl
theorem dX10_send_2 : decode cX10_send 2 = .ok (.invokevirtual 204, 3) := fq_182 fk_cX10_send_0 2 rfl rfl rfl rfl rfl
theorem dX10_send_5 : decode cX10_send 5 = .ok (.ifCond .eq 19, 3) := fq_153 fk_cX10_send_0 5 rfl rfl rfl rfl rfl
theorem fk_cX10_send_1 : fq_ck cX10_send 16 [42, 29, 182, 0, 210, 154, 0, 6, 18, 199, 172, 42, 3, 28, 182, 0, 200, 54] := fq_of fW_cX10_send 1 rfl rfl
theorem dX10_send_24 : decode cX10_send 24 = .ok (.ldc 199, 2) := fq_18 fk_cX10_send_1 8 rfl rfl rfl
theorem dX10_send_26 : decode cX10_send 26 = .ok (.ireturn, 1) := fq_172 fk_cX10_send_1 10 rfl rfl
theorem dX10_send_8 : decode cX10_send 8 = .ok (.aload_n 0, 1) := fq_42 fk_cX10_send_0 8 rfl rfl
theorem dX10_send_9 : decode cX10_send 9 = .ok (.iload_n 2, 1) := fq_28 fk_cX10_send_0 9 rfl rfl
theorem dX10_send_10 : decode cX10_send 10 = .ok (.invokevirtual 196, 3) := fq_182 fk_cX10_send_0 10 rfl rfl rfl rfl rfl
theorem dX10_send_13 : decode cX10_send 13 = .ok (.ifCond .eq 11, 3) := fq_153 fk_cX10_send_0 13 rfl rfl rfl rfl rfl
theorem dX10_send_16 : decode cX10_send 16 = .ok (.aload_n 0, 1) := fq_42 fk_cX10_send_1 0 rfl rfl
theorem dX10_send_17 : decode cX10_send 17 = .ok (.iload_n 3, 1) := fq_29 fk_cX10_send_1 1 rfl rfl
theorem dX10_send_18 : decode cX10_send 18 = .ok (.invokevirtual 210, 3) := fq_182 fk_cX10_send_1 2 rfl rfl rfl rfl rfl
theorem dX10_send_21 : decode cX10_send 21 = .ok (.ifCond .ne 6, 3) := fq_154 fk_cX10_send_1 5 rfl rfl rfl rfl rfl
theorem dX10_send_27 : decode cX10_send 27 = .ok (.aload_n 0, 1) := fq_42 fk_cX10_send_1 11 rfl rfl
theorem dX10_send_28 : decode cX10_send 28 = .ok (.iconst 0, 1) := fq_3 fk_cX10_send_1 12 rfl rfl
theorem dX10_send_29 : decode cX10_send 29 = .ok (.iload_n 2, 1) := fq_28 fk_cX10_send_1 13 rfl rfl
theorem dX10_send_30 : decode cX10_send 30 = .ok (.invokevirtual 200, 3) := fq_182 fk_cX10_send_1 14 rfl rfl rfl rfl rfl
theorem fk_cX10_send_2 : fq_ck cX10_send 32 [200, 54, 4, 42, 27, 182, 0, 207, 154, 0, 15, 21, 4, 2, 159, 0, 12, 21] := fq_of fW_cX10_send 2 rfl rfl
theorem dX10_send_33 : decode cX10_send 33 = .ok (.istore 4, 2) := fq_54 fk_cX10_send_2 1 rfl rfl rfl
theorem dX10_send_35 : decode cX10_send 35 = .ok (.aload_n 0, 1) := fq_42 fk_cX10_send_2 3 rfl rfl
theorem dX10_send_36 : decode cX10_send 36 = .ok (.iload_n 1, 1) := fq_27 fk_cX10_send_2 4 rfl rfl
theorem dX10_send_37 : decode cX10_send 37 = .ok (.invokevirtual 207, 3) := fq_182 fk_cX10_send_2 5 rfl rfl rfl rfl rfl
theorem dX10_send_40 : decode cX10_send 40 = .ok (.ifCond .ne 15, 3) := fq_154 fk_cX10_send_2 8 rfl rfl rfl rfl rfl
theorem fk_cX10_send_3 : fq_ck cX10_send 48 [12, 21, 4, 27, 159, 0, 6, 18, 233, 172, 42, 182, 0, 234, 42, 180, 0, 7] := fq_of fW_cX10_send 3 rfl rfl
theorem dX10_send_55 : decode cX10_send 55 = .ok (.ldc 233, 2) := fq_18 fk_cX10_send_3 7 rfl rfl rfl
theorem dX10_send_57 : decode cX10_send 57 = .ok (.ireturn, 1) := fq_172 fk_cX10_send_3 9 rfl rfl
theorem dX10_send_43 : decode cX10_send 43 = .ok (.iload 4, 2) := fq_21 fk_cX10_send_2 11 rfl rfl rfl
theorem dX10_send_45 : decode cX10_send 45 = .ok (.iconst (-1), 1) := fq_2 fk_cX10_send_2 13 rfl rfl
theorem dX10_send_46 : decode cX10_send 46 = .ok (.if_icmp .eq 12, 3) := fq_159 fk_cX10_send_2 14 rfl rfl rfl rfl rfl
theorem dX10_send_58 : decode cX10_send 58 = .ok (.aload_n 0, 1) := fq_42 fk_cX10_send_3 10 rfl rfl
theorem dX10_send_59 : decode cX10_send 59 = .ok (.invokevirtual 234, 3) := fq_182 fk_cX10_send_3 11 rfl rfl rfl rfl rfl
theorem wd_595 : Cond.methodLink RX10 234 yX10_minds ∈ BG := BG_at5 95 (by decide +kernel) rfl
theorem wd_596 : Cond.code yX10_minds cX10_minds 2 none ∈ BG := BG_at5 98 rfl rfl
theorem wd_597 : Cond.instanceMethod yX10_minds ∈ BG := BG_at5 97 (by decide +kernel) rfl
theorem wd_598 : Cond.selects RX10 yX10_minds yX10_minds ∈ BG := BG_in (by decide +kernel) rfl
theorem okV_X10_minds : okV yX10_minds cX10_minds 2 none 0 := ⟨⟨wd_596, wd_497, by decide +kernel⟩, wd_597, wd_598⟩
theorem dX10_send_62 : decode cX10_send 62 = .ok (.aload_n 0, 1) := fq_42 fk_cX10_send_3 14 rfl rfl
theorem dX10_send_63 : decode cX10_send 63 = .ok (.getfield 7, 3) := fq_180 fk_cX10_send_3 15 rfl rfl rfl rfl rfl
theorem fk_cX10_send_4 : fq_ck cX10_send 64 [0, 7, 16, 6, 27, 96, 46, 54, 5, 42, 180, 0, 7, 16, 6, 27, 96, 28] := fq_of fW_cX10_send 4 rfl rfl
theorem dX10_send_66 : decode cX10_send 66 = .ok (.bipush 6, 2) := fq_16 fk_cX10_send_4 2 rfl rfl rfl rfl
theorem dX10_send_68 : decode cX10_send 68 = .ok (.iload_n 1, 1) := fq_27 fk_cX10_send_4 4 rfl rfl
theorem dX10_send_69 : decode cX10_send 69 = .ok (.iadd, 1) := fq_96 fk_cX10_send_4 5 rfl rfl
theorem dX10_send_70 : decode cX10_send 70 = .ok (.iaload, 1) := fq_46 fk_cX10_send_4 6 rfl rfl
theorem dX10_send_71 : decode cX10_send 71 = .ok (.istore 5, 2) := fq_54 fk_cX10_send_4 7 rfl rfl rfl
theorem dX10_send_73 : decode cX10_send 73 = .ok (.aload_n 0, 1) := fq_42 fk_cX10_send_4 9 rfl rfl
theorem dX10_send_74 : decode cX10_send 74 = .ok (.getfield 7, 3) := fq_180 fk_cX10_send_4 10 rfl rfl rfl rfl rfl
theorem dX10_send_77 : decode cX10_send 77 = .ok (.bipush 6, 2) := fq_16 fk_cX10_send_4 13 rfl rfl rfl rfl
theorem dX10_send_79 : decode cX10_send 79 = .ok (.iload_n 1, 1) := fq_27 fk_cX10_send_4 15 rfl rfl
theorem fk_cX10_send_5 : fq_ck cX10_send 80 [96, 28, 79, 42, 180, 0, 7, 16, 12, 27, 96, 29, 79, 21, 5, 172] := fq_of fW_cX10_send 5 rfl rfl
theorem dX10_send_80 : decode cX10_send 80 = .ok (.iadd, 1) := fq_96 fk_cX10_send_5 0 rfl rfl
theorem dX10_send_81 : decode cX10_send 81 = .ok (.iload_n 2, 1) := fq_28 fk_cX10_send_5 1 rfl rfl
theorem dX10_send_82 : decode cX10_send 82 = .ok (.iastore, 1) := fq_79 fk_cX10_send_5 2 rfl rfl
theorem dX10_send_83 : decode cX10_send 83 = .ok (.aload_n 0, 1) := fq_42 fk_cX10_send_5 3 rfl rfl
theorem dX10_send_84 : decode cX10_send 84 = .ok (.getfield 7, 3) := fq_180 fk_cX10_send_5 4 rfl rfl rfl rfl rfl
theorem dX10_send_87 : decode cX10_send 87 = .ok (.bipush 12, 2) := fq_16 fk_cX10_send_5 7 rfl rfl rfl rfl
theorem dX10_send_89 : decode cX10_send 89 = .ok (.iload_n 1, 1) := fq_27 fk_cX10_send_5 9 rfl rfl
theorem dX10_send_90 : decode cX10_send 90 = .ok (.iadd, 1) := fq_96 fk_cX10_send_5 10 rfl rfl
theorem dX10_send_91 : decode cX10_send 91 = .ok (.iload_n 3, 1) := fq_29 fk_cX10_send_5 11 rfl rfl
theorem dX10_send_92 : decode cX10_send 92 = .ok (.iastore, 1) := fq_79 fk_cX10_send_5 12 rfl rfl
theorem dX10_send_93 : decode cX10_send 93 = .ok (.iload 5, 2) := fq_21 fk_cX10_send_5 13 rfl rfl rfl
theorem dX10_send_95 : decode cX10_send 95 = .ok (.ireturn, 1) := fq_172 fk_cX10_send_5 15 rfl rfl
theorem dX10_send_49 : decode cX10_send 49 = .ok (.iload 4, 2) := fq_21 fk_cX10_send_3 1 rfl rfl rfl
theorem dX10_send_51 : decode cX10_send 51 = .ok (.iload_n 1, 1) := fq_27 fk_cX10_send_3 3 rfl rfl
theorem dX10_send_52 : decode cX10_send 52 = .ok (.if_icmp .eq 6, 3) := fq_159 fk_cX10_send_3 4 rfl rfl rfl rfl rfl
def fw_cX10_home : List (List Nat) := [[42, 27, 182, 0, 204, 154, 0, 6, 18, 199, 172, 42, 180, 0, 7, 16, 6, 27], [6, 27, 96, 46, 61, 28, 2, 160, 0, 6, 18, 233, 172, 42, 182, 0, 234, 42], [234, 42, 180, 0, 7, 16, 6, 27, 96, 2, 79, 28, 172]]
theorem fW_cX10_home : fq_wins 3 cX10_home.data.toList = fw_cX10_home := by decide +kernel
theorem fk_cX10_home_0 : fq_ck cX10_home 0 [42, 27, 182, 0, 204, 154, 0, 6, 18, 199, 172, 42, 180, 0, 7, 16, 6, 27] := fq_of fW_cX10_home 0 rfl rfl
theorem dX10_home_0 : decode cX10_home 0 = .ok (.aload_n 0, 1) := fq_42 fk_cX10_home_0 0 rfl rfl
theorem dX10_home_1 : decode cX10_home 1 = .ok (.iload_n 1, 1) := fq_27 fk_cX10_home_0 1 rfl rfl
theorem dX10_home_2 : decode cX10_home 2 = .ok (.invokevirtual 204, 3) := fq_182 fk_cX10_home_0 2 rfl rfl rfl rfl rfl
theorem dX10_home_5 : decode cX10_home 5 = .ok (.ifCond .ne 6, 3) := fq_154 fk_cX10_home_0 5 rfl rfl rfl rfl rfl
theorem dX10_home_11 : decode cX10_home 11 = .ok (.aload_n 0, 1) := fq_42 fk_cX10_home_0 11 rfl rfl
theorem dX10_home_12 : decode cX10_home 12 = .ok (.getfield 7, 3) := fq_180 fk_cX10_home_0 12 rfl rfl rfl rfl rfl
theorem dX10_home_15 : decode cX10_home 15 = .ok (.bipush 6, 2) := fq_16 fk_cX10_home_0 15 rfl rfl rfl rfl
theorem fk_cX10_home_1 : fq_ck cX10_home 16 [6, 27, 96, 46, 61, 28, 2, 160, 0, 6, 18, 233, 172, 42, 182, 0, 234, 42] := fq_of fW_cX10_home 1 rfl rfl
theorem dX10_home_17 : decode cX10_home 17 = .ok (.iload_n 1, 1) := fq_27 fk_cX10_home_1 1 rfl rfl
theorem dX10_home_18 : decode cX10_home 18 = .ok (.iadd, 1) := fq_96 fk_cX10_home_1 2 rfl rfl
theorem dX10_home_19 : decode cX10_home 19 = .ok (.iaload, 1) := fq_46 fk_cX10_home_1 3 rfl rfl
theorem dX10_home_20 : decode cX10_home 20 = .ok (.istore_n 2, 1) := fq_61 fk_cX10_home_1 4 rfl rfl
theorem dX10_home_21 : decode cX10_home 21 = .ok (.iload_n 2, 1) := fq_28 fk_cX10_home_1 5 rfl rfl
theorem dX10_home_22 : decode cX10_home 22 = .ok (.iconst (-1), 1) := fq_2 fk_cX10_home_1 6 rfl rfl
theorem dX10_home_23 : decode cX10_home 23 = .ok (.if_icmp .ne 6, 3) := fq_160 fk_cX10_home_1 7 rfl rfl rfl rfl rfl
theorem dX10_home_29 : decode cX10_home 29 = .ok (.aload_n 0, 1) := fq_42 fk_cX10_home_1 13 rfl rfl
theorem dX10_home_30 : decode cX10_home 30 = .ok (.invokevirtual 234, 3) := fq_182 fk_cX10_home_1 14 rfl rfl rfl rfl rfl
theorem fk_cX10_home_2 : fq_ck cX10_home 32 [234, 42, 180, 0, 7, 16, 6, 27, 96, 2, 79, 28, 172] := fq_of fW_cX10_home 2 rfl rfl
theorem dX10_home_33 : decode cX10_home 33 = .ok (.aload_n 0, 1) := fq_42 fk_cX10_home_2 1 rfl rfl
theorem dX10_home_34 : decode cX10_home 34 = .ok (.getfield 7, 3) := fq_180 fk_cX10_home_2 2 rfl rfl rfl rfl rfl
theorem dX10_home_37 : decode cX10_home 37 = .ok (.bipush 6, 2) := fq_16 fk_cX10_home_2 5 rfl rfl rfl rfl
theorem dX10_home_39 : decode cX10_home 39 = .ok (.iload_n 1, 1) := fq_27 fk_cX10_home_2 7 rfl rfl
theorem dX10_home_40 : decode cX10_home 40 = .ok (.iadd, 1) := fq_96 fk_cX10_home_2 8 rfl rfl
theorem dX10_home_41 : decode cX10_home 41 = .ok (.iconst (-1), 1) := fq_2 fk_cX10_home_2 9 rfl rfl
theorem dX10_home_42 : decode cX10_home 42 = .ok (.iastore, 1) := fq_79 fk_cX10_home_2 10 rfl rfl
theorem dX10_home_43 : decode cX10_home 43 = .ok (.iload_n 2, 1) := fq_28 fk_cX10_home_2 11 rfl rfl
theorem dX10_home_44 : decode cX10_home 44 = .ok (.ireturn, 1) := fq_172 fk_cX10_home_2 12 rfl rfl
theorem dX10_home_26 : decode cX10_home 26 = .ok (.ldc 233, 2) := fq_18 fk_cX10_home_1 10 rfl rfl rfl
theorem dX10_home_28 : decode cX10_home 28 = .ok (.ireturn, 1) := fq_172 fk_cX10_home_1 12 rfl rfl
theorem dX10_home_8 : decode cX10_home 8 = .ok (.ldc 199, 2) := fq_18 fk_cX10_home_0 8 rfl rfl rfl
theorem dX10_home_10 : decode cX10_home 10 = .ok (.ireturn, 1) := fq_172 fk_cX10_home_0 10 rfl rfl
def fw_cX10_grieve : List (List Nat) := [[42, 27, 182, 0, 204, 154, 0, 6, 18, 199, 172, 28, 133, 10, 20, 0, 245, 184], [245, 184, 0, 84, 154, 0, 6, 18, 93, 172, 42, 27, 182, 0, 207, 153, 0, 6], [0, 6, 18, 233, 172, 42, 182, 0, 234, 42, 27, 28, 182, 0, 247, 42, 180, 0], [180, 0, 7, 3, 27, 96, 46, 172]]
theorem fW_cX10_grieve : fq_wins 4 cX10_grieve.data.toList = fw_cX10_grieve := by decide +kernel
theorem fk_cX10_grieve_0 : fq_ck cX10_grieve 0 [42, 27, 182, 0, 204, 154, 0, 6, 18, 199, 172, 28, 133, 10, 20, 0, 245, 184] := fq_of fW_cX10_grieve 0 rfl rfl
theorem dX10_grieve_0 : decode cX10_grieve 0 = .ok (.aload_n 0, 1) := fq_42 fk_cX10_grieve_0 0 rfl rfl
theorem dX10_grieve_1 : decode cX10_grieve 1 = .ok (.iload_n 1, 1) := fq_27 fk_cX10_grieve_0 1 rfl rfl
theorem dX10_grieve_2 : decode cX10_grieve 2 = .ok (.invokevirtual 204, 3) := fq_182 fk_cX10_grieve_0 2 rfl rfl rfl rfl rfl
theorem dX10_grieve_5 : decode cX10_grieve 5 = .ok (.ifCond .ne 6, 3) := fq_154 fk_cX10_grieve_0 5 rfl rfl rfl rfl rfl
theorem dX10_grieve_11 : decode cX10_grieve 11 = .ok (.iload_n 2, 1) := fq_28 fk_cX10_grieve_0 11 rfl rfl
theorem dX10_grieve_12 : decode cX10_grieve 12 = .ok (.i2l, 1) := fq_133 fk_cX10_grieve_0 12 rfl rfl
theorem dX10_grieve_13 : decode cX10_grieve 13 = .ok (.lconst 1, 1) := fq_10 fk_cX10_grieve_0 13 rfl rfl
theorem wd_599 : Cond.constantLong RX10 245 (99) ∈ BG := BG_at5 124 (by decide +kernel) rfl
theorem dX10_grieve_14 : decode cX10_grieve 14 = .ok (.ldc2_w 245, 3) := fq_20 fk_cX10_grieve_0 14 rfl rfl rfl rfl rfl
theorem fk_cX10_grieve_1 : fq_ck cX10_grieve 16 [245, 184, 0, 84, 154, 0, 6, 18, 93, 172, 42, 27, 182, 0, 207, 153, 0, 6] := fq_of fW_cX10_grieve 1 rfl rfl
theorem dX10_grieve_17 : decode cX10_grieve 17 = .ok (.invokestatic 84, 3) := fq_184 fk_cX10_grieve_1 1 rfl rfl rfl rfl rfl
theorem dX10_grieve_20 : decode cX10_grieve 20 = .ok (.ifCond .ne 6, 3) := fq_154 fk_cX10_grieve_1 4 rfl rfl rfl rfl rfl
theorem dX10_grieve_26 : decode cX10_grieve 26 = .ok (.aload_n 0, 1) := fq_42 fk_cX10_grieve_1 10 rfl rfl
theorem dX10_grieve_27 : decode cX10_grieve 27 = .ok (.iload_n 1, 1) := fq_27 fk_cX10_grieve_1 11 rfl rfl
theorem dX10_grieve_28 : decode cX10_grieve 28 = .ok (.invokevirtual 207, 3) := fq_182 fk_cX10_grieve_1 12 rfl rfl rfl rfl rfl
theorem dX10_grieve_31 : decode cX10_grieve 31 = .ok (.ifCond .eq 6, 3) := fq_153 fk_cX10_grieve_1 15 rfl rfl rfl rfl rfl
theorem fk_cX10_grieve_2 : fq_ck cX10_grieve 32 [0, 6, 18, 233, 172, 42, 182, 0, 234, 42, 27, 28, 182, 0, 247, 42, 180, 0] := fq_of fW_cX10_grieve 2 rfl rfl
theorem dX10_grieve_37 : decode cX10_grieve 37 = .ok (.aload_n 0, 1) := fq_42 fk_cX10_grieve_2 5 rfl rfl
theorem dX10_grieve_38 : decode cX10_grieve 38 = .ok (.invokevirtual 234, 3) := fq_182 fk_cX10_grieve_2 6 rfl rfl rfl rfl rfl
theorem dX10_grieve_41 : decode cX10_grieve 41 = .ok (.aload_n 0, 1) := fq_42 fk_cX10_grieve_2 9 rfl rfl
theorem dX10_grieve_42 : decode cX10_grieve 42 = .ok (.iload_n 1, 1) := fq_27 fk_cX10_grieve_2 10 rfl rfl
theorem dX10_grieve_43 : decode cX10_grieve 43 = .ok (.iload_n 2, 1) := fq_28 fk_cX10_grieve_2 11 rfl rfl
theorem dX10_grieve_44 : decode cX10_grieve 44 = .ok (.invokevirtual 247, 3) := fq_182 fk_cX10_grieve_2 12 rfl rfl rfl rfl rfl
theorem wd_600 : Cond.methodLink RX10 247 yX10_grieves ∈ BG := BG_at5 125 (by decide +kernel) rfl
theorem wd_601 : Cond.code yX10_grieves cX10_grieves 4 none ∈ BG := BG_at5 128 rfl rfl
theorem wd_602 : Cond.instanceMethod yX10_grieves ∈ BG := BG_at5 127 (by decide +kernel) rfl
theorem wd_603 : Cond.selects RX10 yX10_grieves yX10_grieves ∈ BG := BG_in (by decide +kernel) rfl
theorem okV_X10_grieves : okV yX10_grieves cX10_grieves 4 none 2 := ⟨⟨wd_601, wd_497, by decide +kernel⟩, wd_602, wd_603⟩
theorem dX10_grieve_47 : decode cX10_grieve 47 = .ok (.aload_n 0, 1) := fq_42 fk_cX10_grieve_2 15 rfl rfl
theorem fk_cX10_grieve_3 : fq_ck cX10_grieve 48 [180, 0, 7, 3, 27, 96, 46, 172] := fq_of fW_cX10_grieve 3 rfl rfl
theorem dX10_grieve_48 : decode cX10_grieve 48 = .ok (.getfield 7, 3) := fq_180 fk_cX10_grieve_3 0 rfl rfl rfl rfl rfl
theorem dX10_grieve_51 : decode cX10_grieve 51 = .ok (.iconst 0, 1) := fq_3 fk_cX10_grieve_3 3 rfl rfl
theorem dX10_grieve_52 : decode cX10_grieve 52 = .ok (.iload_n 1, 1) := fq_27 fk_cX10_grieve_3 4 rfl rfl
theorem dX10_grieve_53 : decode cX10_grieve 53 = .ok (.iadd, 1) := fq_96 fk_cX10_grieve_3 5 rfl rfl
theorem dX10_grieve_54 : decode cX10_grieve 54 = .ok (.iaload, 1) := fq_46 fk_cX10_grieve_3 6 rfl rfl
theorem dX10_grieve_55 : decode cX10_grieve 55 = .ok (.ireturn, 1) := fq_172 fk_cX10_grieve_3 7 rfl rfl
theorem dX10_grieve_34 : decode cX10_grieve 34 = .ok (.ldc 233, 2) := fq_18 fk_cX10_grieve_2 2 rfl rfl rfl
theorem dX10_grieve_36 : decode cX10_grieve 36 = .ok (.ireturn, 1) := fq_172 fk_cX10_grieve_2 4 rfl rfl
theorem dX10_grieve_23 : decode cX10_grieve 23 = .ok (.ldc 93, 2) := fq_18 fk_cX10_grieve_1 7 rfl rfl rfl
theorem dX10_grieve_25 : decode cX10_grieve 25 = .ok (.ireturn, 1) := fq_172 fk_cX10_grieve_1 9 rfl rfl
theorem dX10_grieve_8 : decode cX10_grieve 8 = .ok (.ldc 199, 2) := fq_18 fk_cX10_grieve_0 8 rfl rfl rfl
theorem dX10_grieve_10 : decode cX10_grieve 10 = .ok (.ireturn, 1) := fq_172 fk_cX10_grieve_0 10 rfl rfl
noncomputable def f_m_send (G : Nat → Int32) (f0 : Nat → Int32) (c_ : Int32) (b_ : Int32) (t_ : Int32) : Int32 × (Nat → Int32) × (Nat → Int32) := (if (f_m_isCouple G c_) = 0 then ((-1000000001), G, f0) else (if (f_m_isBridge G b_) = 0 then ((-1000000001), G, f0) else (if (f_m_isTheme G t_) = 0 then ((-1000000001), G, f0) else (if (f_m_isDone f0 c_) = 0 then (if (f_m_whoIsAt G f0 0 b_) = (-1) then (match (f_m_minds G f0) with | (o_24, o_25) => ((o_25 ((6 + c_) : Int32).toNatClampNeg), o_24, (upd (upd o_25 ((6 + c_) : Int32).toNatClampNeg b_) ((12 + c_) : Int32).toNatClampNeg t_))) else (if (f_m_whoIsAt G f0 0 b_) = c_ then (match (f_m_minds G f0) with | (o_33, o_34) => ((o_34 ((6 + c_) : Int32).toNatClampNeg), o_33, (upd (upd o_34 ((6 + c_) : Int32).toNatClampNeg b_) ((12 + c_) : Int32).toNatClampNeg t_))) else ((-1000000003), G, f0))) else ((-1000000003), G, f0)))))
def S_m_send (G : Nat → Int32) (f0 : Nat → Int32) (c_ : Int32) (b_ : Int32) (t_ : Int32) : Prop := ((S_m_isCouple G c_) ∧ (((f_m_isCouple G c_) = 0 → True) ∧ (¬ (f_m_isCouple G c_) = 0 → ((S_m_isBridge G b_) ∧ (((f_m_isBridge G b_) = 0 → True) ∧ (¬ (f_m_isBridge G b_) = 0 → ((S_m_isTheme G t_) ∧ (((f_m_isTheme G t_) = 0 → True) ∧ (¬ (f_m_isTheme G t_) = 0 → ((S_m_whoIsAt G f0 0 b_) ∧ ((S_m_isDone f0 c_) ∧ (((f_m_isDone f0 c_) = 0 → (((f_m_whoIsAt G f0 0 b_) = (-1) → ((S_m_minds G f0) ∧ (∀ (o_24 : (Nat → Int32)) (o_25 : (Nat → Int32)), (o_24, o_25) = (f_m_minds G f0) → (vp_in (6 + c_) 1302 ∧ (vp_in (6 + c_) 1302 ∧ (vp_in (12 + c_) 1302 ∧ True)))))) ∧ (¬ (f_m_whoIsAt G f0 0 b_) = (-1) → (((f_m_whoIsAt G f0 0 b_) = c_ → ((S_m_minds G f0) ∧ (∀ (o_33 : (Nat → Int32)) (o_34 : (Nat → Int32)), (o_33, o_34) = (f_m_minds G f0) → (vp_in (6 + c_) 1302 ∧ (vp_in (6 + c_) 1302 ∧ (vp_in (12 + c_) 1302 ∧ True)))))) ∧ (¬ (f_m_whoIsAt G f0 0 b_) = c_ → True))))) ∧ (¬ (f_m_isDone f0 c_) = 0 → True)))))))))))))
def rm_m_send : Room := { frames := 2, cells := 0, slots := 0, locals := 46 }
set_option maxHeartbeats 4000000 in
set_option maxRecDepth 100000 in
theorem m_send {l : Launch} {D : va_G} {cI cZ : ClassId} {sz : Nat} (Rf : Nat → Nat) (h : Nat) (G : Nat → Int32) (f0 : Nat → Int32) (c_ : Int32) (b_ : Int32) (t_ : Int32) (hF : S_m_send G f0 c_ b_ t_) : KI l yX10_send cX10_send 6 (some .int) rm_m_send D cI cZ [.ref h, .int c_, .int b_, .int t_] sz [(h, .inr (10, ML G Rf)), ((Rf 0), .inl (cI, 1302, .inl f0))] (fun (r : Int32) (u : (Nat → Int32) × (Nat → Int32)) => (r, u) = f_m_send G f0 c_ b_ t_) (fun (u : (Nat → Int32) × (Nat → Int32)) => [(h, .inr (10, ML u.1 Rf)), ((Rf 0), .inl (cI, 1302, .inl u.2))]) := by
  refine KI.go rfl (Nat.le_of_ble_eq_true rfl) ?_
  intro p e s m args below meth c ls A Q hx hb hml hts hown hin hP hK hD hS hA hN hl hret
  have hl : lv_has ls 6 [(0, .ref h), (1, .int c_), (2, .int b_), (3, .int t_)] := hl
  rw [S_m_send] at hF
  obtain ⟨RES, hE⟩ : ∃ xRES, f_m_send G f0 c_ b_ t_ = xRES := ⟨_, rfl⟩
  rw [hE] at hret
  rw [f_m_send] at hE
  refine lv_aload_n hx hb dX10_send_0 rfl (lv_at hl 0 rfl) ?_
  refine lv_iload_n hx hb dX10_send_1 rfl (lv_at hl 1 rfl) ?_
  obtain ⟨hs_1, hF⟩ := hF
  refine cVi (wr := [((Rf 0), .inl (cI, 1302, .inl f0))]) (rest := []) (m_isCouple Rf h G c_ hs_1) okV_X10_isCouple wd_581 hx hb hml hown hts hK hP hD hS hA hN hl.1 [0] [1] rfl rfl rfl rfl (of_decide_eq_true rfl) rfl rfl rfl (Nat.le_of_ble_eq_true rfl) (Nat.le_of_ble_eq_true rfl) (Nat.le_of_ble_eq_true rfl) (Nat.le_of_ble_eq_true rfl) (Nat.le_of_ble_eq_true rfl) dX10_send_2 (fun r_3 u_2 H locs hw_u_2 hP hD hS => ?_)
  replace hw_u_2 : r_3 = (f_m_isCouple G c_) := hw_u_2
  rw [hw_u_2]
  clear hw_u_2
  have hP : va_P D classes [((Rf 0), .inl (cI, 1302, .inl f0)), (h, .inr (10, ML G Rf))] H := hP
  have hD : va_D A [((Rf 0), .inl (cI, 1302, .inl f0)), (h, .inr (10, ML G Rf))] := hD
  refine lv_if_eq (tgt := 24) hx hb dX10_send_5 rfl (fun c_4 => ?_) (fun c_4 => ?_)
  · replace hF := hF.1 c_4
    rw [if_pos c_4] at hE
    refine lv_ldc (v := (-1000000001)) hx hb hown (hts _ wd_580) dX10_send_24 ?_
    exact hret (-1000000001) (G, f0) _ _ _ _ dX10_send_26 rfl hE (cutP (isC := [1, 0]) hP rfl) (cutD (isC := [1, 0]) hD rfl rfl) hS
  · replace hF := hF.2 c_4
    rw [if_neg c_4] at hE
    refine lv_aload_n hx hb dX10_send_8 rfl (lv_at hl 0 rfl) ?_
    refine lv_iload_n hx hb dX10_send_9 rfl (lv_at hl 2 rfl) ?_
    obtain ⟨hs_5, hF⟩ := hF
    refine cVi (wr := [((Rf 0), .inl (cI, 1302, .inl f0))]) (rest := []) (m_isBridge Rf h G b_ hs_5) okV_X10_isBridge wd_571 hx hb hml hown hts hK hP hD hS hA hN hl.1 [1] [0] rfl rfl rfl rfl (of_decide_eq_true rfl) rfl rfl rfl (Nat.le_of_ble_eq_true rfl) (Nat.le_of_ble_eq_true rfl) (Nat.le_of_ble_eq_true rfl) (Nat.le_of_ble_eq_true rfl) (Nat.le_of_ble_eq_true rfl) dX10_send_10 (fun r_7 u_6 H locs hw_u_6 hP hD hS => ?_)
    replace hw_u_6 : r_7 = (f_m_isBridge G b_) := hw_u_6
    rw [hw_u_6]
    clear hw_u_6
    have hP : va_P D classes [((Rf 0), .inl (cI, 1302, .inl f0)), (h, .inr (10, ML G Rf))] H := hP
    have hD : va_D A [((Rf 0), .inl (cI, 1302, .inl f0)), (h, .inr (10, ML G Rf))] := hD
    refine lv_if_eq (tgt := 24) hx hb dX10_send_13 rfl (fun c_8 => ?_) (fun c_8 => ?_)
    · replace hF := hF.1 c_8
      rw [if_pos c_8] at hE
      refine lv_ldc (v := (-1000000001)) hx hb hown (hts _ wd_580) dX10_send_24 ?_
      exact hret (-1000000001) (G, f0) _ _ _ _ dX10_send_26 rfl hE (cutP (isC := [1, 0]) hP rfl) (cutD (isC := [1, 0]) hD rfl rfl) hS
    · replace hF := hF.2 c_8
      rw [if_neg c_8] at hE
      refine lv_aload_n hx hb dX10_send_16 rfl (lv_at hl 0 rfl) ?_
      refine lv_iload_n hx hb dX10_send_17 rfl (lv_at hl 3 rfl) ?_
      obtain ⟨hs_9, hF⟩ := hF
      refine cVi (wr := [((Rf 0), .inl (cI, 1302, .inl f0))]) (rest := []) (m_isTheme Rf h G t_ hs_9) okV_X10_isTheme wd_585 hx hb hml hown hts hK hP hD hS hA hN hl.1 [1] [0] rfl rfl rfl rfl (of_decide_eq_true rfl) rfl rfl rfl (Nat.le_of_ble_eq_true rfl) (Nat.le_of_ble_eq_true rfl) (Nat.le_of_ble_eq_true rfl) (Nat.le_of_ble_eq_true rfl) (Nat.le_of_ble_eq_true rfl) dX10_send_18 (fun r_11 u_10 H locs hw_u_10 hP hD hS => ?_)
      replace hw_u_10 : r_11 = (f_m_isTheme G t_) := hw_u_10
      rw [hw_u_10]
      clear hw_u_10
      have hP : va_P D classes [((Rf 0), .inl (cI, 1302, .inl f0)), (h, .inr (10, ML G Rf))] H := hP
      have hD : va_D A [((Rf 0), .inl (cI, 1302, .inl f0)), (h, .inr (10, ML G Rf))] := hD
      refine lv_if_ne (tgt := 27) hx hb dX10_send_21 rfl (fun c_12 => ?_) (fun c_12 => ?_)
      · replace hF := hF.2 c_12
        rw [if_neg c_12] at hE
        refine lv_aload_n hx hb dX10_send_27 rfl (lv_at hl 0 rfl) ?_
        refine lv_iconst (v := 0) hx hb dX10_send_28 rfl ?_
        refine lv_iload_n hx hb dX10_send_29 rfl (lv_at hl 2 rfl) ?_
        obtain ⟨hs_13, hF⟩ := hF
        refine cVi (wr := []) (rest := []) (m_whoIsAt Rf h G f0 0 b_ hs_13) okV_X10_whoIsAt wd_575 hx hb hml hown hts hK hP hD hS hA hN hl.1 [1, 0] [] rfl rfl rfl rfl (of_decide_eq_true rfl) rfl rfl rfl (Nat.le_of_ble_eq_true rfl) (Nat.le_of_ble_eq_true rfl) (Nat.le_of_ble_eq_true rfl) (Nat.le_of_ble_eq_true rfl) (Nat.le_of_ble_eq_true rfl) dX10_send_30 (fun r_15 u_14 H locs hw_u_14 hP hD hS => ?_)
        replace hw_u_14 : r_15 = (f_m_whoIsAt G f0 0 b_) := hw_u_14
        rw [hw_u_14]
        clear hw_u_14
        have hP : va_P D classes [(h, .inr (10, ML G Rf)), ((Rf 0), .inl (cI, 1302, .inl f0))] H := hP
        have hD : va_D A [(h, .inr (10, ML G Rf)), ((Rf 0), .inl (cI, 1302, .inl f0))] := hD
        refine lv_istore (lv' := [(4, .int (f_m_whoIsAt G f0 0 b_)), (0, .ref h), (1, .int c_), (2, .int b_), (3, .int t_)]) hx hb dX10_send_33 hl (Nat.le_of_ble_eq_true rfl) rfl (fun ls hl => ?_)
        refine lv_aload_n hx hb dX10_send_35 rfl (lv_at hl 1 rfl) ?_
        refine lv_iload_n hx hb dX10_send_36 rfl (lv_at hl 2 rfl) ?_
        obtain ⟨hs_16, hF⟩ := hF
        refine cVi (wr := []) (rest := []) (m_isDone Rf h G f0 c_ hs_16) okV_X10_isDone wd_567 hx hb hml hown hts hK hP hD hS hA hN hl.1 [0, 1] [] rfl rfl rfl rfl (of_decide_eq_true rfl) rfl rfl rfl (Nat.le_of_ble_eq_true rfl) (Nat.le_of_ble_eq_true rfl) (Nat.le_of_ble_eq_true rfl) (Nat.le_of_ble_eq_true rfl) (Nat.le_of_ble_eq_true rfl) dX10_send_37 (fun r_18 u_17 H locs hw_u_17 hP hD hS => ?_)
        replace hw_u_17 : r_18 = (f_m_isDone f0 c_) := hw_u_17
        rw [hw_u_17]
        clear hw_u_17
        have hP : va_P D classes [(h, .inr (10, ML G Rf)), ((Rf 0), .inl (cI, 1302, .inl f0))] H := hP
        have hD : va_D A [(h, .inr (10, ML G Rf)), ((Rf 0), .inl (cI, 1302, .inl f0))] := hD
        refine lv_if_ne (tgt := 55) hx hb dX10_send_40 rfl (fun c_19 => ?_) (fun c_19 => ?_)
        · replace hF := hF.2 c_19
          rw [if_neg c_19] at hE
          refine lv_ldc (v := (-1000000003)) hx hb hown (hts _ wd_562) dX10_send_55 ?_
          exact hret (-1000000003) (G, f0) _ _ _ _ dX10_send_57 rfl hE hP hD hS
        · replace hF := hF.1 c_19
          rw [if_pos c_19] at hE
          refine lv_iload hx hb dX10_send_43 (lv_at hl 0 rfl) ?_
          refine lv_iconst (v := (-1)) hx hb dX10_send_45 rfl ?_
          refine lv_icmp_eq (tgt := 58) hx hb dX10_send_46 rfl (fun c_20 => ?_) (fun c_20 => ?_)
          · replace hF := hF.1 c_20
            rw [if_pos c_20] at hE
            refine lv_aload_n hx hb dX10_send_58 rfl (lv_at hl 1 rfl) ?_
            obtain ⟨hs_21, hF⟩ := hF
            refine cVv (wr := []) (rest := []) (m_minds Rf h G f0 hs_21) okV_X10_minds wd_595 hx hb hml hown hts hK hP hD hS hA hN hl.1 [0, 1] [] rfl rfl rfl rfl (of_decide_eq_true rfl) rfl rfl rfl (Nat.le_of_ble_eq_true rfl) (Nat.le_of_ble_eq_true rfl) (Nat.le_of_ble_eq_true rfl) (Nat.le_of_ble_eq_true rfl) (Nat.le_of_ble_eq_true rfl) dX10_send_59 (fun u_22 H locs hw_u_22 hP hD hS => ?_)
            obtain ⟨o_24, o_25⟩ := u_22
            replace hw_u_22 : (o_24, o_25) = (f_m_minds G f0) := hw_u_22
            replace hF := hF o_24 o_25 hw_u_22
            rw [← hw_u_22] at hE
            replace hE : (((o_25 ((6 + c_) : Int32).toNatClampNeg), o_24, (upd (upd o_25 ((6 + c_) : Int32).toNatClampNeg b_) ((12 + c_) : Int32).toNatClampNeg t_)) : Int32 × (Nat → Int32) × (Nat → Int32)) = RES := hE
            have hP : va_P D classes [(h, .inr (10, ML o_24 Rf)), ((Rf 0), .inl (cI, 1302, .inl o_25))] H := hP
            have hD : va_D A [(h, .inr (10, ML o_24 Rf)), ((Rf 0), .inl (cI, 1302, .inl o_25))] := hD
            refine lv_aload_n hx hb dX10_send_62 rfl (lv_at hl 1 rfl) ?_
            refine va_get (D := D) (ci := 10) (v := .ref (Rf 0)) (C := RX10) (T := TX10) (N := 45) hx hb hts iX10 hown hK hP 0 rfl rfl 0 (Nat.le_of_ble_eq_true rfl) (hts _ wd_491) (fun _ h9 => h9) rfl dX10_send_63 ?_
            refine lv_bipush (v := 6) hx hb dX10_send_66 rfl ?_
            refine lv_iload_n hx hb dX10_send_68 rfl (lv_at hl 2 rfl) ?_
            refine lv_iadd hx hb dX10_send_69 ?_
            obtain ⟨hv_26, hF⟩ := hF
            refine va_iald hx hb hK hP 1 0 rfl rfl hv_26 dX10_send_70 ?_
            refine lv_istore (lv' := [(5, .int (o_25 ((6 + c_) : Int32).toNatClampNeg)), (4, .int (f_m_whoIsAt G f0 0 b_)), (0, .ref h), (1, .int c_), (2, .int b_), (3, .int t_)]) hx hb dX10_send_71 hl (Nat.le_of_ble_eq_true rfl) rfl (fun ls hl => ?_)
            refine lv_aload_n hx hb dX10_send_73 rfl (lv_at hl 2 rfl) ?_
            refine va_get (D := D) (ci := 10) (v := .ref (Rf 0)) (C := RX10) (T := TX10) (N := 45) hx hb hts iX10 hown hK hP 0 rfl rfl 0 (Nat.le_of_ble_eq_true rfl) (hts _ wd_491) (fun _ h9 => h9) rfl dX10_send_74 ?_
            refine lv_bipush (v := 6) hx hb dX10_send_77 rfl ?_
            refine lv_iload_n hx hb dX10_send_79 rfl (lv_at hl 3 rfl) ?_
            refine lv_iadd hx hb dX10_send_80 ?_
            refine lv_iload_n hx hb dX10_send_81 rfl (lv_at hl 4 rfl) ?_
            obtain ⟨hv_27, hF⟩ := hF
            refine va_iast hx hb hK hP hD hS 1 0 rfl rfl hv_27 dX10_send_82 (fun H locs hP hD hS => ?_)
            have hP : va_P D classes [(h, .inr (10, ML o_24 Rf)), ((Rf 0), .inl (cI, 1302, .inl (upd o_25 ((6 + c_) : Int32).toNatClampNeg b_)))] H := hP
            have hD : va_D A [(h, .inr (10, ML o_24 Rf)), ((Rf 0), .inl (cI, 1302, .inl (upd o_25 ((6 + c_) : Int32).toNatClampNeg b_)))] := hD
            refine lv_aload_n hx hb dX10_send_83 rfl (lv_at hl 2 rfl) ?_
            refine va_get (D := D) (ci := 10) (v := .ref (Rf 0)) (C := RX10) (T := TX10) (N := 45) hx hb hts iX10 hown hK hP 0 rfl rfl 0 (Nat.le_of_ble_eq_true rfl) (hts _ wd_491) (fun _ h9 => h9) rfl dX10_send_84 ?_
            refine lv_bipush (v := 12) hx hb dX10_send_87 rfl ?_
            refine lv_iload_n hx hb dX10_send_89 rfl (lv_at hl 3 rfl) ?_
            refine lv_iadd hx hb dX10_send_90 ?_
            refine lv_iload_n hx hb dX10_send_91 rfl (lv_at hl 5 rfl) ?_
            obtain ⟨hv_28, hF⟩ := hF
            refine va_iast hx hb hK hP hD hS 1 0 rfl rfl hv_28 dX10_send_92 (fun H locs hP hD hS => ?_)
            have hP : va_P D classes [(h, .inr (10, ML o_24 Rf)), ((Rf 0), .inl (cI, 1302, .inl (upd (upd o_25 ((6 + c_) : Int32).toNatClampNeg b_) ((12 + c_) : Int32).toNatClampNeg t_)))] H := hP
            have hD : va_D A [(h, .inr (10, ML o_24 Rf)), ((Rf 0), .inl (cI, 1302, .inl (upd (upd o_25 ((6 + c_) : Int32).toNatClampNeg b_) ((12 + c_) : Int32).toNatClampNeg t_)))] := hD
            refine lv_iload hx hb dX10_send_93 (lv_at hl 0 rfl) ?_
            exact hret (o_25 ((6 + c_) : Int32).toNatClampNeg) (o_24, (upd (upd o_25 ((6 + c_) : Int32).toNatClampNeg b_) ((12 + c_) : Int32).toNatClampNeg t_)) _ _ _ _ dX10_send_95 rfl hE hP hD hS
          · replace hF := hF.2 c_20
            rw [if_neg c_20] at hE
            refine lv_iload hx hb dX10_send_49 (lv_at hl 0 rfl) ?_
            refine lv_iload_n hx hb dX10_send_51 rfl (lv_at hl 2 rfl) ?_
            refine lv_icmp_eq (tgt := 58) hx hb dX10_send_52 rfl (fun c_29 => ?_) (fun c_29 => ?_)
            · replace hF := hF.1 c_29
              rw [if_pos c_29] at hE
              refine lv_aload_n hx hb dX10_send_58 rfl (lv_at hl 1 rfl) ?_
              obtain ⟨hs_30, hF⟩ := hF
              refine cVv (wr := []) (rest := []) (m_minds Rf h G f0 hs_30) okV_X10_minds wd_595 hx hb hml hown hts hK hP hD hS hA hN hl.1 [0, 1] [] rfl rfl rfl rfl (of_decide_eq_true rfl) rfl rfl rfl (Nat.le_of_ble_eq_true rfl) (Nat.le_of_ble_eq_true rfl) (Nat.le_of_ble_eq_true rfl) (Nat.le_of_ble_eq_true rfl) (Nat.le_of_ble_eq_true rfl) dX10_send_59 (fun u_31 H locs hw_u_31 hP hD hS => ?_)
              obtain ⟨o_33, o_34⟩ := u_31
              replace hw_u_31 : (o_33, o_34) = (f_m_minds G f0) := hw_u_31
              replace hF := hF o_33 o_34 hw_u_31
              rw [← hw_u_31] at hE
              replace hE : (((o_34 ((6 + c_) : Int32).toNatClampNeg), o_33, (upd (upd o_34 ((6 + c_) : Int32).toNatClampNeg b_) ((12 + c_) : Int32).toNatClampNeg t_)) : Int32 × (Nat → Int32) × (Nat → Int32)) = RES := hE
              have hP : va_P D classes [(h, .inr (10, ML o_33 Rf)), ((Rf 0), .inl (cI, 1302, .inl o_34))] H := hP
              have hD : va_D A [(h, .inr (10, ML o_33 Rf)), ((Rf 0), .inl (cI, 1302, .inl o_34))] := hD
              refine lv_aload_n hx hb dX10_send_62 rfl (lv_at hl 1 rfl) ?_
              refine va_get (D := D) (ci := 10) (v := .ref (Rf 0)) (C := RX10) (T := TX10) (N := 45) hx hb hts iX10 hown hK hP 0 rfl rfl 0 (Nat.le_of_ble_eq_true rfl) (hts _ wd_491) (fun _ h9 => h9) rfl dX10_send_63 ?_
              refine lv_bipush (v := 6) hx hb dX10_send_66 rfl ?_
              refine lv_iload_n hx hb dX10_send_68 rfl (lv_at hl 2 rfl) ?_
              refine lv_iadd hx hb dX10_send_69 ?_
              obtain ⟨hv_35, hF⟩ := hF
              refine va_iald hx hb hK hP 1 0 rfl rfl hv_35 dX10_send_70 ?_
              refine lv_istore (lv' := [(5, .int (o_34 ((6 + c_) : Int32).toNatClampNeg)), (4, .int (f_m_whoIsAt G f0 0 b_)), (0, .ref h), (1, .int c_), (2, .int b_), (3, .int t_)]) hx hb dX10_send_71 hl (Nat.le_of_ble_eq_true rfl) rfl (fun ls hl => ?_)
              refine lv_aload_n hx hb dX10_send_73 rfl (lv_at hl 2 rfl) ?_
              refine va_get (D := D) (ci := 10) (v := .ref (Rf 0)) (C := RX10) (T := TX10) (N := 45) hx hb hts iX10 hown hK hP 0 rfl rfl 0 (Nat.le_of_ble_eq_true rfl) (hts _ wd_491) (fun _ h9 => h9) rfl dX10_send_74 ?_
              refine lv_bipush (v := 6) hx hb dX10_send_77 rfl ?_
              refine lv_iload_n hx hb dX10_send_79 rfl (lv_at hl 3 rfl) ?_
              refine lv_iadd hx hb dX10_send_80 ?_
              refine lv_iload_n hx hb dX10_send_81 rfl (lv_at hl 4 rfl) ?_
              obtain ⟨hv_36, hF⟩ := hF
              refine va_iast hx hb hK hP hD hS 1 0 rfl rfl hv_36 dX10_send_82 (fun H locs hP hD hS => ?_)
              have hP : va_P D classes [(h, .inr (10, ML o_33 Rf)), ((Rf 0), .inl (cI, 1302, .inl (upd o_34 ((6 + c_) : Int32).toNatClampNeg b_)))] H := hP
              have hD : va_D A [(h, .inr (10, ML o_33 Rf)), ((Rf 0), .inl (cI, 1302, .inl (upd o_34 ((6 + c_) : Int32).toNatClampNeg b_)))] := hD
              refine lv_aload_n hx hb dX10_send_83 rfl (lv_at hl 2 rfl) ?_
              refine va_get (D := D) (ci := 10) (v := .ref (Rf 0)) (C := RX10) (T := TX10) (N := 45) hx hb hts iX10 hown hK hP 0 rfl rfl 0 (Nat.le_of_ble_eq_true rfl) (hts _ wd_491) (fun _ h9 => h9) rfl dX10_send_84 ?_
              refine lv_bipush (v := 12) hx hb dX10_send_87 rfl ?_
              refine lv_iload_n hx hb dX10_send_89 rfl (lv_at hl 3 rfl) ?_
              refine lv_iadd hx hb dX10_send_90 ?_
              refine lv_iload_n hx hb dX10_send_91 rfl (lv_at hl 5 rfl) ?_
              obtain ⟨hv_37, hF⟩ := hF
              refine va_iast hx hb hK hP hD hS 1 0 rfl rfl hv_37 dX10_send_92 (fun H locs hP hD hS => ?_)
              have hP : va_P D classes [(h, .inr (10, ML o_33 Rf)), ((Rf 0), .inl (cI, 1302, .inl (upd (upd o_34 ((6 + c_) : Int32).toNatClampNeg b_) ((12 + c_) : Int32).toNatClampNeg t_)))] H := hP
              have hD : va_D A [(h, .inr (10, ML o_33 Rf)), ((Rf 0), .inl (cI, 1302, .inl (upd (upd o_34 ((6 + c_) : Int32).toNatClampNeg b_) ((12 + c_) : Int32).toNatClampNeg t_)))] := hD
              refine lv_iload hx hb dX10_send_93 (lv_at hl 0 rfl) ?_
              exact hret (o_34 ((6 + c_) : Int32).toNatClampNeg) (o_33, (upd (upd o_34 ((6 + c_) : Int32).toNatClampNeg b_) ((12 + c_) : Int32).toNatClampNeg t_)) _ _ _ _ dX10_send_95 rfl hE hP hD hS
            · replace hF := hF.2 c_29
              rw [if_neg c_29] at hE
              refine lv_ldc (v := (-1000000003)) hx hb hown (hts _ wd_562) dX10_send_55 ?_
              exact hret (-1000000003) (G, f0) _ _ _ _ dX10_send_57 rfl hE hP hD hS
      · replace hF := hF.1 c_12
        rw [if_pos c_12] at hE
        refine lv_ldc (v := (-1000000001)) hx hb hown (hts _ wd_580) dX10_send_24 ?_
        exact hret (-1000000001) (G, f0) _ _ _ _ dX10_send_26 rfl hE (cutP (isC := [1, 0]) hP rfl) (cutD (isC := [1, 0]) hD rfl rfl) hS
noncomputable def f_m_home (G : Nat → Int32) (f0 : Nat → Int32) (c_ : Int32) : Int32 × (Nat → Int32) × (Nat → Int32) := (if (f_m_isCouple G c_) = 0 then ((-1000000001), G, f0) else (if (f0 ((6 + c_) : Int32).toNatClampNeg) = (-1) then ((-1000000003), G, f0) else (match (f_m_minds G f0) with | (o_10, o_11) => ((f0 ((6 + c_) : Int32).toNatClampNeg), o_10, (upd o_11 ((6 + c_) : Int32).toNatClampNeg (-1))))))
def S_m_home (G : Nat → Int32) (f0 : Nat → Int32) (c_ : Int32) : Prop := ((S_m_isCouple G c_) ∧ (((f_m_isCouple G c_) = 0 → True) ∧ (¬ (f_m_isCouple G c_) = 0 → (vp_in (6 + c_) 1302 ∧ (((f0 ((6 + c_) : Int32).toNatClampNeg) = (-1) → True) ∧ (¬ (f0 ((6 + c_) : Int32).toNatClampNeg) = (-1) → ((S_m_minds G f0) ∧ (∀ (o_10 : (Nat → Int32)) (o_11 : (Nat → Int32)), (o_10, o_11) = (f_m_minds G f0) → (vp_in (6 + c_) 1302 ∧ True)))))))))
def rm_m_home : Room := { frames := 2, cells := 0, slots := 0, locals := 46 }
set_option maxHeartbeats 4000000 in
set_option maxRecDepth 100000 in
theorem m_home {l : Launch} {D : va_G} {cI cZ : ClassId} {sz : Nat} (Rf : Nat → Nat) (h : Nat) (G : Nat → Int32) (f0 : Nat → Int32) (c_ : Int32) (hF : S_m_home G f0 c_) : KI l yX10_home cX10_home 3 (some .int) rm_m_home D cI cZ [.ref h, .int c_] sz [(h, .inr (10, ML G Rf)), ((Rf 0), .inl (cI, 1302, .inl f0))] (fun (r : Int32) (u : (Nat → Int32) × (Nat → Int32)) => (r, u) = f_m_home G f0 c_) (fun (u : (Nat → Int32) × (Nat → Int32)) => [(h, .inr (10, ML u.1 Rf)), ((Rf 0), .inl (cI, 1302, .inl u.2))]) := by
  refine KI.go rfl (Nat.le_of_ble_eq_true rfl) ?_
  intro p e s m args below meth c ls A Q hx hb hml hts hown hin hP hK hD hS hA hN hl hret
  have hl : lv_has ls 3 [(0, .ref h), (1, .int c_)] := hl
  rw [S_m_home] at hF
  obtain ⟨RES, hE⟩ : ∃ xRES, f_m_home G f0 c_ = xRES := ⟨_, rfl⟩
  rw [hE] at hret
  rw [f_m_home] at hE
  refine lv_aload_n hx hb dX10_home_0 rfl (lv_at hl 0 rfl) ?_
  refine lv_iload_n hx hb dX10_home_1 rfl (lv_at hl 1 rfl) ?_
  obtain ⟨hs_1, hF⟩ := hF
  refine cVi (wr := [((Rf 0), .inl (cI, 1302, .inl f0))]) (rest := []) (m_isCouple Rf h G c_ hs_1) okV_X10_isCouple wd_581 hx hb hml hown hts hK hP hD hS hA hN hl.1 [0] [1] rfl rfl rfl rfl (of_decide_eq_true rfl) rfl rfl rfl (Nat.le_of_ble_eq_true rfl) (Nat.le_of_ble_eq_true rfl) (Nat.le_of_ble_eq_true rfl) (Nat.le_of_ble_eq_true rfl) (Nat.le_of_ble_eq_true rfl) dX10_home_2 (fun r_3 u_2 H locs hw_u_2 hP hD hS => ?_)
  replace hw_u_2 : r_3 = (f_m_isCouple G c_) := hw_u_2
  rw [hw_u_2]
  clear hw_u_2
  have hP : va_P D classes [((Rf 0), .inl (cI, 1302, .inl f0)), (h, .inr (10, ML G Rf))] H := hP
  have hD : va_D A [((Rf 0), .inl (cI, 1302, .inl f0)), (h, .inr (10, ML G Rf))] := hD
  refine lv_if_ne (tgt := 11) hx hb dX10_home_5 rfl (fun c_4 => ?_) (fun c_4 => ?_)
  · replace hF := hF.2 c_4
    rw [if_neg c_4] at hE
    refine lv_aload_n hx hb dX10_home_11 rfl (lv_at hl 0 rfl) ?_
    refine va_get (D := D) (ci := 10) (v := .ref (Rf 0)) (C := RX10) (T := TX10) (N := 45) hx hb hts iX10 hown hK hP 1 rfl rfl 0 (Nat.le_of_ble_eq_true rfl) (hts _ wd_491) (fun _ h9 => h9) rfl dX10_home_12 ?_
    refine lv_bipush (v := 6) hx hb dX10_home_15 rfl ?_
    refine lv_iload_n hx hb dX10_home_17 rfl (lv_at hl 1 rfl) ?_
    refine lv_iadd hx hb dX10_home_18 ?_
    obtain ⟨hv_5, hF⟩ := hF
    refine va_iald hx hb hK hP 0 0 rfl rfl hv_5 dX10_home_19 ?_
    refine lv_istore_n (lv' := [(2, .int (f0 ((6 + c_) : Int32).toNatClampNeg)), (0, .ref h), (1, .int c_)]) hx hb dX10_home_20 rfl hl (Nat.le_of_ble_eq_true rfl) rfl (fun ls hl => ?_)
    refine lv_iload_n hx hb dX10_home_21 rfl (lv_at hl 0 rfl) ?_
    refine lv_iconst (v := (-1)) hx hb dX10_home_22 rfl ?_
    refine lv_icmp_ne (tgt := 29) hx hb dX10_home_23 rfl (fun c_6 => ?_) (fun c_6 => ?_)
    · replace hF := hF.2 c_6
      rw [if_neg c_6] at hE
      refine lv_aload_n hx hb dX10_home_29 rfl (lv_at hl 1 rfl) ?_
      obtain ⟨hs_7, hF⟩ := hF
      refine cVv (wr := []) (rest := []) (m_minds Rf h G f0 hs_7) okV_X10_minds wd_595 hx hb hml hown hts hK hP hD hS hA hN hl.1 [1, 0] [] rfl rfl rfl rfl (of_decide_eq_true rfl) rfl rfl rfl (Nat.le_of_ble_eq_true rfl) (Nat.le_of_ble_eq_true rfl) (Nat.le_of_ble_eq_true rfl) (Nat.le_of_ble_eq_true rfl) (Nat.le_of_ble_eq_true rfl) dX10_home_30 (fun u_8 H locs hw_u_8 hP hD hS => ?_)
      obtain ⟨o_10, o_11⟩ := u_8
      replace hw_u_8 : (o_10, o_11) = (f_m_minds G f0) := hw_u_8
      replace hF := hF o_10 o_11 hw_u_8
      rw [← hw_u_8] at hE
      replace hE : (((f0 ((6 + c_) : Int32).toNatClampNeg), o_10, (upd o_11 ((6 + c_) : Int32).toNatClampNeg (-1))) : Int32 × (Nat → Int32) × (Nat → Int32)) = RES := hE
      have hP : va_P D classes [(h, .inr (10, ML o_10 Rf)), ((Rf 0), .inl (cI, 1302, .inl o_11))] H := hP
      have hD : va_D A [(h, .inr (10, ML o_10 Rf)), ((Rf 0), .inl (cI, 1302, .inl o_11))] := hD
      refine lv_aload_n hx hb dX10_home_33 rfl (lv_at hl 1 rfl) ?_
      refine va_get (D := D) (ci := 10) (v := .ref (Rf 0)) (C := RX10) (T := TX10) (N := 45) hx hb hts iX10 hown hK hP 0 rfl rfl 0 (Nat.le_of_ble_eq_true rfl) (hts _ wd_491) (fun _ h9 => h9) rfl dX10_home_34 ?_
      refine lv_bipush (v := 6) hx hb dX10_home_37 rfl ?_
      refine lv_iload_n hx hb dX10_home_39 rfl (lv_at hl 2 rfl) ?_
      refine lv_iadd hx hb dX10_home_40 ?_
      refine lv_iconst (v := (-1)) hx hb dX10_home_41 rfl ?_
      obtain ⟨hv_12, hF⟩ := hF
      refine va_iast hx hb hK hP hD hS 1 0 rfl rfl hv_12 dX10_home_42 (fun H locs hP hD hS => ?_)
      have hP : va_P D classes [(h, .inr (10, ML o_10 Rf)), ((Rf 0), .inl (cI, 1302, .inl (upd o_11 ((6 + c_) : Int32).toNatClampNeg (-1))))] H := hP
      have hD : va_D A [(h, .inr (10, ML o_10 Rf)), ((Rf 0), .inl (cI, 1302, .inl (upd o_11 ((6 + c_) : Int32).toNatClampNeg (-1))))] := hD
      refine lv_iload_n hx hb dX10_home_43 rfl (lv_at hl 0 rfl) ?_
      exact hret (f0 ((6 + c_) : Int32).toNatClampNeg) (o_10, (upd o_11 ((6 + c_) : Int32).toNatClampNeg (-1))) _ _ _ _ dX10_home_44 rfl hE hP hD hS
    · replace hF := hF.1 c_6
      rw [if_pos c_6] at hE
      refine lv_ldc (v := (-1000000003)) hx hb hown (hts _ wd_562) dX10_home_26 ?_
      exact hret (-1000000003) (G, f0) _ _ _ _ dX10_home_28 rfl hE (cutP (isC := [1, 0]) hP rfl) (cutD (isC := [1, 0]) hD rfl rfl) hS
  · replace hF := hF.1 c_4
    rw [if_pos c_4] at hE
    refine lv_ldc (v := (-1000000001)) hx hb hown (hts _ wd_580) dX10_home_8 ?_
    exact hret (-1000000001) (G, f0) _ _ _ _ dX10_home_10 rfl hE (cutP (isC := [1, 0]) hP rfl) (cutD (isC := [1, 0]) hD rfl rfl) hS
noncomputable def f_m_grieve (G : Nat → Int32) (f0 : Nat → Int32) (c_ : Int32) (v_ : Int32) : Int32 × (Nat → Int32) × (Nat → Int32) := (if (f_m_isCouple G c_) = 0 then ((-1000000001), G, f0) else (if (f_m_in v_.toInt64 1 99) = 0 then ((-1000000002), G, f0) else (if (f_m_isDone f0 c_) = 0 then (match (f_m_minds G f0) with | (o_16, o_17) => (((f_m_grieves o_17 c_ v_) ((0 + c_) : Int32).toNatClampNeg), o_16, (f_m_grieves o_17 c_ v_))) else ((-1000000003), G, f0))))
def S_m_grieve (G : Nat → Int32) (f0 : Nat → Int32) (c_ : Int32) (v_ : Int32) : Prop := ((S_m_isCouple G c_) ∧ (((f_m_isCouple G c_) = 0 → True) ∧ (¬ (f_m_isCouple G c_) = 0 → ((S_m_in v_.toInt64 1 99) ∧ (((f_m_in v_.toInt64 1 99) = 0 → True) ∧ (¬ (f_m_in v_.toInt64 1 99) = 0 → ((S_m_isDone f0 c_) ∧ (((f_m_isDone f0 c_) = 0 → ((S_m_minds G f0) ∧ (∀ (o_16 : (Nat → Int32)) (o_17 : (Nat → Int32)), (o_16, o_17) = (f_m_minds G f0) → ((S_m_grieves o_17 c_ v_) ∧ (vp_in (0 + c_) 1302 ∧ True))))) ∧ (¬ (f_m_isDone f0 c_) = 0 → True)))))))))
def rm_m_grieve : Room := { frames := 3, cells := 0, slots := 0, locals := 65 }
set_option maxHeartbeats 4000000 in
set_option maxRecDepth 100000 in
theorem m_grieve {l : Launch} {D : va_G} {cI cZ : ClassId} {sz : Nat} (Rf : Nat → Nat) (h : Nat) (G : Nat → Int32) (f0 : Nat → Int32) (c_ : Int32) (v_ : Int32) (hF : S_m_grieve G f0 c_ v_) : KI l yX10_grieve cX10_grieve 3 (some .int) rm_m_grieve D cI cZ [.ref h, .int c_, .int v_] sz [(h, .inr (10, ML G Rf)), ((Rf 0), .inl (cI, 1302, .inl f0))] (fun (r : Int32) (u : (Nat → Int32) × (Nat → Int32)) => (r, u) = f_m_grieve G f0 c_ v_) (fun (u : (Nat → Int32) × (Nat → Int32)) => [(h, .inr (10, ML u.1 Rf)), ((Rf 0), .inl (cI, 1302, .inl u.2))]) := by
  refine KI.go rfl (Nat.le_of_ble_eq_true rfl) ?_
  intro p e s m args below meth c ls A Q hx hb hml hts hown hin hP hK hD hS hA hN hl hret
  have hl : lv_has ls 3 [(0, .ref h), (1, .int c_), (2, .int v_)] := hl
  rw [S_m_grieve] at hF
  obtain ⟨RES, hE⟩ : ∃ xRES, f_m_grieve G f0 c_ v_ = xRES := ⟨_, rfl⟩
  rw [hE] at hret
  rw [f_m_grieve] at hE
  refine lv_aload_n hx hb dX10_grieve_0 rfl (lv_at hl 0 rfl) ?_
  refine lv_iload_n hx hb dX10_grieve_1 rfl (lv_at hl 1 rfl) ?_
  obtain ⟨hs_1, hF⟩ := hF
  refine cVi (wr := [((Rf 0), .inl (cI, 1302, .inl f0))]) (rest := []) (m_isCouple Rf h G c_ hs_1) okV_X10_isCouple wd_581 hx hb hml hown hts hK hP hD hS hA hN hl.1 [0] [1] rfl rfl rfl rfl (of_decide_eq_true rfl) rfl rfl rfl (Nat.le_of_ble_eq_true rfl) (Nat.le_of_ble_eq_true rfl) (Nat.le_of_ble_eq_true rfl) (Nat.le_of_ble_eq_true rfl) (Nat.le_of_ble_eq_true rfl) dX10_grieve_2 (fun r_3 u_2 H locs hw_u_2 hP hD hS => ?_)
  replace hw_u_2 : r_3 = (f_m_isCouple G c_) := hw_u_2
  rw [hw_u_2]
  clear hw_u_2
  have hP : va_P D classes [((Rf 0), .inl (cI, 1302, .inl f0)), (h, .inr (10, ML G Rf))] H := hP
  have hD : va_D A [((Rf 0), .inl (cI, 1302, .inl f0)), (h, .inr (10, ML G Rf))] := hD
  refine lv_if_ne (tgt := 11) hx hb dX10_grieve_5 rfl (fun c_4 => ?_) (fun c_4 => ?_)
  · replace hF := hF.2 c_4
    rw [if_neg c_4] at hE
    refine lv_iload_n hx hb dX10_grieve_11 rfl (lv_at hl 2 rfl) ?_
    refine lv_i2l (v := v_.toInt64) hx hb dX10_grieve_12 rfl ?_
    refine lv_lconst (v := 1) hx hb dX10_grieve_13 rfl ?_
    refine lv_ldc2 (v := 99) hx hb hown (hts _ wd_599) dX10_grieve_14 ?_
    obtain ⟨hs_5, hF⟩ := hF
    refine cSi (wr := [((Rf 0), .inl (cI, 1302, .inl f0)), (h, .inr (10, ML G Rf))]) (rest := []) (m_in v_.toInt64 1 99 hs_5) okS_X10_in wd_495 hx hb hml hown hts hK hP hD hS hA hN hl.1 [] [0, 1] rfl rfl rfl rfl (of_decide_eq_true rfl) rfl (Nat.le_of_ble_eq_true rfl) (Nat.le_of_ble_eq_true rfl) (Nat.le_of_ble_eq_true rfl) (Nat.le_of_ble_eq_true rfl) (Nat.le_of_ble_eq_true rfl) dX10_grieve_17 (fun r_7 u_6 H locs hw_u_6 hP hD hS => ?_)
    replace hw_u_6 : r_7 = (f_m_in v_.toInt64 1 99) := hw_u_6
    rw [hw_u_6]
    clear hw_u_6
    have hP : va_P D classes [((Rf 0), .inl (cI, 1302, .inl f0)), (h, .inr (10, ML G Rf))] H := hP
    have hD : va_D A [((Rf 0), .inl (cI, 1302, .inl f0)), (h, .inr (10, ML G Rf))] := hD
    refine lv_if_ne (tgt := 26) hx hb dX10_grieve_20 rfl (fun c_8 => ?_) (fun c_8 => ?_)
    · replace hF := hF.2 c_8
      rw [if_neg c_8] at hE
      refine lv_aload_n hx hb dX10_grieve_26 rfl (lv_at hl 0 rfl) ?_
      refine lv_iload_n hx hb dX10_grieve_27 rfl (lv_at hl 1 rfl) ?_
      obtain ⟨hs_9, hF⟩ := hF
      refine cVi (wr := []) (rest := []) (m_isDone Rf h G f0 c_ hs_9) okV_X10_isDone wd_567 hx hb hml hown hts hK hP hD hS hA hN hl.1 [1, 0] [] rfl rfl rfl rfl (of_decide_eq_true rfl) rfl rfl rfl (Nat.le_of_ble_eq_true rfl) (Nat.le_of_ble_eq_true rfl) (Nat.le_of_ble_eq_true rfl) (Nat.le_of_ble_eq_true rfl) (Nat.le_of_ble_eq_true rfl) dX10_grieve_28 (fun r_11 u_10 H locs hw_u_10 hP hD hS => ?_)
      replace hw_u_10 : r_11 = (f_m_isDone f0 c_) := hw_u_10
      rw [hw_u_10]
      clear hw_u_10
      have hP : va_P D classes [(h, .inr (10, ML G Rf)), ((Rf 0), .inl (cI, 1302, .inl f0))] H := hP
      have hD : va_D A [(h, .inr (10, ML G Rf)), ((Rf 0), .inl (cI, 1302, .inl f0))] := hD
      refine lv_if_eq (tgt := 37) hx hb dX10_grieve_31 rfl (fun c_12 => ?_) (fun c_12 => ?_)
      · replace hF := hF.1 c_12
        rw [if_pos c_12] at hE
        refine lv_aload_n hx hb dX10_grieve_37 rfl (lv_at hl 0 rfl) ?_
        obtain ⟨hs_13, hF⟩ := hF
        refine cVv (wr := []) (rest := []) (m_minds Rf h G f0 hs_13) okV_X10_minds wd_595 hx hb hml hown hts hK hP hD hS hA hN hl.1 [0, 1] [] rfl rfl rfl rfl (of_decide_eq_true rfl) rfl rfl rfl (Nat.le_of_ble_eq_true rfl) (Nat.le_of_ble_eq_true rfl) (Nat.le_of_ble_eq_true rfl) (Nat.le_of_ble_eq_true rfl) (Nat.le_of_ble_eq_true rfl) dX10_grieve_38 (fun u_14 H locs hw_u_14 hP hD hS => ?_)
        obtain ⟨o_16, o_17⟩ := u_14
        replace hw_u_14 : (o_16, o_17) = (f_m_minds G f0) := hw_u_14
        replace hF := hF o_16 o_17 hw_u_14
        rw [← hw_u_14] at hE
        replace hE : ((((f_m_grieves o_17 c_ v_) ((0 + c_) : Int32).toNatClampNeg), o_16, (f_m_grieves o_17 c_ v_)) : Int32 × (Nat → Int32) × (Nat → Int32)) = RES := hE
        have hP : va_P D classes [(h, .inr (10, ML o_16 Rf)), ((Rf 0), .inl (cI, 1302, .inl o_17))] H := hP
        have hD : va_D A [(h, .inr (10, ML o_16 Rf)), ((Rf 0), .inl (cI, 1302, .inl o_17))] := hD
        refine lv_aload_n hx hb dX10_grieve_41 rfl (lv_at hl 0 rfl) ?_
        refine lv_iload_n hx hb dX10_grieve_42 rfl (lv_at hl 1 rfl) ?_
        refine lv_iload_n hx hb dX10_grieve_43 rfl (lv_at hl 2 rfl) ?_
        obtain ⟨hs_18, hF⟩ := hF
        refine cVv (wr := []) (rest := []) (m_grieves Rf h o_16 o_17 c_ v_ hs_18) okV_X10_grieves wd_600 hx hb hml hown hts hK hP hD hS hA hN hl.1 [0, 1] [] rfl rfl rfl rfl (of_decide_eq_true rfl) rfl rfl rfl (Nat.le_of_ble_eq_true rfl) (Nat.le_of_ble_eq_true rfl) (Nat.le_of_ble_eq_true rfl) (Nat.le_of_ble_eq_true rfl) (Nat.le_of_ble_eq_true rfl) dX10_grieve_44 (fun u_19 H locs hw_u_19 hP hD hS => ?_)
        replace hw_u_19 : u_19 = (f_m_grieves o_17 c_ v_) := hw_u_19
        subst hw_u_19
        have hP : va_P D classes [(h, .inr (10, ML o_16 Rf)), ((Rf 0), .inl (cI, 1302, .inl (f_m_grieves o_17 c_ v_)))] H := hP
        have hD : va_D A [(h, .inr (10, ML o_16 Rf)), ((Rf 0), .inl (cI, 1302, .inl (f_m_grieves o_17 c_ v_)))] := hD
        refine lv_aload_n hx hb dX10_grieve_47 rfl (lv_at hl 0 rfl) ?_
        refine va_get (D := D) (ci := 10) (v := .ref (Rf 0)) (C := RX10) (T := TX10) (N := 45) hx hb hts iX10 hown hK hP 0 rfl rfl 0 (Nat.le_of_ble_eq_true rfl) (hts _ wd_491) (fun _ h9 => h9) rfl dX10_grieve_48 ?_
        refine lv_iconst (v := 0) hx hb dX10_grieve_51 rfl ?_
        refine lv_iload_n hx hb dX10_grieve_52 rfl (lv_at hl 1 rfl) ?_
        refine lv_iadd hx hb dX10_grieve_53 ?_
        obtain ⟨hv_21, hF⟩ := hF
        refine va_iald hx hb hK hP 1 0 rfl rfl hv_21 dX10_grieve_54 ?_
        exact hret ((f_m_grieves o_17 c_ v_) ((0 + c_) : Int32).toNatClampNeg) (o_16, (f_m_grieves o_17 c_ v_)) _ _ _ _ dX10_grieve_55 rfl hE hP hD hS
      · replace hF := hF.2 c_12
        rw [if_neg c_12] at hE
        refine lv_ldc (v := (-1000000003)) hx hb hown (hts _ wd_562) dX10_grieve_34 ?_
        exact hret (-1000000003) (G, f0) _ _ _ _ dX10_grieve_36 rfl hE hP hD hS
    · replace hF := hF.1 c_8
      rw [if_pos c_8] at hE
      refine lv_ldc (v := (-1000000002)) hx hb hown (hts _ wd_507) dX10_grieve_23 ?_
      exact hret (-1000000002) (G, f0) _ _ _ _ dX10_grieve_25 rfl hE (cutP (isC := [1, 0]) hP rfl) (cutD (isC := [1, 0]) hD rfl rfl) hS
  · replace hF := hF.1 c_4
    rw [if_pos c_4] at hE
    refine lv_ldc (v := (-1000000001)) hx hb hown (hts _ wd_580) dX10_grieve_8 ?_
    exact hret (-1000000001) (G, f0) _ _ _ _ dX10_grieve_10 rfl hE (cutP (isC := [1, 0]) hP rfl) (cutD (isC := [1, 0]) hD rfl rfl) hS
end
