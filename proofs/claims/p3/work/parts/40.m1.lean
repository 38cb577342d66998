theorem dX10_in_0 : decode cX10_in 0 = .ok (.lload_n 0, 1) := by decide +kernel
theorem dX10_in_1 : decode cX10_in 1 = .ok (.lload_n 2, 1) := by decide +kernel
theorem dX10_in_2 : decode cX10_in 2 = .ok (.lcmp, 1) := by decide +kernel
theorem dX10_in_3 : decode cX10_in 3 = .ok (.ifCond .lt 14, 3) := by decide +kernel
theorem dX10_in_17 : decode cX10_in 17 = .ok (.iconst 0, 1) := by decide +kernel
theorem dX10_in_18 : decode cX10_in 18 = .ok (.ireturn, 1) := by decide +kernel
theorem dX10_in_6 : decode cX10_in 6 = .ok (.lload_n 0, 1) := by decide +kernel
theorem dX10_in_7 : decode cX10_in 7 = .ok (.lload 4, 2) := by decide +kernel
theorem dX10_in_9 : decode cX10_in 9 = .ok (.lcmp, 1) := by decide +kernel
theorem dX10_in_10 : decode cX10_in 10 = .ok (.ifCond .gt 7, 3) := by decide +kernel
theorem dX10_in_13 : decode cX10_in 13 = .ok (.iconst 1, 1) := by decide +kernel
theorem dX10_in_14 : decode cX10_in 14 = .ok (.goto 4, 3) := by decide +kernel
theorem dX10_has_0 : decode cX10_has 0 = .ok (.iload_n 0, 1) := by decide +kernel
theorem dX10_has_1 : decode cX10_has 1 = .ok (.iload_n 1, 1) := by decide +kernel
theorem dX10_has_2 : decode cX10_has 2 = .ok (.ishr, 1) := by decide +kernel
theorem dX10_has_3 : decode cX10_has 3 = .ok (.iconst 1, 1) := by decide +kernel
theorem dX10_has_4 : decode cX10_has 4 = .ok (.iand, 1) := by decide +kernel
theorem dX10_has_5 : decode cX10_has 5 = .ok (.iconst 1, 1) := by decide +kernel
theorem dX10_has_6 : decode cX10_has 6 = .ok (.if_icmp .ne 7, 3) := by decide +kernel
theorem dX10_has_13 : decode cX10_has 13 = .ok (.iconst 0, 1) := by decide +kernel
theorem dX10_has_14 : decode cX10_has 14 = .ok (.ireturn, 1) := by decide +kernel
theorem dX10_has_9 : decode cX10_has 9 = .ok (.iconst 1, 1) := by decide +kernel
theorem dX10_has_10 : decode cX10_has 10 = .ok (.goto 4, 3) := by decide +kernel
theorem dX10_ones_0 : decode cX10_ones 0 = .ok (.iconst 0, 1) := by decide +kernel
theorem dX10_ones_1 : decode cX10_ones 1 = .ok (.istore_n 1, 1) := by decide +kernel
theorem dX10_ones_2 : decode cX10_ones 2 = .ok (.iconst 0, 1) := by decide +kernel
theorem dX10_ones_3 : decode cX10_ones 3 = .ok (.istore_n 2, 1) := by decide +kernel
theorem dX10_ones_24 : decode cX10_ones 24 = .ok (.iload_n 1, 1) := by decide +kernel
theorem dX10_ones_25 : decode cX10_ones 25 = .ok (.ireturn, 1) := by decide +kernel
theorem dX10_ones_4 : decode cX10_ones 4 = .ok (.iload_n 2, 1) := by decide +kernel
theorem dX10_ones_5 : decode cX10_ones 5 = .ok (.bipush 6, 2) := by decide +kernel
theorem dX10_ones_7 : decode cX10_ones 7 = .ok (.if_icmp .ge 17, 3) := by decide +kernel
theorem dX10_ones_10 : decode cX10_ones 10 = .ok (.iload_n 1, 1) := by decide +kernel
theorem dX10_ones_11 : decode cX10_ones 11 = .ok (.iload_n 0, 1) := by decide +kernel
theorem dX10_ones_12 : decode cX10_ones 12 = .ok (.iload_n 2, 1) := by decide +kernel
theorem dX10_ones_13 : decode cX10_ones 13 = .ok (.ishr, 1) := by decide +kernel
theorem dX10_ones_14 : decode cX10_ones 14 = .ok (.iconst 1, 1) := by decide +kernel
theorem dX10_ones_15 : decode cX10_ones 15 = .ok (.iand, 1) := by decide +kernel
theorem dX10_ones_16 : decode cX10_ones 16 = .ok (.iadd, 1) := by decide +kernel
theorem dX10_ones_17 : decode cX10_ones 17 = .ok (.istore_n 1, 1) := by decide +kernel
theorem dX10_ones_18 : decode cX10_ones 18 = .ok (.iinc 2 1, 3) := by decide +kernel
theorem dX10_ones_21 : decode cX10_ones 21 = .ok (.goto (-17), 3) := by decide +kernel
theorem dX10_copy_0 : decode cX10_copy 0 = .ok (.iconst 0, 1) := by decide +kernel
theorem dX10_copy_1 : decode cX10_copy 1 = .ok (.istore_n 3, 1) := by decide +kernel
theorem dX10_copy_30 : decode cX10_copy 30 = .ok (.return_, 1) := by decide +kernel
theorem dX10_copy_2 : decode cX10_copy 2 = .ok (.iload_n 3, 1) := by decide +kernel
theorem dX10_copy_3 : decode cX10_copy 3 = .ok (.bipush 42, 2) := by decide +kernel
theorem dX10_copy_5 : decode cX10_copy 5 = .ok (.if_icmp .ge 25, 3) := by decide +kernel
theorem dX10_copy_8 : decode cX10_copy 8 = .ok (.aload_n 0, 1) := by decide +kernel
theorem iX10_t : ∀ w ∈ wsX100, w ∈ lw_tbl ∧ goodWord w = true := by decide +kernel
theorem iX10 : ∀ w ∈ wsX100, w ∈ BG := fun w h => BG_in (iX10_t w h).1 (iX10_t w h).2
theorem wd_491 : Cond.fieldLink RX10 7 "QuarrelBridgesModel" "w" "[I" ∈ BG := BG_at 783 (by decide +kernel) rfl
theorem dX10_copy_9 : decode cX10_copy 9 = .ok (.getfield 7, 3) := by decide +kernel
theorem dX10_copy_12 : decode cX10_copy 12 = .ok (.iload_n 2, 1) := by decide +kernel
theorem dX10_copy_13 : decode cX10_copy 13 = .ok (.iload_n 3, 1) := by decide +kernel
theorem dX10_copy_14 : decode cX10_copy 14 = .ok (.iadd, 1) := by decide +kernel
theorem dX10_copy_15 : decode cX10_copy 15 = .ok (.aload_n 0, 1) := by decide +kernel
theorem dX10_copy_16 : decode cX10_copy 16 = .ok (.getfield 7, 3) := by decide +kernel
theorem dX10_copy_19 : decode cX10_copy 19 = .ok (.iload_n 1, 1) := by decide +kernel
theorem dX10_copy_20 : decode cX10_copy 20 = .ok (.iload_n 3, 1) := by decide +kernel
theorem dX10_copy_21 : decode cX10_copy 21 = .ok (.iadd, 1) := by decide +kernel
theorem dX10_copy_22 : decode cX10_copy 22 = .ok (.iaload, 1) := by decide +kernel
theorem dX10_copy_23 : decode cX10_copy 23 = .ok (.iastore, 1) := by decide +kernel
theorem dX10_copy_24 : decode cX10_copy 24 = .ok (.iinc 3 1, 3) := by decide +kernel
theorem dX10_copy_27 : decode cX10_copy 27 = .ok (.goto (-25), 3) := by decide +kernel
theorem dX10_letterAt_0 : decode cX10_letterAt 0 = .ok (.iload_n 1, 1) := by decide +kernel
theorem dX10_letterAt_1 : decode cX10_letterAt 1 = .ok (.aload_n 0, 1) := by decide +kernel
theorem wd_492 : Cond.fieldLink RX10 94 "QuarrelBridgesModel" "texted" "I" ∈ BG := BG_at 797 (by decide +kernel) rfl
theorem dX10_letterAt_2 : decode cX10_letterAt 2 = .ok (.getfield 94, 3) := by decide +kernel
theorem dX10_letterAt_5 : decode cX10_letterAt 5 = .ok (.if_icmp .ge 12, 3) := by decide +kernel
theorem dX10_letterAt_17 : decode cX10_letterAt 17 = .ok (.iconst (-1), 1) := by decide +kernel
theorem dX10_letterAt_18 : decode cX10_letterAt 18 = .ok (.ireturn, 1) := by decide +kernel
theorem dX10_letterAt_8 : decode cX10_letterAt 8 = .ok (.aload_n 0, 1) := by decide +kernel
theorem wd_493 : Cond.fieldLink RX10 36 "QuarrelBridgesModel" "text" "[I" ∈ BG := BG_at 796 (by decide +kernel) rfl
theorem dX10_letterAt_9 : decode cX10_letterAt 9 = .ok (.getfield 36, 3) := by decide +kernel
theorem dX10_letterAt_12 : decode cX10_letterAt 12 = .ok (.iload_n 1, 1) := by decide +kernel
theorem dX10_letterAt_13 : decode cX10_letterAt 13 = .ok (.iaload, 1) := by decide +kernel
theorem dX10_letterAt_14 : decode cX10_letterAt 14 = .ok (.goto 4, 3) := by decide +kernel
def ML (G : Nat → Int32) (Rf : Nat → Nat) : List Value := [.ref (Rf 0), .ref (Rf 1), .int (G 2), .int (G 3), .int (G 4), .int (G 5), .int (G 6), .int (G 7), .ref (Rf 8), .ref (Rf 9), .ref (Rf 10), .ref (Rf 11), .ref (Rf 12), .ref (Rf 13), .int (G 14), .int (G 15), .int (G 16), .int (G 17), .int (G 18), .int (G 19), .int (G 20), .int (G 21), .int (G 22), .int (G 23), .int (G 24), .int (G 25), .int (G 26), .ref (Rf 27), .ref (Rf 28), .ref (Rf 29), .ref (Rf 30), .ref (Rf 31), .int (G 32), .int (G 33), .int (G 34), .int (G 35), .ref (Rf 36), .ref (Rf 37), .ref (Rf 38), .ref (Rf 39), .int (G 40), .int (G 41), .int (G 42), .ref (Rf 43), .ref (Rf 44)]
noncomputable def f_m_in (x : Int64) (y : Int64) (z : Int64) : Int32 := (if (lg_cmp x y) < 0 then 0 else (if 0 < (lg_cmp x z) then 0 else 1))
def S_m_in (x : Int64) (y : Int64) (z : Int64) : Prop := (((lg_cmp x y) < 0 → True) ∧ (¬ (lg_cmp x y) < 0 → ((0 < (lg_cmp x z) → True) ∧ (¬ 0 < (lg_cmp x z) → True))))
def rm_m_in : Room := { frames := 0, cells := 0, slots := 0, locals := 0 }
set_option maxHeartbeats 4000000 in
set_option maxRecDepth 100000 in
theorem m_in {l : Launch} {D : va_G} {cI cZ : ClassId} {sz : Nat} (x : Int64) (y : Int64) (z : Int64) (hF : S_m_in x y z) : KI l yX10_in cX10_in 6 (some .boolean) rm_m_in D cI cZ [.long x, .long y, .long z] sz [] (fun (r : Int32) (_ : Unit) => r = f_m_in x y z) (fun (_ : Unit) => []) := by
  refine KI.go rfl (Nat.le_of_ble_eq_true rfl) ?_
  intro p e s m args below meth c ls A Q hx hb hml hts hown hin hP hK hD hS hA hN hl hret
  have hl : lv_has ls 6 [(0, .long x), (2, .long y), (4, .long z)] := hl
  rw [S_m_in] at hF
  obtain ⟨RES, hE⟩ : ∃ xRES, f_m_in x y z = xRES := ⟨_, rfl⟩
  rw [hE] at hret
  rw [f_m_in] at hE
  refine lv_lload_n hx hb dX10_in_0 rfl (lv_at hl 0 rfl) ?_
  refine lv_lload_n hx hb dX10_in_1 rfl (lv_at hl 1 rfl) ?_
  refine W.lcmp hx hb dX10_in_2 ?_
  refine lv_if_lt (tgt := 17) hx hb dX10_in_3 (by decide) (fun c_1 => ?_) (fun c_1 => ?_)
  · replace hF := hF.1 c_1
    rw [if_pos c_1] at hE
    refine lv_iconst (v := 0) hx hb dX10_in_17 (by decide) ?_
    exact hret 0 () _ _ _ _ dX10_in_18 rfl hE hP hD hS
  · replace hF := hF.2 c_1
    rw [if_neg c_1] at hE
    refine lv_lload_n hx hb dX10_in_6 rfl (lv_at hl 0 rfl) ?_
    refine lv_lload hx hb dX10_in_7 (lv_at hl 2 rfl) ?_
    refine W.lcmp hx hb dX10_in_9 ?_
    refine lv_if_gt (tgt := 17) hx hb dX10_in_10 (by decide) (fun c_2 => ?_) (fun c_2 => ?_)
    · replace hF := hF.1 c_2
      rw [if_pos c_2] at hE
      refine lv_iconst (v := 0) hx hb dX10_in_17 (by decide) ?_
      exact hret 0 () _ _ _ _ dX10_in_18 rfl hE hP hD hS
    · replace hF := hF.2 c_2
      rw [if_neg c_2] at hE
      refine lv_iconst (v := 1) hx hb dX10_in_13 (by decide) ?_
      refine lv_goto (tgt := 18) hx hb dX10_in_14 (by decide) ?_
      exact hret 1 () _ _ _ _ dX10_in_18 rfl hE hP hD hS
noncomputable def f_m_has (s_ : Int32) (k_ : Int32) : Int32 := (if ((s_ >>> (k_ &&& 31)) &&& 1) = 1 then 1 else 0)
def S_m_has (s_ : Int32) (k_ : Int32) : Prop := ((((s_ >>> (k_ &&& 31)) &&& 1) = 1 → True) ∧ (¬ ((s_ >>> (k_ &&& 31)) &&& 1) = 1 → True))
def rm_m_has : Room := { frames := 0, cells := 0, slots := 0, locals := 0 }
set_option maxHeartbeats 4000000 in
set_option maxRecDepth 100000 in
theorem m_has {l : Launch} {D : va_G} {cI cZ : ClassId} {sz : Nat} (s_ : Int32) (k_ : Int32) (hF : S_m_has s_ k_) : KI l yX10_has cX10_has 2 (some .boolean) rm_m_has D cI cZ [.int s_, .int k_] sz [] (fun (r : Int32) (_ : Unit) => r = f_m_has s_ k_) (fun (_ : Unit) => []) := by
  refine KI.go rfl (Nat.le_of_ble_eq_true rfl) ?_
  intro p e s m args below meth c ls A Q hx hb hml hts hown hin hP hK hD hS hA hN hl hret
  have hl : lv_has ls 2 [(0, .int s_), (1, .int k_)] := hl
  rw [S_m_has] at hF
  obtain ⟨RES, hE⟩ : ∃ xRES, f_m_has s_ k_ = xRES := ⟨_, rfl⟩
  rw [hE] at hret
  rw [f_m_has] at hE
  refine lv_iload_n hx hb dX10_has_0 rfl (lv_at hl 0 rfl) ?_
  refine lv_iload_n hx hb dX10_has_1 rfl (lv_at hl 1 rfl) ?_
  refine lv_ishr hx hb dX10_has_2 ?_
  refine lv_iconst (v := 1) hx hb dX10_has_3 (by decide) ?_
  refine lv_iand hx hb dX10_has_4 ?_
  refine lv_iconst (v := 1) hx hb dX10_has_5 (by decide) ?_
  refine lv_icmp_ne (tgt := 13) hx hb dX10_has_6 (by decide) (fun c_1 => ?_) (fun c_1 => ?_)
  · replace hF := hF.2 c_1
    rw [if_neg c_1] at hE
    refine lv_iconst (v := 0) hx hb dX10_has_13 (by decide) ?_
    exact hret 0 () _ _ _ _ dX10_has_14 rfl hE hP hD hS
  · replace hF := hF.1 c_1
    rw [if_pos c_1] at hE
    refine lv_iconst (v := 1) hx hb dX10_has_9 (by decide) ?_
    refine lv_goto (tgt := 14) hx hb dX10_has_10 (by decide) ?_
    exact hret 1 () _ _ _ _ dX10_has_14 rfl hE hP hD hS
noncomputable def f_m_ones_4 (s_ : Int32) (n : Nat) : Int32 → Int32 → Int32 × Int32 := Nat.rec (motive := fun _ => Int32 → Int32 → Int32 × Int32) (fun w_1l2 w_1l1 => (w_1l2, w_1l1)) (fun n ih w_1l2 w_1l1 => (if 6 ≤ w_1l2 then (w_1l2, w_1l1) else (ih (w_1l2 + 1) (w_1l1 + ((s_ >>> (w_1l2 &&& 31)) &&& 1))))) n
theorem f_m_ones_4_s (s_ : Int32) (n : Nat) (w_1l2 : Int32) (w_1l1 : Int32) : f_m_ones_4 s_ (n + 1) w_1l2 w_1l1 = (if 6 ≤ w_1l2 then (w_1l2, w_1l1) else (f_m_ones_4 s_ n (w_1l2 + 1) (w_1l1 + ((s_ >>> (w_1l2 &&& 31)) &&& 1)))) := rfl
def S_m_ones_4 (s_ : Int32) (K : Int32 → Int32 → Prop) (n : Nat) : Int32 → Int32 → Prop := Nat.rec (motive := fun _ => Int32 → Int32 → Prop) (fun _ _ => True) (fun n ih w_1l2 w_1l1 => ((6 ≤ w_1l2 → (K w_1l2 w_1l1)) ∧ (¬ 6 ≤ w_1l2 → (ih (w_1l2 + 1) (w_1l1 + ((s_ >>> (w_1l2 &&& 31)) &&& 1)))))) n
theorem S_m_ones_4_s (s_ : Int32) (K : Int32 → Int32 → Prop) (n : Nat) (w_1l2 : Int32) (w_1l1 : Int32) : S_m_ones_4 s_ K (n + 1) w_1l2 w_1l1 = (((6 ≤ w_1l2 → (K w_1l2 w_1l1)) ∧ (¬ 6 ≤ w_1l2 → (S_m_ones_4 s_ K n (w_1l2 + 1) (w_1l1 + ((s_ >>> (w_1l2 &&& 31)) &&& 1)))))) := rfl
noncomputable def f_m_ones (s_ : Int32) : Int32 := (match ((f_m_ones_4 s_ (((6 : Int32).toInt - (0 : Int32).toInt).toNat + 1) 0 0) : Int32 × Int32) with | (w_1l2, w_1l1) => w_1l1)
def S_m_ones (s_ : Int32) : Prop := (S_m_ones_4 s_ (fun (w_1l2 : Int32) (w_1l1 : Int32) => True) (((6 : Int32).toInt - (0 : Int32).toInt).toNat + 1) 0 0)
def rm_m_ones : Room := { frames := 0, cells := 0, slots := 0, locals := 0 }
set_option maxHeartbeats 4000000 in
set_option maxRecDepth 100000 in
theorem m_ones {l : Launch} {D : va_G} {cI cZ : ClassId} {sz : Nat} (s_ : Int32) (hF : S_m_ones s_) : KI l yX10_ones cX10_ones 3 (some .int) rm_m_ones D cI cZ [.int s_] sz [] (fun (r : Int32) (_ : Unit) => r = f_m_ones s_) (fun (_ : Unit) => []) := by
  refine KI.go rfl (Nat.le_of_ble_eq_true rfl) ?_
  intro p e s m args below meth c ls A Q hx hb hml hts hown hin hP hK hD hS hA hN hl hret
  have hl : lv_has ls 3 [(0, .int s_)] := hl
  rw [S_m_ones] at hF
  obtain ⟨RES, hE⟩ : ∃ xRES, f_m_ones s_ = xRES := ⟨_, rfl⟩
  rw [hE] at hret
  rw [f_m_ones] at hE
  refine lv_iconst (v := 0) hx hb dX10_ones_0 (by decide) ?_
  refine lv_istore_n (lv' := [(1, .int 0), (0, .int s_)]) hx hb dX10_ones_1 rfl hl (by decide) rfl (fun ls hl => ?_)
  refine lv_iconst (v := 0) hx hb dX10_ones_2 (by decide) ?_
  refine lv_istore_n (lv' := [(2, .int 0), (1, .int 0), (0, .int s_)]) hx hb dX10_ones_3 rfl hl (by decide) rfl (fun ls hl => ?_)
  have ex_4_w_1 : ∀ (w_1l2 : Int32) (w_1l1 : Int32) (H : Heap) (locs : List Loc) (ls : Array Slot), va_P D classes [] H → va_D A [] → va_S A s.heap H locs → lv_has ls 3 [(2, .int w_1l2), (1, .int w_1l1), (0, .int s_)] → (True) → ((w_1l1) : Int32) = RES → W p l e rm_m_ones s m args below meth c H locs 0 0 Q (F0 m 24 ls []) := by
    intro w_1l2 w_1l1 H locs ls hP hD hS hl hF hE
    refine lv_iload_n hx hb dX10_ones_24 rfl (lv_at hl 1 rfl) ?_
    exact hret w_1l1 () _ _ _ _ dX10_ones_25 rfl hE hP hD hS
  have lp_4_w_1 : ∀ (n_w_1 : Nat) (w_1l2 : Int32) (w_1l1 : Int32) (H : Heap) (locs : List Loc) (ls : Array Slot), va_P D classes [] H → va_D A [] → va_S A s.heap H locs → lv_has ls 3 [(2, .int w_1l2), (1, .int w_1l1), (0, .int s_)] → (S_m_ones_4 s_ (fun (w_1l2 : Int32) (w_1l1 : Int32) => True) n_w_1 w_1l2 w_1l1) → ((6 : Int32).toInt - (w_1l2 : Int32).toInt).toNat < n_w_1 → ((match ((f_m_ones_4 s_ n_w_1 w_1l2 w_1l1) : Int32 × Int32) with | (w_1l2, w_1l1) => w_1l1) : Int32) = RES → W p l e rm_m_ones s m args below meth c H locs 0 0 Q (F0 m 4 ls []) := by
    intro n_w_1
    induction n_w_1 with
    | zero => intro w_1l2 w_1l1 H locs ls hP hD hS hl hF hm; exact absurd hm (Nat.not_lt_zero _)
    | succ n_w_1 ih_w_1 =>
      intro w_1l2 w_1l1 H locs ls hP hD hS hl hF hm hE
      rw [S_m_ones_4_s] at hF
      rw [f_m_ones_4_s] at hE
      refine lv_iload_n hx hb dX10_ones_4 rfl (lv_at hl 0 rfl) ?_
      refine lv_bipush (v := 6) hx hb dX10_ones_5 (by decide) ?_
      refine lv_icmp_ge (tgt := 24) hx hb dX10_ones_7 (by decide) (fun c_2 => ?_) (fun c_2 => ?_)
      · replace hF := hF.1 c_2
        rw [if_pos c_2] at hE
        exact ex_4_w_1 w_1l2 w_1l1 _ _ ls hP hD hS (lv_sub hl [0, 1, 2] rfl) hF hE
      · replace hF := hF.2 c_2
        rw [if_neg c_2] at hE
        refine lv_iload_n hx hb dX10_ones_10 rfl (lv_at hl 1 rfl) ?_
        refine lv_iload_n hx hb dX10_ones_11 rfl (lv_at hl 2 rfl) ?_
        refine lv_iload_n hx hb dX10_ones_12 rfl (lv_at hl 0 rfl) ?_
        refine lv_ishr hx hb dX10_ones_13 ?_
        refine lv_iconst (v := 1) hx hb dX10_ones_14 (by decide) ?_
        refine lv_iand hx hb dX10_ones_15 ?_
        refine lv_iadd hx hb dX10_ones_16 ?_
        refine lv_istore_n (lv' := [(1, .int (w_1l1 + ((s_ >>> (w_1l2 &&& 31)) &&& 1))), (2, .int w_1l2), (0, .int s_)]) hx hb dX10_ones_17 rfl hl (by decide) rfl (fun ls hl => ?_)
        refine lv_iinc (v := (w_1l2 + 1)) (lv' := [(2, .int (w_1l2 + 1)), (1, .int (w_1l1 + ((s_ >>> (w_1l2 &&& 31)) &&& 1))), (0, .int s_)]) hx hb dX10_ones_18 hl (k := 1) rfl rfl (by decide) rfl (fun ls hl => ?_)
        refine lv_goto (tgt := 4) hx hb dX10_ones_21 (by decide) ?_
        exact ih_w_1 (w_1l2 + 1) (w_1l1 + ((s_ >>> (w_1l2 &&& 31)) &&& 1)) _ _ ls hP hD hS (lv_sub hl [0, 1, 2] rfl) hF (up_step c_2 hm) hE
  exact lp_4_w_1 (((6 : Int32).toInt - (0 : Int32).toInt).toNat + 1) 0 0 _ _ ls hP hD hS hl hF (Nat.lt_succ_self _) hE
noncomputable def f_m_copy_2 (from_ : Int32) (to_ : Int32) (n : Nat) : Int32 → (Nat → Int32) → Int32 × (Nat → Int32) := Nat.rec (motive := fun _ => Int32 → (Nat → Int32) → Int32 × (Nat → Int32)) (fun w_1l3 w_1m0 => (w_1l3, w_1m0)) (fun n ih w_1l3 w_1m0 => (if 42 ≤ w_1l3 then (w_1l3, w_1m0) else (ih (w_1l3 + 1) (upd w_1m0 ((to_ + w_1l3) : Int32).toNatClampNeg (w_1m0 ((from_ + w_1l3) : Int32).toNatClampNeg))))) n
theorem f_m_copy_2_s (from_ : Int32) (to_ : Int32) (n : Nat) (w_1l3 : Int32) (w_1m0 : (Nat → Int32)) : f_m_copy_2 from_ to_ (n + 1) w_1l3 w_1m0 = (if 42 ≤ w_1l3 then (w_1l3, w_1m0) else (f_m_copy_2 from_ to_ n (w_1l3 + 1) (upd w_1m0 ((to_ + w_1l3) : Int32).toNatClampNeg (w_1m0 ((from_ + w_1l3) : Int32).toNatClampNeg)))) := rfl
def S_m_copy_2 (from_ : Int32) (to_ : Int32) (K : Int32 → (Nat → Int32) → Prop) (n : Nat) : Int32 → (Nat → Int32) → Prop := Nat.rec (motive := fun _ => Int32 → (Nat → Int32) → Prop) (fun _ _ => True) (fun n ih w_1l3 w_1m0 => ((42 ≤ w_1l3 → (K w_1l3 w_1m0)) ∧ (¬ 42 ≤ w_1l3 → (vp_in (from_ + w_1l3) 1302 ∧ (vp_in (to_ + w_1l3) 1302 ∧ (ih (w_1l3 + 1) (upd w_1m0 ((to_ + w_1l3) : Int32).toNatClampNeg (w_1m0 ((from_ + w_1l3) : Int32).toNatClampNeg)))))))) n
theorem S_m_copy_2_s (from_ : Int32) (to_ : Int32) (K : Int32 → (Nat → Int32) → Prop) (n : Nat) (w_1l3 : Int32) (w_1m0 : (Nat → Int32)) : S_m_copy_2 from_ to_ K (n + 1) w_1l3 w_1m0 = (((42 ≤ w_1l3 → (K w_1l3 w_1m0)) ∧ (¬ 42 ≤ w_1l3 → (vp_in (from_ + w_1l3) 1302 ∧ (vp_in (to_ + w_1l3) 1302 ∧ (S_m_copy_2 from_ to_ K n (w_1l3 + 1) (upd w_1m0 ((to_ + w_1l3) : Int32).toNatClampNeg (w_1m0 ((from_ + w_1l3) : Int32).toNatClampNeg)))))))) := rfl
noncomputable def f_m_copy (f0 : Nat → Int32) (from_ : Int32) (to_ : Int32) : (Nat → Int32) := (match ((f_m_copy_2 from_ to_ (((42 : Int32).toInt - (0 : Int32).toInt).toNat + 1) 0 f0) : Int32 × (Nat → Int32)) with | (w_1l3, w_1m0) => w_1m0)
def S_m_copy (f0 : Nat → Int32) (from_ : Int32) (to_ : Int32) : Prop := (S_m_copy_2 from_ to_ (fun (w_1l3 : Int32) (w_1m0 : (Nat → Int32)) => True) (((42 : Int32).toInt - (0 : Int32).toInt).toNat + 1) 0 f0)
def rm_m_copy : Room := { frames := 0, cells := 0, slots := 0, locals := 0 }
set_option maxHeartbeats 4000000 in
set_option maxRecDepth 100000 in
theorem m_copy {l : Launch} {D : va_G} {cI cZ : ClassId} {sz : Nat} (Rf : Nat → Nat) (h : Nat) (G : Nat → Int32) (f0 : Nat → Int32) (from_ : Int32) (to_ : Int32) (hF : S_m_copy f0 from_ to_) : KV l yX10_copy cX10_copy 4 rm_m_copy D cI cZ [.ref h, .int from_, .int to_] sz [(h, .inr (10, ML G Rf)), ((Rf 0), .inl (cI, 1302, .inl f0))] (fun (u : (Nat → Int32)) => u = f_m_copy f0 from_ to_) (fun (u : (Nat → Int32)) => [(h, .inr (10, ML G Rf)), ((Rf 0), .inl (cI, 1302, .inl u))]) := by
  refine KV.go rfl (Nat.le_of_ble_eq_true rfl) ?_
  intro p e s m args below meth c ls A Q hx hb hml hts hown hin hP hK hD hS hA hN hl hret
  have hl : lv_has ls 4 [(0, .ref h), (1, .int from_), (2, .int to_)] := hl
  rw [S_m_copy] at hF
  obtain ⟨RES, hE⟩ : ∃ xRES, f_m_copy f0 from_ to_ = xRES := ⟨_, rfl⟩
  rw [hE] at hret
  rw [f_m_copy] at hE
  refine lv_iconst (v := 0) hx hb dX10_copy_0 (by decide) ?_
  refine lv_istore_n (lv' := [(3, .int 0), (0, .ref h), (1, .int from_), (2, .int to_)]) hx hb dX10_copy_1 rfl hl (by decide) rfl (fun ls hl => ?_)
  have ex_2_w_1 : ∀ (w_1l3 : Int32) (w_1m0 : (Nat → Int32)) (H : Heap) (locs : List Loc) (ls : Array Slot), va_P D classes [(h, .inr (10, ML G Rf)), ((Rf 0), .inl (cI, 1302, .inl w_1m0))] H → va_D A [(h, .inr (10, ML G Rf)), ((Rf 0), .inl (cI, 1302, .inl w_1m0))] → va_S A s.heap H locs → lv_has ls 4 [(3, .int w_1l3), (0, .ref h), (1, .int from_), (2, .int to_)] → (True) → ((w_1m0) : (Nat → Int32)) = RES → W p l e rm_m_copy s m args below meth c H locs 0 0 Q (F0 m 30 ls []) := by
    intro w_1l3 w_1m0 H locs ls hP hD hS hl hF hE
    exact hret w_1m0 _ _ _ _ dX10_copy_30 hE hP hD hS
  have lp_2_w_1 : ∀ (n_w_1 : Nat) (w_1l3 : Int32) (w_1m0 : (Nat → Int32)) (H : Heap) (locs : List Loc) (ls : Array Slot), va_P D classes [(h, .inr (10, ML G Rf)), ((Rf 0), .inl (cI, 1302, .inl w_1m0))] H → va_D A [(h, .inr (10, ML G Rf)), ((Rf 0), .inl (cI, 1302, .inl w_1m0))] → va_S A s.heap H locs → lv_has ls 4 [(3, .int w_1l3), (0, .ref h), (1, .int from_), (2, .int to_)] → (S_m_copy_2 from_ to_ (fun (w_1l3 : Int32) (w_1m0 : (Nat → Int32)) => True) n_w_1 w_1l3 w_1m0) → ((42 : Int32).toInt - (w_1l3 : Int32).toInt).toNat < n_w_1 → ((match ((f_m_copy_2 from_ to_ n_w_1 w_1l3 w_1m0) : Int32 × (Nat → Int32)) with | (w_1l3, w_1m0) => w_1m0) : (Nat → Int32)) = RES → W p l e rm_m_copy s m args below meth c H locs 0 0 Q (F0 m 2 ls []) := by
    intro n_w_1
    induction n_w_1 with
    | zero => intro w_1l3 w_1m0 H locs ls hP hD hS hl hF hm; exact absurd hm (Nat.not_lt_zero _)
    | succ n_w_1 ih_w_1 =>
      intro w_1l3 w_1m0 H locs ls hP hD hS hl hF hm hE
      rw [S_m_copy_2_s] at hF
      rw [f_m_copy_2_s] at hE
      refine lv_iload_n hx hb dX10_copy_2 rfl (lv_at hl 0 rfl) ?_
      refine lv_bipush (v := 42) hx hb dX10_copy_3 (by decide) ?_
      refine lv_icmp_ge (tgt := 30) hx hb dX10_copy_5 (by decide) (fun c_2 => ?_) (fun c_2 => ?_)
      · replace hF := hF.1 c_2
        rw [if_pos c_2] at hE
        exact ex_2_w_1 w_1l3 w_1m0 _ _ ls hP hD hS (lv_sub hl [0, 1, 2, 3] rfl) hF hE
      · replace hF := hF.2 c_2
        rw [if_neg c_2] at hE
        refine lv_aload_n hx hb dX10_copy_8 rfl (lv_at hl 1 rfl) ?_
        refine va_get (D := D) (ci := 10) (v := .ref (Rf 0)) (C := RX10) (T := TX10) (N := 45) hx hb hts iX10 hown hK hP 0 rfl rfl 0 (by decide) (hts _ wd_491) (fun _ h9 => h9) rfl dX10_copy_9 ?_
        refine lv_iload_n hx hb dX10_copy_12 rfl (lv_at hl 3 rfl) ?_
        refine lv_iload_n hx hb dX10_copy_13 rfl (lv_at hl 0 rfl) ?_
        refine lv_iadd hx hb dX10_copy_14 ?_
        refine lv_aload_n hx hb dX10_copy_15 rfl (lv_at hl 1 rfl) ?_
        refine va_get (D := D) (ci := 10) (v := .ref (Rf 0)) (C := RX10) (T := TX10) (N := 45) hx hb hts iX10 hown hK hP 0 rfl rfl 0 (by decide) (hts _ wd_491) (fun _ h9 => h9) rfl dX10_copy_16 ?_
        refine lv_iload_n hx hb dX10_copy_19 rfl (lv_at hl 2 rfl) ?_
        refine lv_iload_n hx hb dX10_copy_20 rfl (lv_at hl 0 rfl) ?_
        refine lv_iadd hx hb dX10_copy_21 ?_
        obtain ⟨hv_3, hF⟩ := hF
        refine va_iald hx hb hK hP 1 0 rfl rfl hv_3 dX10_copy_22 ?_
        obtain ⟨hv_4, hF⟩ := hF
        refine va_iast hx hb hK hP hD hS 1 0 rfl rfl hv_4 dX10_copy_23 (fun H locs hP hD hS => ?_)
        have hP : va_P D classes [(h, .inr (10, ML G Rf)), ((Rf 0), .inl (cI, 1302, .inl (upd w_1m0 ((to_ + w_1l3) : Int32).toNatClampNeg (w_1m0 ((from_ + w_1l3) : Int32).toNatClampNeg))))] H := hP
        have hD : va_D A [(h, .inr (10, ML G Rf)), ((Rf 0), .inl (cI, 1302, .inl (upd w_1m0 ((to_ + w_1l3) : Int32).toNatClampNeg (w_1m0 ((from_ + w_1l3) : Int32).toNatClampNeg))))] := hD
        refine lv_iinc (v := (w_1l3 + 1)) (lv' := [(3, .int (w_1l3 + 1)), (0, .ref h), (1, .int from_), (2, .int to_)]) hx hb dX10_copy_24 hl (k := 0) rfl rfl (by decide) rfl (fun ls hl => ?_)
        refine lv_goto (tgt := 2) hx hb dX10_copy_27 (by decide) ?_
        exact ih_w_1 (w_1l3 + 1) (upd w_1m0 ((to_ + w_1l3) : Int32).toNatClampNeg (w_1m0 ((from_ + w_1l3) : Int32).toNatClampNeg)) _ _ ls hP hD hS (lv_sub hl [0, 1, 2, 3] rfl) hF (up_step c_2 hm) hE
  exact lp_2_w_1 (((42 : Int32).toInt - (0 : Int32).toInt).toNat + 1) 0 f0 _ _ ls hP hD hS hl hF (Nat.lt_succ_self _) hE
noncomputable def f_m_letterAt (G : Nat → Int32) (f13 : Nat → Int32) (k_ : Int32) : Int32 := (if (G 14) ≤ k_ then (-1) else (f13 (k_ : Int32).toNatClampNeg))
def S_m_letterAt (G : Nat → Int32) (f13 : Nat → Int32) (k_ : Int32) : Prop := (((G 14) ≤ k_ → True) ∧ (¬ (G 14) ≤ k_ → (vp_in k_ 240 ∧ True)))
def rm_m_letterAt : Room := { frames := 0, cells := 0, slots := 0, locals := 0 }
set_option maxHeartbeats 4000000 in
set_option maxRecDepth 100000 in
theorem m_letterAt {l : Launch} {D : va_G} {cI cZ : ClassId} {sz : Nat} (Rf : Nat → Nat) (h : Nat) (G : Nat → Int32) (f13 : Nat → Int32) (k_ : Int32) (hF : S_m_letterAt G f13 k_) : KI l yX10_letterAt cX10_letterAt 2 (some .int) rm_m_letterAt D cI cZ [.ref h, .int k_] sz [(h, .inr (10, ML G Rf)), ((Rf 13), .inl (cI, 240, .inl f13))] (fun (r : Int32) (_ : Unit) => r = f_m_letterAt G f13 k_) (fun (_ : Unit) => [(h, .inr (10, ML G Rf)), ((Rf 13), .inl (cI, 240, .inl f13))]) := by
  refine KI.go rfl (Nat.le_of_ble_eq_true rfl) ?_
  intro p e s m args below meth c ls A Q hx hb hml hts hown hin hP hK hD hS hA hN hl hret
  have hl : lv_has ls 2 [(0, .ref h), (1, .int k_)] := hl
  rw [S_m_letterAt] at hF
  obtain ⟨RES, hE⟩ : ∃ xRES, f_m_letterAt G f13 k_ = xRES := ⟨_, rfl⟩
  rw [hE] at hret
  rw [f_m_letterAt] at hE
  refine lv_iload_n hx hb dX10_letterAt_0 rfl (lv_at hl 1 rfl) ?_
  refine lv_aload_n hx hb dX10_letterAt_1 rfl (lv_at hl 0 rfl) ?_
  refine va_get (D := D) (ci := 10) (v := .int (G 14)) (C := RX10) (T := TX10) (N := 45) hx hb hts iX10 hown hK hP 0 rfl rfl 14 (by decide) (hts _ wd_492) (fun _ h9 => h9) rfl dX10_letterAt_2 ?_
  refine lv_icmp_ge (tgt := 17) hx hb dX10_letterAt_5 (by decide) (fun c_1 => ?_) (fun c_1 => ?_)
  · replace hF := hF.1 c_1
    rw [if_pos c_1] at hE
    refine lv_iconst (v := (-1)) hx hb dX10_letterAt_17 (by decide) ?_
    exact hret (-1) () _ _ _ _ dX10_letterAt_18 rfl hE hP hD hS
  · replace hF := hF.2 c_1
    rw [if_neg c_1] at hE
    refine lv_aload_n hx hb dX10_letterAt_8 rfl (lv_at hl 0 rfl) ?_
    refine va_get (D := D) (ci := 10) (v := .ref (Rf 13)) (C := RX10) (T := TX10) (N := 45) hx hb hts iX10 hown hK hP 0 rfl rfl 13 (by decide) (hts _ wd_493) (fun _ h9 => h9) rfl dX10_letterAt_9 ?_
    refine lv_iload_n hx hb dX10_letterAt_12 rfl (lv_at hl 1 rfl) ?_
    obtain ⟨hv_2, hF⟩ := hF
    refine va_iald hx hb hK hP 1 0 rfl rfl hv_2 dX10_letterAt_13 ?_
    refine lv_goto (tgt := 18) hx hb dX10_letterAt_14 (by decide) ?_
    exact hret (f13 (k_ : Int32).toNatClampNeg) () _ _ _ _ dX10_letterAt_18 rfl hE hP hD hS
