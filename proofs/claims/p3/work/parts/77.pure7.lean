theorem FR_init {B : Int} {f : Nat → Int32} (hB : 0 ≤ B) : FR B (0 : Int32).toInt (upd f (0 : Int32).toNatClampNeg (-1)) := by
  have e : (0 : Int32).toInt = 0 := by decide
  intro j hj
  rw [e] at hj
  have h0 : j = 0 := by omega
  subst h0
  rw [show (0 : Int32).toNatClampNeg = 0 by decide, pk_us, i_m1]
  refine ⟨by omega, by omega, fun z => ?_⟩
  rw [e] at z
  omega
theorem MS_init {f : Nat → Int32} : MS (fm (upd f (0 : Int32).toNatClampNeg (-1)) ((0 : Int32).toInt + 1).toNat) 1000000000000 := by
  unfold MS
  rw [show ((0 : Int32).toInt + 1).toNat = 0 + 1 by decide, fm_s, show (0 : Int32).toNatClampNeg = 0 by decide, pk_us, i_m1, show fm (upd f 0 (-1)) 0 = 0 from rfl]
  decide
theorem s_findOrder {G f0 f10 f8 f11 f12 f38 f39 : Nat → Int32} (h_0 : GI G) (h_1 : RI f11) (h_2 : WI f0) : S_m_findOrder G f0 f10 f8 f11 f12 f38 f39 := by
  unfold S_m_findOrder
  have h0 := h_0
  obtain ⟨_, _, _, _, ⟨e1, e2⟩, _⟩ := h0
  refine ⟨s_copy (by decide) (by decide) (by decide) (by decide), ?_⟩
  refine sl_findOrder_28 h_0 h_1 (fun _ _ _ _ _ _ _ => trivial) 1000000000000 0 0 (upd (upd G 40 0) 41 0) (f_m_copy f0 0 42) (upd f38 (0 : Int32).toNatClampNeg (-1)) f39 ⟨QF_upd (QF_upd (QF.refl _) (by decide) (by decide)) (by decide) (by decide), p_copy h_2 (by decide) (by decide) (by decide) (by decide), by decide, by decide, FR_init e1, (by rw [u_ne (by decide), pk_us]; decide), (by rw [u_ne (by decide), pk_us]; decide)⟩ MS_init
theorem p_findOrder {G f0 f10 f8 f11 f12 f38 f39 : Nat → Int32} (h_0 : GI G) (h_1 : RI f11) (h_2 : WI f0) : ∀ (u1 u2 u3 u4 : Nat → Int32), f_m_findOrder G f0 f10 f8 f11 f12 f38 f39 = (u1, u2, u3, u4) → QF G u1 ∧ WI u2 ∧ (0 ≤ (u1 40).toInt) ∧ ((u1 40).toInt ≤ 7) := by
  intro u1 u2 u3 u4 e
  unfold f_m_findOrder at e
  have h0 := h_0
  obtain ⟨_, _, _, _, ⟨e1, e2⟩, _⟩ := h0
  generalize hx : f_m_findOrder_28 _ _ _ _ _ _ _ _ _ _ _ = x at e
  obtain ⟨a, b, m0, m1, m2, m3⟩ := x
  have q := pl_findOrder_28 h_0 h_1 1000000000000 0 0 (upd (upd G 40 0) 41 0) (f_m_copy f0 0 42) (upd f38 (0 : Int32).toNatClampNeg (-1)) f39 ⟨QF_upd (QF_upd (QF.refl _) (by decide) (by decide)) (by decide) (by decide), p_copy h_2 (by decide) (by decide) (by decide) (by decide), by decide, by decide, FR_init e1, (by rw [u_ne (by decide), pk_us]; decide), (by rw [u_ne (by decide), pk_us]; decide)⟩ _ _ _ _ _ _ hx
  replace e : (m0, m1, m2, m3) = (u1, u2, u3, u4) := e
  cases e
  exact ⟨q.1, q.2.1, q.2.2.2.2.2.1, q.2.2.2.2.2.2⟩
set_option maxHeartbeats 4000000 in
theorem s_order {G : Nat → Int32} {f0 : Nat → Int32} {f10 : Nat → Int32} {f8 : Nat → Int32} {f11 : Nat → Int32} {f12 : Nat → Int32} {f38 : Nat → Int32} {f39 : Nat → Int32} {i_ : Int32} (h_0 : GI G) (h_1 : RI f11) (h_2 : WI f0) : S_m_order G f0 f10 f8 f11 f12 f38 f39 i_ := by
  unfold S_m_order
  have h_0_g := h_0
  obtain ⟨⟨h_0_2a, h_0_2b⟩, ⟨h_0_3a, h_0_3b⟩, ⟨h_0_4a, h_0_4b⟩, ⟨h_0_5a, h_0_5b⟩, ⟨h_0_6a, h_0_6b⟩, ⟨h_0_14a, h_0_14b⟩, ⟨h_0_42a, h_0_42b⟩⟩ := h_0_g
  refine ⟨(s_findOrder h_0 h_1 h_2), ?_⟩
  intro o_4 o_5 o_6 o_7 e_1
  have p_2 := p_findOrder h_0 h_1 h_2 _ _ _ _ e_1.symm
  obtain ⟨i_3, i_4, i_5, i_6⟩ := p_2
  obtain ⟨o_4_2, o_4_3, o_4_4, o_4_5, o_4_6, o_4_14, o_4_42⟩ := QFs i_3
  refine ⟨fun c_7 => ?_, fun c_7 => ?_⟩
  · exact trivial
  · skip
    try simp (disch := omega) only [↓i_in, ↓i_isCouple, ↓i_isBridge, ↓i_isTheme, ↓i_isBarge, i_lt, i_le, i_eq, i_clamp, i_m1, Int32.toInt_toInt64, Int32.toInt_add, Int32.toInt_sub, Int32.toInt_mul, bm32, Int32.reduceToInt, Int64.reduceToInt, Nat.reduceLT, Nat.reduceEqDiff, reduceIte, u_eq, u_ne, o_4_2, o_4_3, o_4_4, o_4_5, o_4_6, o_4_14, o_4_42] at c_7
    refine ⟨s_in, ?_⟩
    refine ⟨fun c_8 => ?_, fun c_8 => ?_⟩
    · exact trivial
    · skip
      try simp (disch := omega) only [↓i_in, ↓i_isCouple, ↓i_isBridge, ↓i_isTheme, ↓i_isBarge, i_lt, i_le, i_eq, i_clamp, i_m1, Int32.toInt_toInt64, Int32.toInt_add, Int32.toInt_sub, Int32.toInt_mul, bm32, Int32.reduceToInt, Int64.reduceToInt, Nat.reduceLT, Nat.reduceEqDiff, reduceIte, u_eq, u_ne, o_4_2, o_4_3, o_4_4, o_4_5, o_4_6, o_4_14, o_4_42] at c_8
      refine ⟨vp_in_iff.mpr (by first | omega | (simp (disch := omega) only [↓i_in, ↓i_isCouple, ↓i_isBridge, ↓i_isTheme, ↓i_isBarge, i_lt, i_le, i_eq, i_clamp, i_m1, Int32.toInt_toInt64, Int32.toInt_add, Int32.toInt_sub, Int32.toInt_mul, bm32, Int32.reduceToInt, Int64.reduceToInt, Nat.reduceLT, Nat.reduceEqDiff, reduceIte, u_eq, u_ne, o_4_2, o_4_3, o_4_4, o_4_5, o_4_6, o_4_14, o_4_42] <;> omega)), ?_⟩
      exact trivial
set_option maxHeartbeats 4000000 in
theorem p_order {G : Nat → Int32} {f0 : Nat → Int32} {f10 : Nat → Int32} {f8 : Nat → Int32} {f11 : Nat → Int32} {f12 : Nat → Int32} {f38 : Nat → Int32} {f39 : Nat → Int32} {i_ : Int32} (h_0 : GI G) (h_1 : RI f11) (h_2 : WI f0) : ∀ (r : Int32) (u1 : (Nat → Int32)) (u2 : (Nat → Int32)) (u3 : (Nat → Int32)) (u4 : (Nat → Int32)), f_m_order G f0 f10 f8 f11 f12 f38 f39 i_ = (r, u1, u2, u3, u4) → QF G u1 ∧ WI u2 := by
  have h_0_g := h_0
  obtain ⟨⟨h_0_2a, h_0_2b⟩, ⟨h_0_3a, h_0_3b⟩, ⟨h_0_4a, h_0_4b⟩, ⟨h_0_5a, h_0_5b⟩, ⟨h_0_6a, h_0_6b⟩, ⟨h_0_14a, h_0_14b⟩, ⟨h_0_42a, h_0_42b⟩⟩ := h_0_g
  intro r u1 u2 u3 u4 e
  unfold f_m_order at e
  generalize x_1 : (f_m_findOrder G f0 f10 f8 f11 f12 f38 f39) = z_2 at e
  obtain ⟨o_4, o_5, o_6, o_7⟩ := z_2
  replace e : ((if i_ = (-1) then ((o_4 41), o_4, o_5, o_6, o_7) else (if (f_m_in i_.toInt64 0 ((((o_4 40) - 1)).toInt64)) = 0 then ((-1), o_4, o_5, o_6, o_7) else ((o_7 (i_ : Int32).toNatClampNeg), o_4, o_5, o_6, o_7)))) = (r, u1, u2, u3, u4) := e
  have p_3 := p_findOrder h_0 h_1 h_2 _ _ _ _ x_1
  obtain ⟨i_4, i_5, i_6, i_7⟩ := p_3
  obtain ⟨o_4_2, o_4_3, o_4_4, o_4_5, o_4_6, o_4_14, o_4_42⟩ := QFs i_4
  by_cases c_8 : i_ = (-1)
  · rw [if_pos c_8] at e
    try simp (disch := omega) only [↓i_in, ↓i_isCouple, ↓i_isBridge, ↓i_isTheme, ↓i_isBarge, i_lt, i_le, i_eq, i_clamp, i_m1, Int32.toInt_toInt64, Int32.toInt_add, Int32.toInt_sub, Int32.toInt_mul, bm32, Int32.reduceToInt, Int64.reduceToInt, Nat.reduceLT, Nat.reduceEqDiff, reduceIte, u_eq, u_ne, o_4_2, o_4_3, o_4_4, o_4_5, o_4_6, o_4_14, o_4_42] at c_8
    cases e
    exact ⟨i_4, i_5⟩
  · rw [if_neg c_8] at e
    try simp (disch := omega) only [↓i_in, ↓i_isCouple, ↓i_isBridge, ↓i_isTheme, ↓i_isBarge, i_lt, i_le, i_eq, i_clamp, i_m1, Int32.toInt_toInt64, Int32.toInt_add, Int32.toInt_sub, Int32.toInt_mul, bm32, Int32.reduceToInt, Int64.reduceToInt, Nat.reduceLT, Nat.reduceEqDiff, reduceIte, u_eq, u_ne, o_4_2, o_4_3, o_4_4, o_4_5, o_4_6, o_4_14, o_4_42] at c_8
    by_cases c_9 : (f_m_in i_.toInt64 0 ((((o_4 40) - 1)).toInt64)) = 0
    · rw [if_pos c_9] at e
      try simp (disch := omega) only [↓i_in, ↓i_isCouple, ↓i_isBridge, ↓i_isTheme, ↓i_isBarge, i_lt, i_le, i_eq, i_clamp, i_m1, Int32.toInt_toInt64, Int32.toInt_add, Int32.toInt_sub, Int32.toInt_mul, bm32, Int32.reduceToInt, Int64.reduceToInt, Nat.reduceLT, Nat.reduceEqDiff, reduceIte, u_eq, u_ne, o_4_2, o_4_3, o_4_4, o_4_5, o_4_6, o_4_14, o_4_42] at c_9
      cases e
      exact ⟨i_4, i_5⟩
    · rw [if_neg c_9] at e
      try simp (disch := omega) only [↓i_in, ↓i_isCouple, ↓i_isBridge, ↓i_isTheme, ↓i_isBarge, i_lt, i_le, i_eq, i_clamp, i_m1, Int32.toInt_toInt64, Int32.toInt_add, Int32.toInt_sub, Int32.toInt_mul, bm32, Int32.reduceToInt, Int64.reduceToInt, Nat.reduceLT, Nat.reduceEqDiff, reduceIte, u_eq, u_ne, o_4_2, o_4_3, o_4_4, o_4_5, o_4_6, o_4_14, o_4_42] at c_9
      cases e
      exact ⟨i_4, i_5⟩
