set_option maxHeartbeats 4000000 in
theorem s_drift {G : Nat → Int32} {f0 : Nat → Int32} {n_ : Int32} (h_0 : GI G) (h_1 : WI f0) : S_m_drift G f0 n_ := by
  unfold S_m_drift
  have h_0_g := h_0
  obtain ⟨⟨h_0_2a, h_0_2b⟩, ⟨h_0_3a, h_0_3b⟩, ⟨h_0_4a, h_0_4b⟩, ⟨h_0_5a, h_0_5b⟩, ⟨h_0_6a, h_0_6b⟩, ⟨h_0_14a, h_0_14b⟩, ⟨h_0_42a, h_0_42b⟩⟩ := h_0_g
  refine ⟨s_in, ?_⟩
  refine ⟨fun c_1 => ?_, fun c_1 => ?_⟩
  · exact trivial
  · skip
    try simp (disch := omega) only [↓i_in, ↓i_isCouple, ↓i_isBridge, ↓i_isTheme, ↓i_isBarge, i_lt, i_le, i_eq, i_clamp, i_upd, i_m1, Int32.toInt_toInt64, Int32.toInt_add, Int32.toInt_sub, Int32.toInt_mul, bm32, Int32.reduceToInt, Int64.reduceToInt, Nat.reduceLT, Nat.reduceEqDiff, reduceIte] at c_1
    refine ⟨fun c_2 => ?_, fun c_2 => ?_⟩
    · exact trivial
    · skip
      try simp (disch := omega) only [↓i_in, ↓i_isCouple, ↓i_isBridge, ↓i_isTheme, ↓i_isBarge, i_lt, i_le, i_eq, i_clamp, i_upd, i_m1, Int32.toInt_toInt64, Int32.toInt_add, Int32.toInt_sub, Int32.toInt_mul, bm32, Int32.reduceToInt, Int64.reduceToInt, Nat.reduceLT, Nat.reduceEqDiff, reduceIte] at c_2
      refine ⟨fun c_3 => ?_, fun c_3 => ?_⟩
      · skip
        try simp (disch := omega) only [↓i_in, ↓i_isCouple, ↓i_isBridge, ↓i_isTheme, ↓i_isBarge, i_lt, i_le, i_eq, i_clamp, i_upd, i_m1, Int32.toInt_toInt64, Int32.toInt_add, Int32.toInt_sub, Int32.toInt_mul, bm32, Int32.reduceToInt, Int64.reduceToInt, Nat.reduceLT, Nat.reduceEqDiff, reduceIte] at c_3
        refine ⟨(s_minds h_0 h_1), ?_⟩
        intro o_10 o_11 e_4
        have p_5 := p_minds h_0 h_1 _ _ e_4.symm
        obtain ⟨i_6, i_7, i_8⟩ := p_5
        have i_6_g := i_6
        obtain ⟨⟨i_6_2a, i_6_2b⟩, ⟨i_6_3a, i_6_3b⟩, ⟨i_6_4a, i_6_4b⟩, ⟨i_6_5a, i_6_5b⟩, ⟨i_6_6a, i_6_6b⟩, ⟨i_6_14a, i_6_14b⟩, ⟨i_6_42a, i_6_42b⟩⟩ := i_6_g
        have o_10_3 := i_8 3 (by decide)
        have o_10_4 := i_8 4 (by decide)
        have o_10_5 := i_8 5 (by decide)
        have o_10_6 := i_8 6 (by decide)
        have o_10_14 := i_8 14 (by decide)
        have o_10_42 := i_8 42 (by decide)
        refine sl_drift_46 ?_ (((n_ : Int32).toInt - (0 : Int32).toInt).toNat + 1) 0 o_10 o_11 (⟨i_6, i_7, (by first | omega | (simp (disch := omega) only [↓i_in, ↓i_isCouple, ↓i_isBridge, ↓i_isTheme, ↓i_isBarge, i_lt, i_le, i_eq, i_clamp, i_upd, i_m1, Int32.toInt_toInt64, Int32.toInt_add, Int32.toInt_sub, Int32.toInt_mul, bm32, Int32.reduceToInt, Int64.reduceToInt, Nat.reduceLT, Nat.reduceEqDiff, reduceIte, o_10_3, o_10_4, o_10_5, o_10_6, o_10_14, o_10_42] <;> omega)), (by first | omega | (simp (disch := omega) only [↓i_in, ↓i_isCouple, ↓i_isBridge, ↓i_isTheme, ↓i_isBarge, i_lt, i_le, i_eq, i_clamp, i_upd, i_m1, Int32.toInt_toInt64, Int32.toInt_add, Int32.toInt_sub, Int32.toInt_mul, bm32, Int32.reduceToInt, Int64.reduceToInt, Nat.reduceLT, Nat.reduceEqDiff, reduceIte, o_10_3, o_10_4, o_10_5, o_10_6, o_10_14, o_10_42] <;> omega))⟩)
        intro w_12l2 w_12m0 w_12m1 i_9
        obtain ⟨i_10, i_11, i_12, i_13⟩ := i_9
        have i_10_g := i_10
        obtain ⟨⟨i_10_2a, i_10_2b⟩, ⟨i_10_3a, i_10_3b⟩, ⟨i_10_4a, i_10_4b⟩, ⟨i_10_5a, i_10_5b⟩, ⟨i_10_6a, i_10_6b⟩, ⟨i_10_14a, i_10_14b⟩, ⟨i_10_42a, i_10_42b⟩⟩ := i_10_g
        exact trivial
      · exact trivial
set_option maxHeartbeats 4000000 in
theorem p_drift {G : Nat → Int32} {f0 : Nat → Int32} {n_ : Int32} (h_0 : GI G) (h_1 : WI f0) : ∀ (r : Int32) (u1 : (Nat → Int32)) (u2 : (Nat → Int32)), f_m_drift G f0 n_ = (r, u1, u2) → GI u1 ∧ WI u2 ∧ ((u1 14) = (G 14)) := by
  have h_0_g := h_0
  obtain ⟨⟨h_0_2a, h_0_2b⟩, ⟨h_0_3a, h_0_3b⟩, ⟨h_0_4a, h_0_4b⟩, ⟨h_0_5a, h_0_5b⟩, ⟨h_0_6a, h_0_6b⟩, ⟨h_0_14a, h_0_14b⟩, ⟨h_0_42a, h_0_42b⟩⟩ := h_0_g
  intro r u1 u2 e
  unfold f_m_drift at e
  by_cases c_1 : (f_m_in n_.toInt64 1 99) = 0
  · rw [if_pos c_1] at e
    try simp (disch := omega) only [↓i_in, ↓i_isCouple, ↓i_isBridge, ↓i_isTheme, ↓i_isBarge, i_lt, i_le, i_eq, i_clamp, i_upd, i_m1, Int32.toInt_toInt64, Int32.toInt_add, Int32.toInt_sub, Int32.toInt_mul, bm32, Int32.reduceToInt, Int64.reduceToInt, Nat.reduceLT, Nat.reduceEqDiff, reduceIte] at c_1
    cases e
    exact ⟨h_0, h_1, (by first | omega | (simp (disch := omega) only [↓i_in, ↓i_isCouple, ↓i_isBridge, ↓i_isTheme, ↓i_isBarge, i_lt, i_le, i_eq, i_clamp, i_upd, i_m1, Int32.toInt_toInt64, Int32.toInt_add, Int32.toInt_sub, Int32.toInt_mul, bm32, Int32.reduceToInt, Int64.reduceToInt, Nat.reduceLT, Nat.reduceEqDiff, reduceIte] <;> omega))⟩
  · rw [if_neg c_1] at e
    try simp (disch := omega) only [↓i_in, ↓i_isCouple, ↓i_isBridge, ↓i_isTheme, ↓i_isBarge, i_lt, i_le, i_eq, i_clamp, i_upd, i_m1, Int32.toInt_toInt64, Int32.toInt_add, Int32.toInt_sub, Int32.toInt_mul, bm32, Int32.reduceToInt, Int64.reduceToInt, Nat.reduceLT, Nat.reduceEqDiff, reduceIte] at c_1
    by_cases c_2 : (G 5) = 0
    · rw [if_pos c_2] at e
      try simp (disch := omega) only [↓i_in, ↓i_isCouple, ↓i_isBridge, ↓i_isTheme, ↓i_isBarge, i_lt, i_le, i_eq, i_clamp, i_upd, i_m1, Int32.toInt_toInt64, Int32.toInt_add, Int32.toInt_sub, Int32.toInt_mul, bm32, Int32.reduceToInt, Int64.reduceToInt, Nat.reduceLT, Nat.reduceEqDiff, reduceIte] at c_2
      cases e
      exact ⟨h_0, h_1, (by first | omega | (simp (disch := omega) only [↓i_in, ↓i_isCouple, ↓i_isBridge, ↓i_isTheme, ↓i_isBarge, i_lt, i_le, i_eq, i_clamp, i_upd, i_m1, Int32.toInt_toInt64, Int32.toInt_add, Int32.toInt_sub, Int32.toInt_mul, bm32, Int32.reduceToInt, Int64.reduceToInt, Nat.reduceLT, Nat.reduceEqDiff, reduceIte] <;> omega))⟩
    · rw [if_neg c_2] at e
      try simp (disch := omega) only [↓i_in, ↓i_isCouple, ↓i_isBridge, ↓i_isTheme, ↓i_isBarge, i_lt, i_le, i_eq, i_clamp, i_upd, i_m1, Int32.toInt_toInt64, Int32.toInt_add, Int32.toInt_sub, Int32.toInt_mul, bm32, Int32.reduceToInt, Int64.reduceToInt, Nat.reduceLT, Nat.reduceEqDiff, reduceIte] at c_2
      by_cases c_3 : (f0 (19 : Int32).toNatClampNeg) ≤ 90000
      · rw [if_pos c_3] at e
        try simp (disch := omega) only [↓i_in, ↓i_isCouple, ↓i_isBridge, ↓i_isTheme, ↓i_isBarge, i_lt, i_le, i_eq, i_clamp, i_upd, i_m1, Int32.toInt_toInt64, Int32.toInt_add, Int32.toInt_sub, Int32.toInt_mul, bm32, Int32.reduceToInt, Int64.reduceToInt, Nat.reduceLT, Nat.reduceEqDiff, reduceIte] at c_3
        generalize x_4 : (f_m_minds G f0) = z_5 at e
        obtain ⟨o_10, o_11⟩ := z_5
        replace e : ((match ((f_m_drift_46 n_ (((n_ : Int32).toInt - (0 : Int32).toInt).toNat + 1) 0 o_10 o_11) : Int32 × (Nat → Int32) × (Nat → Int32)) with | (w_12l2, w_12m0, w_12m1) => ((w_12m1 (19 : Int32).toNatClampNeg), w_12m0, w_12m1))) = (r, u1, u2) := e
        have p_6 := p_minds h_0 h_1 _ _ x_4
        obtain ⟨i_7, i_8, i_9⟩ := p_6
        have i_7_g := i_7
        obtain ⟨⟨i_7_2a, i_7_2b⟩, ⟨i_7_3a, i_7_3b⟩, ⟨i_7_4a, i_7_4b⟩, ⟨i_7_5a, i_7_5b⟩, ⟨i_7_6a, i_7_6b⟩, ⟨i_7_14a, i_7_14b⟩, ⟨i_7_42a, i_7_42b⟩⟩ := i_7_g
        have o_10_3 := i_9 3 (by decide)
        have o_10_4 := i_9 4 (by decide)
        have o_10_5 := i_9 5 (by decide)
        have o_10_6 := i_9 6 (by decide)
        have o_10_14 := i_9 14 (by decide)
        have o_10_42 := i_9 42 (by decide)
        generalize x_10 : (f_m_drift_46 n_ (((n_ : Int32).toInt - (0 : Int32).toInt).toNat + 1) 0 o_10 o_11) = z_11 at e
        obtain ⟨w_12l2, w_12m0, w_12m1⟩ := z_11
        replace e : (((w_12m1 (19 : Int32).toNatClampNeg), w_12m0, w_12m1)) = (r, u1, u2) := e
        have p_12 := pl_drift_46 (((n_ : Int32).toInt - (0 : Int32).toInt).toNat + 1) 0 o_10 o_11 (⟨i_7, i_8, (by first | omega | (simp (disch := omega) only [↓i_in, ↓i_isCouple, ↓i_isBridge, ↓i_isTheme, ↓i_isBarge, i_lt, i_le, i_eq, i_clamp, i_upd, i_m1, Int32.toInt_toInt64, Int32.toInt_add, Int32.toInt_sub, Int32.toInt_mul, bm32, Int32.reduceToInt, Int64.reduceToInt, Nat.reduceLT, Nat.reduceEqDiff, reduceIte, o_10_3, o_10_4, o_10_5, o_10_6, o_10_14, o_10_42] <;> omega)), (by first | omega | (simp (disch := omega) only [↓i_in, ↓i_isCouple, ↓i_isBridge, ↓i_isTheme, ↓i_isBarge, i_lt, i_le, i_eq, i_clamp, i_upd, i_m1, Int32.toInt_toInt64, Int32.toInt_add, Int32.toInt_sub, Int32.toInt_mul, bm32, Int32.reduceToInt, Int64.reduceToInt, Nat.reduceLT, Nat.reduceEqDiff, reduceIte, o_10_3, o_10_4, o_10_5, o_10_6, o_10_14, o_10_42] <;> omega))⟩) _ _ _ x_10
        obtain ⟨i_13, i_14, i_15, i_16⟩ := p_12
        have i_13_g := i_13
        obtain ⟨⟨i_13_2a, i_13_2b⟩, ⟨i_13_3a, i_13_3b⟩, ⟨i_13_4a, i_13_4b⟩, ⟨i_13_5a, i_13_5b⟩, ⟨i_13_6a, i_13_6b⟩, ⟨i_13_14a, i_13_14b⟩, ⟨i_13_42a, i_13_42b⟩⟩ := i_13_g
        cases e
        exact ⟨i_13, i_14, (by first | omega | (simp (disch := omega) only [↓i_in, ↓i_isCouple, ↓i_isBridge, ↓i_isTheme, ↓i_isBarge, i_lt, i_le, i_eq, i_clamp, i_upd, i_m1, Int32.toInt_toInt64, Int32.toInt_add, Int32.toInt_sub, Int32.toInt_mul, bm32, Int32.reduceToInt, Int64.reduceToInt, Nat.reduceLT, Nat.reduceEqDiff, reduceIte, o_10_3, o_10_4, o_10_5, o_10_6, o_10_14, o_10_42] <;> omega))⟩
      · rw [if_neg c_3] at e
        try simp (disch := omega) only [↓i_in, ↓i_isCouple, ↓i_isBridge, ↓i_isTheme, ↓i_isBarge, i_lt, i_le, i_eq, i_clamp, i_upd, i_m1, Int32.toInt_toInt64, Int32.toInt_add, Int32.toInt_sub, Int32.toInt_mul, bm32, Int32.reduceToInt, Int64.reduceToInt, Nat.reduceLT, Nat.reduceEqDiff, reduceIte] at c_3
        cases e
        exact ⟨h_0, h_1, (by first | omega | (simp (disch := omega) only [↓i_in, ↓i_isCouple, ↓i_isBridge, ↓i_isTheme, ↓i_isBarge, i_lt, i_le, i_eq, i_clamp, i_upd, i_m1, Int32.toInt_toInt64, Int32.toInt_add, Int32.toInt_sub, Int32.toInt_mul, bm32, Int32.reduceToInt, Int64.reduceToInt, Nat.reduceLT, Nat.reduceEqDiff, reduceIte] <;> omega))⟩
set_option maxHeartbeats 4000000 in
theorem p_send {G : Nat → Int32} {f0 : Nat → Int32} {c_ : Int32} {b_ : Int32} {t_ : Int32} (h_0 : GI G) (h_1 : WI f0) : ∀ (r : Int32) (u1 : (Nat → Int32)) (u2 : (Nat → Int32)), f_m_send G f0 c_ b_ t_ = (r, u1, u2) → GI u1 ∧ WI u2 ∧ ((u1 14) = (G 14)) := by
  have h_0_g := h_0
  obtain ⟨⟨h_0_2a, h_0_2b⟩, ⟨h_0_3a, h_0_3b⟩, ⟨h_0_4a, h_0_4b⟩, ⟨h_0_5a, h_0_5b⟩, ⟨h_0_6a, h_0_6b⟩, ⟨h_0_14a, h_0_14b⟩, ⟨h_0_42a, h_0_42b⟩⟩ := h_0_g
  intro r u1 u2 e
  unfold f_m_send at e
  by_cases c_1 : (f_m_isCouple G c_) = 0
  · rw [if_pos c_1] at e
    try simp (disch := omega) only [↓i_in, ↓i_isCouple, ↓i_isBridge, ↓i_isTheme, ↓i_isBarge, i_lt, i_le, i_eq, i_clamp, i_upd, i_m1, Int32.toInt_toInt64, Int32.toInt_add, Int32.toInt_sub, Int32.toInt_mul, bm32, Int32.reduceToInt, Int64.reduceToInt, Nat.reduceLT, Nat.reduceEqDiff, reduceIte] at c_1
    cases e
    exact ⟨h_0, h_1, (by first | omega | (simp (disch := omega) only [↓i_in, ↓i_isCouple, ↓i_isBridge, ↓i_isTheme, ↓i_isBarge, i_lt, i_le, i_eq, i_clamp, i_upd, i_m1, Int32.toInt_toInt64, Int32.toInt_add, Int32.toInt_sub, Int32.toInt_mul, bm32, Int32.reduceToInt, Int64.reduceToInt, Nat.reduceLT, Nat.reduceEqDiff, reduceIte] <;> omega))⟩
  · rw [if_neg c_1] at e
    try simp (disch := omega) only [↓i_in, ↓i_isCouple, ↓i_isBridge, ↓i_isTheme, ↓i_isBarge, i_lt, i_le, i_eq, i_clamp, i_upd, i_m1, Int32.toInt_toInt64, Int32.toInt_add, Int32.toInt_sub, Int32.toInt_mul, bm32, Int32.reduceToInt, Int64.reduceToInt, Nat.reduceLT, Nat.reduceEqDiff, reduceIte] at c_1
    by_cases c_2 : (f_m_isBridge G b_) = 0
    · rw [if_pos c_2] at e
      try simp (disch := omega) only [↓i_in, ↓i_isCouple, ↓i_isBridge, ↓i_isTheme, ↓i_isBarge, i_lt, i_le, i_eq, i_clamp, i_upd, i_m1, Int32.toInt_toInt64, Int32.toInt_add, Int32.toInt_sub, Int32.toInt_mul, bm32, Int32.reduceToInt, Int64.reduceToInt, Nat.reduceLT, Nat.reduceEqDiff, reduceIte] at c_2
      cases e
      exact ⟨h_0, h_1, (by first | omega | (simp (disch := omega) only [↓i_in, ↓i_isCouple, ↓i_isBridge, ↓i_isTheme, ↓i_isBarge, i_lt, i_le, i_eq, i_clamp, i_upd, i_m1, Int32.toInt_toInt64, Int32.toInt_add, Int32.toInt_sub, Int32.toInt_mul, bm32, Int32.reduceToInt, Int64.reduceToInt, Nat.reduceLT, Nat.reduceEqDiff, reduceIte] <;> omega))⟩
    · rw [if_neg c_2] at e
      try simp (disch := omega) only [↓i_in, ↓i_isCouple, ↓i_isBridge, ↓i_isTheme, ↓i_isBarge, i_lt, i_le, i_eq, i_clamp, i_upd, i_m1, Int32.toInt_toInt64, Int32.toInt_add, Int32.toInt_sub, Int32.toInt_mul, bm32, Int32.reduceToInt, Int64.reduceToInt, Nat.reduceLT, Nat.reduceEqDiff, reduceIte] at c_2
      by_cases c_3 : (f_m_isTheme G t_) = 0
      · rw [if_pos c_3] at e
        try simp (disch := omega) only [↓i_in, ↓i_isCouple, ↓i_isBridge, ↓i_isTheme, ↓i_isBarge, i_lt, i_le, i_eq, i_clamp, i_upd, i_m1, Int32.toInt_toInt64, Int32.toInt_add, Int32.toInt_sub, Int32.toInt_mul, bm32, Int32.reduceToInt, Int64.reduceToInt, Nat.reduceLT, Nat.reduceEqDiff, reduceIte] at c_3
        cases e
        exact ⟨h_0, h_1, (by first | omega | (simp (disch := omega) only [↓i_in, ↓i_isCouple, ↓i_isBridge, ↓i_isTheme, ↓i_isBarge, i_lt, i_le, i_eq, i_clamp, i_upd, i_m1, Int32.toInt_toInt64, Int32.toInt_add, Int32.toInt_sub, Int32.toInt_mul, bm32, Int32.reduceToInt, Int64.reduceToInt, Nat.reduceLT, Nat.reduceEqDiff, reduceIte] <;> omega))⟩
      · rw [if_neg c_3] at e
        try simp (disch := omega) only [↓i_in, ↓i_isCouple, ↓i_isBridge, ↓i_isTheme, ↓i_isBarge, i_lt, i_le, i_eq, i_clamp, i_upd, i_m1, Int32.toInt_toInt64, Int32.toInt_add, Int32.toInt_sub, Int32.toInt_mul, bm32, Int32.reduceToInt, Int64.reduceToInt, Nat.reduceLT, Nat.reduceEqDiff, reduceIte] at c_3
        by_cases c_4 : (f_m_isDone f0 c_) = 0
        · rw [if_pos c_4] at e
          try simp (disch := omega) only [↓i_in, ↓i_isCouple, ↓i_isBridge, ↓i_isTheme, ↓i_isBarge, i_lt, i_le, i_eq, i_clamp, i_upd, i_m1, Int32.toInt_toInt64, Int32.toInt_add, Int32.toInt_sub, Int32.toInt_mul, bm32, Int32.reduceToInt, Int64.reduceToInt, Nat.reduceLT, Nat.reduceEqDiff, reduceIte] at c_4
          have v_5 := p_whoIsAt (G := G) (f0 := f0) (h_ := 0) (b_ := b_) h_0 (by first | omega | (simp (disch := omega) only [↓i_in, ↓i_isCouple, ↓i_isBridge, ↓i_isTheme, ↓i_isBarge, i_lt, i_le, i_eq, i_clamp, i_upd, i_m1, Int32.toInt_toInt64, Int32.toInt_add, Int32.toInt_sub, Int32.toInt_mul, bm32, Int32.reduceToInt, Int64.reduceToInt, Nat.reduceLT, Nat.reduceEqDiff, reduceIte] <;> omega)) (by first | omega | (simp (disch := omega) only [↓i_in, ↓i_isCouple, ↓i_isBridge, ↓i_isTheme, ↓i_isBarge, i_lt, i_le, i_eq, i_clamp, i_upd, i_m1, Int32.toInt_toInt64, Int32.toInt_add, Int32.toInt_sub, Int32.toInt_mul, bm32, Int32.reduceToInt, Int64.reduceToInt, Nat.reduceLT, Nat.reduceEqDiff, reduceIte] <;> omega))
          try simp (disch := omega) only [↓i_in, ↓i_isCouple, ↓i_isBridge, ↓i_isTheme, ↓i_isBarge, i_lt, i_le, i_eq, i_clamp, i_upd, i_m1, Int32.toInt_toInt64, Int32.toInt_add, Int32.toInt_sub, Int32.toInt_mul, bm32, Int32.reduceToInt, Int64.reduceToInt, Nat.reduceLT, Nat.reduceEqDiff, reduceIte] at v_5
          by_cases c_6 : (f_m_whoIsAt G f0 0 b_) = (-1)
          · rw [if_pos c_6] at e
            try simp (disch := omega) only [↓i_in, ↓i_isCouple, ↓i_isBridge, ↓i_isTheme, ↓i_isBarge, i_lt, i_le, i_eq, i_clamp, i_upd, i_m1, Int32.toInt_toInt64, Int32.toInt_add, Int32.toInt_sub, Int32.toInt_mul, bm32, Int32.reduceToInt, Int64.reduceToInt, Nat.reduceLT, Nat.reduceEqDiff, reduceIte] at c_6
            generalize x_7 : (f_m_minds G f0) = z_8 at e
            obtain ⟨o_24, o_25⟩ := z_8
            replace e : (((o_25 ((6 + c_) : Int32).toNatClampNeg), o_24, (upd (upd o_25 ((6 + c_) : Int32).toNatClampNeg b_) ((12 + c_) : Int32).toNatClampNeg t_))) = (r, u1, u2) := e
            have p_9 := p_minds h_0 h_1 _ _ x_7
            obtain ⟨i_10, i_11, i_12⟩ := p_9
            have i_10_g := i_10
            obtain ⟨⟨i_10_2a, i_10_2b⟩, ⟨i_10_3a, i_10_3b⟩, ⟨i_10_4a, i_10_4b⟩, ⟨i_10_5a, i_10_5b⟩, ⟨i_10_6a, i_10_6b⟩, ⟨i_10_14a, i_10_14b⟩, ⟨i_10_42a, i_10_42b⟩⟩ := i_10_g
            have o_24_3 := i_12 3 (by decide)
            have o_24_4 := i_12 4 (by decide)
            have o_24_5 := i_12 5 (by decide)
            have o_24_6 := i_12 6 (by decide)
            have o_24_14 := i_12 14 (by decide)
            have o_24_42 := i_12 42 (by decide)
            cases e
            exact ⟨i_10, (WI_upd (WI_upd i_11 (by first | (refine OKv.out ?_; (first | omega | (simp (disch := omega) only [↓i_in, ↓i_isCouple, ↓i_isBridge, ↓i_isTheme, ↓i_isBarge, i_lt, i_le, i_eq, i_clamp, i_upd, i_m1, Int32.toInt_toInt64, Int32.toInt_add, Int32.toInt_sub, Int32.toInt_mul, bm32, Int32.reduceToInt, Int64.reduceToInt, Nat.reduceLT, Nat.reduceEqDiff, reduceIte, o_24_3, o_24_4, o_24_5, o_24_6, o_24_14, o_24_42] <;> omega))) | (refine OKv.mk ?_; (first | omega | (simp (disch := omega) only [↓i_in, ↓i_isCouple, ↓i_isBridge, ↓i_isTheme, ↓i_isBarge, i_lt, i_le, i_eq, i_clamp, i_upd, i_m1, Int32.toInt_toInt64, Int32.toInt_add, Int32.toInt_sub, Int32.toInt_mul, bm32, Int32.reduceToInt, Int64.reduceToInt, Nat.reduceLT, Nat.reduceEqDiff, reduceIte, o_24_3, o_24_4, o_24_5, o_24_6, o_24_14, o_24_42] <;> omega))))) (by first | (refine OKv.out ?_; (first | omega | (simp (disch := omega) only [↓i_in, ↓i_isCouple, ↓i_isBridge, ↓i_isTheme, ↓i_isBarge, i_lt, i_le, i_eq, i_clamp, i_upd, i_m1, Int32.toInt_toInt64, Int32.toInt_add, Int32.toInt_sub, Int32.toInt_mul, bm32, Int32.reduceToInt, Int64.reduceToInt, Nat.reduceLT, Nat.reduceEqDiff, reduceIte, o_24_3, o_24_4, o_24_5, o_24_6, o_24_14, o_24_42] <;> omega))) | (refine OKv.mk ?_; (first | omega | (simp (disch := omega) only [↓i_in, ↓i_isCouple, ↓i_isBridge, ↓i_isTheme, ↓i_isBarge, i_lt, i_le, i_eq, i_clamp, i_upd, i_m1, Int32.toInt_toInt64, Int32.toInt_add, Int32.toInt_sub, Int32.toInt_mul, bm32, Int32.reduceToInt, Int64.reduceToInt, Nat.reduceLT, Nat.reduceEqDiff, reduceIte, o_24_3, o_24_4, o_24_5, o_24_6, o_24_14, o_24_42] <;> omega))))), (by first | omega | (simp (disch := omega) only [↓i_in, ↓i_isCouple, ↓i_isBridge, ↓i_isTheme, ↓i_isBarge, i_lt, i_le, i_eq, i_clamp, i_upd, i_m1, Int32.toInt_toInt64, Int32.toInt_add, Int32.toInt_sub, Int32.toInt_mul, bm32, Int32.reduceToInt, Int64.reduceToInt, Nat.reduceLT, Nat.reduceEqDiff, reduceIte, o_24_3, o_24_4, o_24_5, o_24_6, o_24_14, o_24_42] <;> omega))⟩
          · rw [if_neg c_6] at e
            try simp (disch := omega) only [↓i_in, ↓i_isCouple, ↓i_isBridge, ↓i_isTheme, ↓i_isBarge, i_lt, i_le, i_eq, i_clamp, i_upd, i_m1, Int32.toInt_toInt64, Int32.toInt_add, Int32.toInt_sub, Int32.toInt_mul, bm32, Int32.reduceToInt, Int64.reduceToInt, Nat.reduceLT, Nat.reduceEqDiff, reduceIte] at c_6
            by_cases c_13 : (f_m_whoIsAt G f0 0 b_) = c_
            · rw [if_pos c_13] at e
              try simp (disch := omega) only [↓i_in, ↓i_isCouple, ↓i_isBridge, ↓i_isTheme, ↓i_isBarge, i_lt, i_le, i_eq, i_clamp, i_upd, i_m1, Int32.toInt_toInt64, Int32.toInt_add, Int32.toInt_sub, Int32.toInt_mul, bm32, Int32.reduceToInt, Int64.reduceToInt, Nat.reduceLT, Nat.reduceEqDiff, reduceIte] at c_13
              generalize x_14 : (f_m_minds G f0) = z_15 at e
              obtain ⟨o_33, o_34⟩ := z_15
              replace e : (((o_34 ((6 + c_) : Int32).toNatClampNeg), o_33, (upd (upd o_34 ((6 + c_) : Int32).toNatClampNeg b_) ((12 + c_) : Int32).toNatClampNeg t_))) = (r, u1, u2) := e
              have p_16 := p_minds h_0 h_1 _ _ x_14
              obtain ⟨i_17, i_18, i_19⟩ := p_16
              have i_17_g := i_17
              obtain ⟨⟨i_17_2a, i_17_2b⟩, ⟨i_17_3a, i_17_3b⟩, ⟨i_17_4a, i_17_4b⟩, ⟨i_17_5a, i_17_5b⟩, ⟨i_17_6a, i_17_6b⟩, ⟨i_17_14a, i_17_14b⟩, ⟨i_17_42a, i_17_42b⟩⟩ := i_17_g
              have o_33_3 := i_19 3 (by decide)
              have o_33_4 := i_19 4 (by decide)
              have o_33_5 := i_19 5 (by decide)
              have o_33_6 := i_19 6 (by decide)
              have o_33_14 := i_19 14 (by decide)
              have o_33_42 := i_19 42 (by decide)
              cases e
              exact ⟨i_17, (WI_upd (WI_upd i_18 (by first | (refine OKv.out ?_; (first | omega | (simp (disch := omega) only [↓i_in, ↓i_isCouple, ↓i_isBridge, ↓i_isTheme, ↓i_isBarge, i_lt, i_le, i_eq, i_clamp, i_upd, i_m1, Int32.toInt_toInt64, Int32.toInt_add, Int32.toInt_sub, Int32.toInt_mul, bm32, Int32.reduceToInt, Int64.reduceToInt, Nat.reduceLT, Nat.reduceEqDiff, reduceIte, o_33_3, o_33_4, o_33_5, o_33_6, o_33_14, o_33_42] <;> omega))) | (refine OKv.mk ?_; (first | omega | (simp (disch := omega) only [↓i_in, ↓i_isCouple, ↓i_isBridge, ↓i_isTheme, ↓i_isBarge, i_lt, i_le, i_eq, i_clamp, i_upd, i_m1, Int32.toInt_toInt64, Int32.toInt_add, Int32.toInt_sub, Int32.toInt_mul, bm32, Int32.reduceToInt, Int64.reduceToInt, Nat.reduceLT, Nat.reduceEqDiff, reduceIte, o_33_3, o_33_4, o_33_5, o_33_6, o_33_14, o_33_42] <;> omega))))) (by first | (refine OKv.out ?_; (first | omega | (simp (disch := omega) only [↓i_in, ↓i_isCouple, ↓i_isBridge, ↓i_isTheme, ↓i_isBarge, i_lt, i_le, i_eq, i_clamp, i_upd, i_m1, Int32.toInt_toInt64, Int32.toInt_add, Int32.toInt_sub, Int32.toInt_mul, bm32, Int32.reduceToInt, Int64.reduceToInt, Nat.reduceLT, Nat.reduceEqDiff, reduceIte, o_33_3, o_33_4, o_33_5, o_33_6, o_33_14, o_33_42] <;> omega))) | (refine OKv.mk ?_; (first | omega | (simp (disch := omega) only [↓i_in, ↓i_isCouple, ↓i_isBridge, ↓i_isTheme, ↓i_isBarge, i_lt, i_le, i_eq, i_clamp, i_upd, i_m1, Int32.toInt_toInt64, Int32.toInt_add, Int32.toInt_sub, Int32.toInt_mul, bm32, Int32.reduceToInt, Int64.reduceToInt, Nat.reduceLT, Nat.reduceEqDiff, reduceIte, o_33_3, o_33_4, o_33_5, o_33_6, o_33_14, o_33_42] <;> omega))))), (by first | omega | (simp (disch := omega) only [↓i_in, ↓i_isCouple, ↓i_isBridge, ↓i_isTheme, ↓i_isBarge, i_lt, i_le, i_eq, i_clamp, i_upd, i_m1, Int32.toInt_toInt64, Int32.toInt_add, Int32.toInt_sub, Int32.toInt_mul, bm32, Int32.reduceToInt, Int64.reduceToInt, Nat.reduceLT, Nat.reduceEqDiff, reduceIte, o_33_3, o_33_4, o_33_5, o_33_6, o_33_14, o_33_42] <;> omega))⟩
            · rw [if_neg c_13] at e
              try simp (disch := omega) only [↓i_in, ↓i_isCouple, ↓i_isBridge, ↓i_isTheme, ↓i_isBarge, i_lt, i_le, i_eq, i_clamp, i_upd, i_m1, Int32.toInt_toInt64, Int32.toInt_add, Int32.toInt_sub, Int32.toInt_mul, bm32, Int32.reduceToInt, Int64.reduceToInt, Nat.reduceLT, Nat.reduceEqDiff, reduceIte] at c_13
              cases e
              exact ⟨h_0, h_1, (by first | omega | (simp (disch := omega) only [↓i_in, ↓i_isCouple, ↓i_isBridge, ↓i_isTheme, ↓i_isBarge, i_lt, i_le, i_eq, i_clamp, i_upd, i_m1, Int32.toInt_toInt64, Int32.toInt_add, Int32.toInt_sub, Int32.toInt_mul, bm32, Int32.reduceToInt, Int64.reduceToInt, Nat.reduceLT, Nat.reduceEqDiff, reduceIte] <;> omega))⟩
        · rw [if_neg c_4] at e
          try simp (disch := omega) only [↓i_in, ↓i_isCouple, ↓i_isBridge, ↓i_isTheme, ↓i_isBarge, i_lt, i_le, i_eq, i_clamp, i_upd, i_m1, Int32.toInt_toInt64, Int32.toInt_add, Int32.toInt_sub, Int32.toInt_mul, bm32, Int32.reduceToInt, Int64.reduceToInt, Nat.reduceLT, Nat.reduceEqDiff, reduceIte] at c_4
          cases e
          exact ⟨h_0, h_1, (by first | omega | (simp (disch := omega) only [↓i_in, ↓i_isCouple, ↓i_isBridge, ↓i_isTheme, ↓i_isBarge, i_lt, i_le, i_eq, i_clamp, i_upd, i_m1, Int32.toInt_toInt64, Int32.toInt_add, Int32.toInt_sub, Int32.toInt_mul, bm32, Int32.reduceToInt, Int64.reduceToInt, Nat.reduceLT, Nat.reduceEqDiff, reduceIte] <;> omega))⟩
set_option maxHeartbeats 4000000 in
theorem p_home {G : Nat → Int32} {f0 : Nat → Int32} {c_ : Int32} (h_0 : GI G) (h_1 : WI f0) : ∀ (r : Int32) (u1 : (Nat → Int32)) (u2 : (Nat → Int32)), f_m_home G f0 c_ = (r, u1, u2) → GI u1 ∧ WI u2 ∧ ((u1 14) = (G 14)) := by
  have h_0_g := h_0
  obtain ⟨⟨h_0_2a, h_0_2b⟩, ⟨h_0_3a, h_0_3b⟩, ⟨h_0_4a, h_0_4b⟩, ⟨h_0_5a, h_0_5b⟩, ⟨h_0_6a, h_0_6b⟩, ⟨h_0_14a, h_0_14b⟩, ⟨h_0_42a, h_0_42b⟩⟩ := h_0_g
  intro r u1 u2 e
  unfold f_m_home at e
  by_cases c_1 : (f_m_isCouple G c_) = 0
  · rw [if_pos c_1] at e
    try simp (disch := omega) only [↓i_in, ↓i_isCouple, ↓i_isBridge, ↓i_isTheme, ↓i_isBarge, i_lt, i_le, i_eq, i_clamp, i_upd, i_m1, Int32.toInt_toInt64, Int32.toInt_add, Int32.toInt_sub, Int32.toInt_mul, bm32, Int32.reduceToInt, Int64.reduceToInt, Nat.reduceLT, Nat.reduceEqDiff, reduceIte] at c_1
    cases e
    exact ⟨h_0, h_1, (by first | omega | (simp (disch := omega) only [↓i_in, ↓i_isCouple, ↓i_isBridge, ↓i_isTheme, ↓i_isBarge, i_lt, i_le, i_eq, i_clamp, i_upd, i_m1, Int32.toInt_toInt64, Int32.toInt_add, Int32.toInt_sub, Int32.toInt_mul, bm32, Int32.reduceToInt, Int64.reduceToInt, Nat.reduceLT, Nat.reduceEqDiff, reduceIte] <;> omega))⟩
  · rw [if_neg c_1] at e
    try simp (disch := omega) only [↓i_in, ↓i_isCouple, ↓i_isBridge, ↓i_isTheme, ↓i_isBarge, i_lt, i_le, i_eq, i_clamp, i_upd, i_m1, Int32.toInt_toInt64, Int32.toInt_add, Int32.toInt_sub, Int32.toInt_mul, bm32, Int32.reduceToInt, Int64.reduceToInt, Nat.reduceLT, Nat.reduceEqDiff, reduceIte] at c_1
    by_cases c_2 : (f0 ((6 + c_) : Int32).toNatClampNeg) = (-1)
    · rw [if_pos c_2] at e
      try simp (disch := omega) only [↓i_in, ↓i_isCouple, ↓i_isBridge, ↓i_isTheme, ↓i_isBarge, i_lt, i_le, i_eq, i_clamp, i_upd, i_m1, Int32.toInt_toInt64, Int32.toInt_add, Int32.toInt_sub, Int32.toInt_mul, bm32, Int32.reduceToInt, Int64.reduceToInt, Nat.reduceLT, Nat.reduceEqDiff, reduceIte] at c_2
      cases e
      exact ⟨h_0, h_1, (by first | omega | (simp (disch := omega) only [↓i_in, ↓i_isCouple, ↓i_isBridge, ↓i_isTheme, ↓i_isBarge, i_lt, i_le, i_eq, i_clamp, i_upd, i_m1, Int32.toInt_toInt64, Int32.toInt_add, Int32.toInt_sub, Int32.toInt_mul, bm32, Int32.reduceToInt, Int64.reduceToInt, Nat.reduceLT, Nat.reduceEqDiff, reduceIte] <;> omega))⟩
    · rw [if_neg c_2] at e
      try simp (disch := omega) only [↓i_in, ↓i_isCouple, ↓i_isBridge, ↓i_isTheme, ↓i_isBarge, i_lt, i_le, i_eq, i_clamp, i_upd, i_m1, Int32.toInt_toInt64, Int32.toInt_add, Int32.toInt_sub, Int32.toInt_mul, bm32, Int32.reduceToInt, Int64.reduceToInt, Nat.reduceLT, Nat.reduceEqDiff, reduceIte] at c_2
      generalize x_3 : (f_m_minds G f0) = z_4 at e
      obtain ⟨o_10, o_11⟩ := z_4
      replace e : (((f0 ((6 + c_) : Int32).toNatClampNeg), o_10, (upd o_11 ((6 + c_) : Int32).toNatClampNeg (-1)))) = (r, u1, u2) := e
      have p_5 := p_minds h_0 h_1 _ _ x_3
      obtain ⟨i_6, i_7, i_8⟩ := p_5
      have i_6_g := i_6
      obtain ⟨⟨i_6_2a, i_6_2b⟩, ⟨i_6_3a, i_6_3b⟩, ⟨i_6_4a, i_6_4b⟩, ⟨i_6_5a, i_6_5b⟩, ⟨i_6_6a, i_6_6b⟩, ⟨i_6_14a, i_6_14b⟩, ⟨i_6_42a, i_6_42b⟩⟩ := i_6_g
      have o_10_3 := i_8 3 (by decide)
      have o_10_4 := i_8 4 (by decide)
      have o_10_5 := i_8 5 (by decide)
      have o_10_6 := i_8 6 (by decide)
      have o_10_14 := i_8 14 (by decide)
      have o_10_42 := i_8 42 (by decide)
      cases e
      exact ⟨i_6, (WI_upd i_7 (by first | (refine OKv.out ?_; (first | omega | (simp (disch := omega) only [↓i_in, ↓i_isCouple, ↓i_isBridge, ↓i_isTheme, ↓i_isBarge, i_lt, i_le, i_eq, i_clamp, i_upd, i_m1, Int32.toInt_toInt64, Int32.toInt_add, Int32.toInt_sub, Int32.toInt_mul, bm32, Int32.reduceToInt, Int64.reduceToInt, Nat.reduceLT, Nat.reduceEqDiff, reduceIte, o_10_3, o_10_4, o_10_5, o_10_6, o_10_14, o_10_42] <;> omega))) | (refine OKv.mk ?_; (first | omega | (simp (disch := omega) only [↓i_in, ↓i_isCouple, ↓i_isBridge, ↓i_isTheme, ↓i_isBarge, i_lt, i_le, i_eq, i_clamp, i_upd, i_m1, Int32.toInt_toInt64, Int32.toInt_add, Int32.toInt_sub, Int32.toInt_mul, bm32, Int32.reduceToInt, Int64.reduceToInt, Nat.reduceLT, Nat.reduceEqDiff, reduceIte, o_10_3, o_10_4, o_10_5, o_10_6, o_10_14, o_10_42] <;> omega))))), (by first | omega | (simp (disch := omega) only [↓i_in, ↓i_isCouple, ↓i_isBridge, ↓i_isTheme, ↓i_isBarge, i_lt, i_le, i_eq, i_clamp, i_upd, i_m1, Int32.toInt_toInt64, Int32.toInt_add, Int32.toInt_sub, Int32.toInt_mul, bm32, Int32.reduceToInt, Int64.reduceToInt, Nat.reduceLT, Nat.reduceEqDiff, reduceIte, o_10_3, o_10_4, o_10_5, o_10_6, o_10_14, o_10_42] <;> omega))⟩
set_option maxHeartbeats 4000000 in
theorem p_grieve {G : Nat → Int32} {f0 : Nat → Int32} {c_ : Int32} {v_ : Int32} (h_0 : GI G) (h_1 : WI f0) : ∀ (r : Int32) (u1 : (Nat → Int32)) (u2 : (Nat → Int32)), f_m_grieve G f0 c_ v_ = (r, u1, u2) → GI u1 ∧ WI u2 ∧ ((u1 14) = (G 14)) := by
  have h_0_g := h_0
  obtain ⟨⟨h_0_2a, h_0_2b⟩, ⟨h_0_3a, h_0_3b⟩, ⟨h_0_4a, h_0_4b⟩, ⟨h_0_5a, h_0_5b⟩, ⟨h_0_6a, h_0_6b⟩, ⟨h_0_14a, h_0_14b⟩, ⟨h_0_42a, h_0_42b⟩⟩ := h_0_g
  intro r u1 u2 e
  unfold f_m_grieve at e
  by_cases c_1 : (f_m_isCouple G c_) = 0
  · rw [if_pos c_1] at e
    try simp (disch := omega) only [↓i_in, ↓i_isCouple, ↓i_isBridge, ↓i_isTheme, ↓i_isBarge, i_lt, i_le, i_eq, i_clamp, i_upd, i_m1, Int32.toInt_toInt64, Int32.toInt_add, Int32.toInt_sub, Int32.toInt_mul, bm32, Int32.reduceToInt, Int64.reduceToInt, Nat.reduceLT, Nat.reduceEqDiff, reduceIte] at c_1
    cases e
    exact ⟨h_0, h_1, (by first | omega | (simp (disch := omega) only [↓i_in, ↓i_isCouple, ↓i_isBridge, ↓i_isTheme, ↓i_isBarge, i_lt, i_le, i_eq, i_clamp, i_upd, i_m1, Int32.toInt_toInt64, Int32.toInt_add, Int32.toInt_sub, Int32.toInt_mul, bm32, Int32.reduceToInt, Int64.reduceToInt, Nat.reduceLT, Nat.reduceEqDiff, reduceIte] <;> omega))⟩
  · rw [if_neg c_1] at e
    try simp (disch := omega) only [↓i_in, ↓i_isCouple, ↓i_isBridge, ↓i_isTheme, ↓i_isBarge, i_lt, i_le, i_eq, i_clamp, i_upd, i_m1, Int32.toInt_toInt64, Int32.toInt_add, Int32.toInt_sub, Int32.toInt_mul, bm32, Int32.reduceToInt, Int64.reduceToInt, Nat.reduceLT, Nat.reduceEqDiff, reduceIte] at c_1
    by_cases c_2 : (f_m_in v_.toInt64 1 99) = 0
    · rw [if_pos c_2] at e
      try simp (disch := omega) only [↓i_in, ↓i_isCouple, ↓i_isBridge, ↓i_isTheme, ↓i_isBarge, i_lt, i_le, i_eq, i_clamp, i_upd, i_m1, Int32.toInt_toInt64, Int32.toInt_add, Int32.toInt_sub, Int32.toInt_mul, bm32, Int32.reduceToInt, Int64.reduceToInt, Nat.reduceLT, Nat.reduceEqDiff, reduceIte] at c_2
      cases e
      exact ⟨h_0, h_1, (by first | omega | (simp (disch := omega) only [↓i_in, ↓i_isCouple, ↓i_isBridge, ↓i_isTheme, ↓i_isBarge, i_lt, i_le, i_eq, i_clamp, i_upd, i_m1, Int32.toInt_toInt64, Int32.toInt_add, Int32.toInt_sub, Int32.toInt_mul, bm32, Int32.reduceToInt, Int64.reduceToInt, Nat.reduceLT, Nat.reduceEqDiff, reduceIte] <;> omega))⟩
    · rw [if_neg c_2] at e
      try simp (disch := omega) only [↓i_in, ↓i_isCouple, ↓i_isBridge, ↓i_isTheme, ↓i_isBarge, i_lt, i_le, i_eq, i_clamp, i_upd, i_m1, Int32.toInt_toInt64, Int32.toInt_add, Int32.toInt_sub, Int32.toInt_mul, bm32, Int32.reduceToInt, Int64.reduceToInt, Nat.reduceLT, Nat.reduceEqDiff, reduceIte] at c_2
      by_cases c_3 : (f_m_isDone f0 c_) = 0
      · rw [if_pos c_3] at e
        try simp (disch := omega) only [↓i_in, ↓i_isCouple, ↓i_isBridge, ↓i_isTheme, ↓i_isBarge, i_lt, i_le, i_eq, i_clamp, i_upd, i_m1, Int32.toInt_toInt64, Int32.toInt_add, Int32.toInt_sub, Int32.toInt_mul, bm32, Int32.reduceToInt, Int64.reduceToInt, Nat.reduceLT, Nat.reduceEqDiff, reduceIte] at c_3
        generalize x_4 : (f_m_minds G f0) = z_5 at e
        obtain ⟨o_16, o_17⟩ := z_5
        replace e : ((((f_m_grieves o_17 c_ v_) ((0 + c_) : Int32).toNatClampNeg), o_16, (f_m_grieves o_17 c_ v_))) = (r, u1, u2) := e
        have p_6 := p_minds h_0 h_1 _ _ x_4
        obtain ⟨i_7, i_8, i_9⟩ := p_6
        have i_7_g := i_7
        obtain ⟨⟨i_7_2a, i_7_2b⟩, ⟨i_7_3a, i_7_3b⟩, ⟨i_7_4a, i_7_4b⟩, ⟨i_7_5a, i_7_5b⟩, ⟨i_7_6a, i_7_6b⟩, ⟨i_7_14a, i_7_14b⟩, ⟨i_7_42a, i_7_42b⟩⟩ := i_7_g
        have o_16_3 := i_9 3 (by decide)
        have o_16_4 := i_9 4 (by decide)
        have o_16_5 := i_9 5 (by decide)
        have o_16_6 := i_9 6 (by decide)
        have o_16_14 := i_9 14 (by decide)
        have o_16_42 := i_9 42 (by decide)
        cases e
        exact ⟨i_7, (p_grieves i_8 (by first | omega | (simp (disch := omega) only [↓i_in, ↓i_isCouple, ↓i_isBridge, ↓i_isTheme, ↓i_isBarge, i_lt, i_le, i_eq, i_clamp, i_upd, i_m1, Int32.toInt_toInt64, Int32.toInt_add, Int32.toInt_sub, Int32.toInt_mul, bm32, Int32.reduceToInt, Int64.reduceToInt, Nat.reduceLT, Nat.reduceEqDiff, reduceIte, o_16_3, o_16_4, o_16_5, o_16_6, o_16_14, o_16_42] <;> omega)) (by first | omega | (simp (disch := omega) only [↓i_in, ↓i_isCouple, ↓i_isBridge, ↓i_isTheme, ↓i_isBarge, i_lt, i_le, i_eq, i_clamp, i_upd, i_m1, Int32.toInt_toInt64, Int32.toInt_add, Int32.toInt_sub, Int32.toInt_mul, bm32, Int32.reduceToInt, Int64.reduceToInt, Nat.reduceLT, Nat.reduceEqDiff, reduceIte, o_16_3, o_16_4, o_16_5, o_16_6, o_16_14, o_16_42] <;> omega))), (by first | omega | (simp (disch := omega) only [↓i_in, ↓i_isCouple, ↓i_isBridge, ↓i_isTheme, ↓i_isBarge, i_lt, i_le, i_eq, i_clamp, i_upd, i_m1, Int32.toInt_toInt64, Int32.toInt_add, Int32.toInt_sub, Int32.toInt_mul, bm32, Int32.reduceToInt, Int64.reduceToInt, Nat.reduceLT, Nat.reduceEqDiff, reduceIte, o_16_3, o_16_4, o_16_5, o_16_6, o_16_14, o_16_42] <;> omega))⟩
      · rw [if_neg c_3] at e
        try simp (disch := omega) only [↓i_in, ↓i_isCouple, ↓i_isBridge, ↓i_isTheme, ↓i_isBarge, i_lt, i_le, i_eq, i_clamp, i_upd, i_m1, Int32.toInt_toInt64, Int32.toInt_add, Int32.toInt_sub, Int32.toInt_mul, bm32, Int32.reduceToInt, Int64.reduceToInt, Nat.reduceLT, Nat.reduceEqDiff, reduceIte] at c_3
        cases e
        exact ⟨h_0, h_1, (by first | omega | (simp (disch := omega) only [↓i_in, ↓i_isCouple, ↓i_isBridge, ↓i_isTheme, ↓i_isBarge, i_lt, i_le, i_eq, i_clamp, i_upd, i_m1, Int32.toInt_toInt64, Int32.toInt_add, Int32.toInt_sub, Int32.toInt_mul, bm32, Int32.reduceToInt, Int64.reduceToInt, Nat.reduceLT, Nat.reduceEqDiff, reduceIte] <;> omega))⟩
set_option maxHeartbeats 4000000 in
theorem p_undo {G : Nat → Int32} {f0 : Nat → Int32} (h_0 : GI G) (h_1 : WI f0) : ∀ (r : Int32) (u1 : (Nat → Int32)) (u2 : (Nat → Int32)), f_m_undo G f0 = (r, u1, u2) → GI u1 ∧ WI u2 ∧ ((u1 14) = (G 14)) := by
  have h_0_g := h_0
  obtain ⟨⟨h_0_2a, h_0_2b⟩, ⟨h_0_3a, h_0_3b⟩, ⟨h_0_4a, h_0_4b⟩, ⟨h_0_5a, h_0_5b⟩, ⟨h_0_6a, h_0_6b⟩, ⟨h_0_14a, h_0_14b⟩, ⟨h_0_42a, h_0_42b⟩⟩ := h_0_g
  intro r u1 u2 e
  unfold f_m_undo at e
  by_cases c_1 : (G 2) = 0
  · rw [if_pos c_1] at e
    try simp (disch := omega) only [↓i_in, ↓i_isCouple, ↓i_isBridge, ↓i_isTheme, ↓i_isBarge, i_lt, i_le, i_eq, i_clamp, i_upd, i_m1, Int32.toInt_toInt64, Int32.toInt_add, Int32.toInt_sub, Int32.toInt_mul, bm32, Int32.reduceToInt, Int64.reduceToInt, Nat.reduceLT, Nat.reduceEqDiff, reduceIte] at c_1
    cases e
    exact ⟨h_0, h_1, (by first | omega | (simp (disch := omega) only [↓i_in, ↓i_isCouple, ↓i_isBridge, ↓i_isTheme, ↓i_isBarge, i_lt, i_le, i_eq, i_clamp, i_upd, i_m1, Int32.toInt_toInt64, Int32.toInt_add, Int32.toInt_sub, Int32.toInt_mul, bm32, Int32.reduceToInt, Int64.reduceToInt, Nat.reduceLT, Nat.reduceEqDiff, reduceIte] <;> omega))⟩
  · rw [if_neg c_1] at e
    try simp (disch := omega) only [↓i_in, ↓i_isCouple, ↓i_isBridge, ↓i_isTheme, ↓i_isBarge, i_lt, i_le, i_eq, i_clamp, i_upd, i_m1, Int32.toInt_toInt64, Int32.toInt_add, Int32.toInt_sub, Int32.toInt_mul, bm32, Int32.reduceToInt, Int64.reduceToInt, Nat.reduceLT, Nat.reduceEqDiff, reduceIte] at c_1
    cases e
    exact ⟨(GI_u2 h_0 (by first | omega | (simp (disch := omega) only [↓i_in, ↓i_isCouple, ↓i_isBridge, ↓i_isTheme, ↓i_isBarge, i_lt, i_le, i_eq, i_clamp, i_upd, i_m1, Int32.toInt_toInt64, Int32.toInt_add, Int32.toInt_sub, Int32.toInt_mul, bm32, Int32.reduceToInt, Int64.reduceToInt, Nat.reduceLT, Nat.reduceEqDiff, reduceIte] <;> omega)) (by first | omega | (simp (disch := omega) only [↓i_in, ↓i_isCouple, ↓i_isBridge, ↓i_isTheme, ↓i_isBarge, i_lt, i_le, i_eq, i_clamp, i_upd, i_m1, Int32.toInt_toInt64, Int32.toInt_add, Int32.toInt_sub, Int32.toInt_mul, bm32, Int32.reduceToInt, Int64.reduceToInt, Nat.reduceLT, Nat.reduceEqDiff, reduceIte] <;> omega))), (WI_upd (p_copy h_1 (by first | omega | (simp (disch := omega) only [↓i_in, ↓i_isCouple, ↓i_isBridge, ↓i_isTheme, ↓i_isBarge, i_lt, i_le, i_eq, i_clamp, i_upd, i_m1, Int32.toInt_toInt64, Int32.toInt_add, Int32.toInt_sub, Int32.toInt_mul, bm32, Int32.reduceToInt, Int64.reduceToInt, Nat.reduceLT, Nat.reduceEqDiff, reduceIte] <;> omega)) (by first | omega | (simp (disch := omega) only [↓i_in, ↓i_isCouple, ↓i_isBridge, ↓i_isTheme, ↓i_isBarge, i_lt, i_le, i_eq, i_clamp, i_upd, i_m1, Int32.toInt_toInt64, Int32.toInt_add, Int32.toInt_sub, Int32.toInt_mul, bm32, Int32.reduceToInt, Int64.reduceToInt, Nat.reduceLT, Nat.reduceEqDiff, reduceIte] <;> omega)) (by first | omega | (simp (disch := omega) only [↓i_in, ↓i_isCouple, ↓i_isBridge, ↓i_isTheme, ↓i_isBarge, i_lt, i_le, i_eq, i_clamp, i_upd, i_m1, Int32.toInt_toInt64, Int32.toInt_add, Int32.toInt_sub, Int32.toInt_mul, bm32, Int32.reduceToInt, Int64.reduceToInt, Nat.reduceLT, Nat.reduceEqDiff, reduceIte] <;> omega)) (by first | omega | (simp (disch := omega) only [↓i_in, ↓i_isCouple, ↓i_isBridge, ↓i_isTheme, ↓i_isBarge, i_lt, i_le, i_eq, i_clamp, i_upd, i_m1, Int32.toInt_toInt64, Int32.toInt_add, Int32.toInt_sub, Int32.toInt_mul, bm32, Int32.reduceToInt, Int64.reduceToInt, Nat.reduceLT, Nat.reduceEqDiff, reduceIte] <;> omega))) (by first | (refine OKv.out ?_; (first | omega | (simp (disch := omega) only [↓i_in, ↓i_isCouple, ↓i_isBridge, ↓i_isTheme, ↓i_isBarge, i_lt, i_le, i_eq, i_clamp, i_upd, i_m1, Int32.toInt_toInt64, Int32.toInt_add, Int32.toInt_sub, Int32.toInt_mul, bm32, Int32.reduceToInt, Int64.reduceToInt, Nat.reduceLT, Nat.reduceEqDiff, reduceIte] <;> omega))) | (refine OKv.same ?_ (h_1 _); (first | omega | (simp (disch := omega) only [↓i_in, ↓i_isCouple, ↓i_isBridge, ↓i_isTheme, ↓i_isBarge, i_lt, i_le, i_eq, i_clamp, i_upd, i_m1, Int32.toInt_toInt64, Int32.toInt_add, Int32.toInt_sub, Int32.toInt_mul, bm32, Int32.reduceToInt, Int64.reduceToInt, Nat.reduceLT, Nat.reduceEqDiff, reduceIte] <;> omega))))), (by first | omega | (simp (disch := omega) only [↓i_in, ↓i_isCouple, ↓i_isBridge, ↓i_isTheme, ↓i_isBarge, i_lt, i_le, i_eq, i_clamp, i_upd, i_m1, Int32.toInt_toInt64, Int32.toInt_add, Int32.toInt_sub, Int32.toInt_mul, bm32, Int32.reduceToInt, Int64.reduceToInt, Nat.reduceLT, Nat.reduceEqDiff, reduceIte] <;> omega))⟩
set_option maxHeartbeats 4000000 in
theorem p_keep {G : Nat → Int32} {f0 : Nat → Int32} {f1 : Nat → Int32} {i_ : Int32} (h_0 : GI G) (h_1 : WI f0) : ∀ (r : Int32) (u1 : (Nat → Int32)) (u2 : (Nat → Int32)) (u3 : (Nat → Int32)), f_m_keep G f0 f1 i_ = (r, u1, u2, u3) → GI u1 ∧ WI u2 ∧ ((u1 14) = (G 14)) := by
  have h_0_g := h_0
  obtain ⟨⟨h_0_2a, h_0_2b⟩, ⟨h_0_3a, h_0_3b⟩, ⟨h_0_4a, h_0_4b⟩, ⟨h_0_5a, h_0_5b⟩, ⟨h_0_6a, h_0_6b⟩, ⟨h_0_14a, h_0_14b⟩, ⟨h_0_42a, h_0_42b⟩⟩ := h_0_g
  intro r u1 u2 u3 e
  unfold f_m_keep at e
  by_cases c_1 : (f_m_in i_.toInt64 0 1) = 0
  · rw [if_pos c_1] at e
    try simp (disch := omega) only [↓i_in, ↓i_isCouple, ↓i_isBridge, ↓i_isTheme, ↓i_isBarge, i_lt, i_le, i_eq, i_clamp, i_upd, i_m1, Int32.toInt_toInt64, Int32.toInt_add, Int32.toInt_sub, Int32.toInt_mul, bm32, Int32.reduceToInt, Int64.reduceToInt, Nat.reduceLT, Nat.reduceEqDiff, reduceIte] at c_1
    cases e
    exact ⟨h_0, h_1, (by first | omega | (simp (disch := omega) only [↓i_in, ↓i_isCouple, ↓i_isBridge, ↓i_isTheme, ↓i_isBarge, i_lt, i_le, i_eq, i_clamp, i_upd, i_m1, Int32.toInt_toInt64, Int32.toInt_add, Int32.toInt_sub, Int32.toInt_mul, bm32, Int32.reduceToInt, Int64.reduceToInt, Nat.reduceLT, Nat.reduceEqDiff, reduceIte] <;> omega))⟩
  · rw [if_neg c_1] at e
    try simp (disch := omega) only [↓i_in, ↓i_isCouple, ↓i_isBridge, ↓i_isTheme, ↓i_isBarge, i_lt, i_le, i_eq, i_clamp, i_upd, i_m1, Int32.toInt_toInt64, Int32.toInt_add, Int32.toInt_sub, Int32.toInt_mul, bm32, Int32.reduceToInt, Int64.reduceToInt, Nat.reduceLT, Nat.reduceEqDiff, reduceIte] at c_1
    cases e
    exact ⟨(GI_u2 h_0 (by first | omega | (simp (disch := omega) only [↓i_in, ↓i_isCouple, ↓i_isBridge, ↓i_isTheme, ↓i_isBarge, i_lt, i_le, i_eq, i_clamp, i_upd, i_m1, Int32.toInt_toInt64, Int32.toInt_add, Int32.toInt_sub, Int32.toInt_mul, bm32, Int32.reduceToInt, Int64.reduceToInt, Nat.reduceLT, Nat.reduceEqDiff, reduceIte] <;> omega)) (by first | omega | (simp (disch := omega) only [↓i_in, ↓i_isCouple, ↓i_isBridge, ↓i_isTheme, ↓i_isBarge, i_lt, i_le, i_eq, i_clamp, i_upd, i_m1, Int32.toInt_toInt64, Int32.toInt_add, Int32.toInt_sub, Int32.toInt_mul, bm32, Int32.reduceToInt, Int64.reduceToInt, Nat.reduceLT, Nat.reduceEqDiff, reduceIte] <;> omega))), (p_copy h_1 (by first | omega | (simp (disch := omega) only [↓i_in, ↓i_isCouple, ↓i_isBridge, ↓i_isTheme, ↓i_isBarge, i_lt, i_le, i_eq, i_clamp, i_upd, i_m1, Int32.toInt_toInt64, Int32.toInt_add, Int32.toInt_sub, Int32.toInt_mul, bm32, Int32.reduceToInt, Int64.reduceToInt, Nat.reduceLT, Nat.reduceEqDiff, reduceIte] <;> omega)) (by first | omega | (simp (disch := omega) only [↓i_in, ↓i_isCouple, ↓i_isBridge, ↓i_isTheme, ↓i_isBarge, i_lt, i_le, i_eq, i_clamp, i_upd, i_m1, Int32.toInt_toInt64, Int32.toInt_add, Int32.toInt_sub, Int32.toInt_mul, bm32, Int32.reduceToInt, Int64.reduceToInt, Nat.reduceLT, Nat.reduceEqDiff, reduceIte] <;> omega)) (by first | omega | (simp (disch := omega) only [↓i_in, ↓i_isCouple, ↓i_isBridge, ↓i_isTheme, ↓i_isBarge, i_lt, i_le, i_eq, i_clamp, i_upd, i_m1, Int32.toInt_toInt64, Int32.toInt_add, Int32.toInt_sub, Int32.toInt_mul, bm32, Int32.reduceToInt, Int64.reduceToInt, Nat.reduceLT, Nat.reduceEqDiff, reduceIte] <;> omega)) (by first | omega | (simp (disch := omega) only [↓i_in, ↓i_isCouple, ↓i_isBridge, ↓i_isTheme, ↓i_isBarge, i_lt, i_le, i_eq, i_clamp, i_upd, i_m1, Int32.toInt_toInt64, Int32.toInt_add, Int32.toInt_sub, Int32.toInt_mul, bm32, Int32.reduceToInt, Int64.reduceToInt, Nat.reduceLT, Nat.reduceEqDiff, reduceIte] <;> omega))), (by first | omega | (simp (disch := omega) only [↓i_in, ↓i_isCouple, ↓i_isBridge, ↓i_isTheme, ↓i_isBarge, i_lt, i_le, i_eq, i_clamp, i_upd, i_m1, Int32.toInt_toInt64, Int32.toInt_add, Int32.toInt_sub, Int32.toInt_mul, bm32, Int32.reduceToInt, Int64.reduceToInt, Nat.reduceLT, Nat.reduceEqDiff, reduceIte] <;> omega))⟩
set_option maxHeartbeats 4000000 in
theorem p_goBack {G : Nat → Int32} {f0 : Nat → Int32} {f1 : Nat → Int32} {i_ : Int32} (h_0 : GI G) (h_1 : WI f0) : ∀ (r : Int32) (u1 : (Nat → Int32)) (u2 : (Nat → Int32)), f_m_goBack G f0 f1 i_ = (r, u1, u2) → GI u1 ∧ WI u2 ∧ ((u1 14) = (G 14)) := by
  have h_0_g := h_0
  obtain ⟨⟨h_0_2a, h_0_2b⟩, ⟨h_0_3a, h_0_3b⟩, ⟨h_0_4a, h_0_4b⟩, ⟨h_0_5a, h_0_5b⟩, ⟨h_0_6a, h_0_6b⟩, ⟨h_0_14a, h_0_14b⟩, ⟨h_0_42a, h_0_42b⟩⟩ := h_0_g
  intro r u1 u2 e
  unfold f_m_goBack at e
  by_cases c_1 : (f_m_in i_.toInt64 0 1) = 0
  · rw [if_pos c_1] at e
    try simp (disch := omega) only [↓i_in, ↓i_isCouple, ↓i_isBridge, ↓i_isTheme, ↓i_isBarge, i_lt, i_le, i_eq, i_clamp, i_upd, i_m1, Int32.toInt_toInt64, Int32.toInt_add, Int32.toInt_sub, Int32.toInt_mul, bm32, Int32.reduceToInt, Int64.reduceToInt, Nat.reduceLT, Nat.reduceEqDiff, reduceIte] at c_1
    cases e
    exact ⟨h_0, h_1, (by first | omega | (simp (disch := omega) only [↓i_in, ↓i_isCouple, ↓i_isBridge, ↓i_isTheme, ↓i_isBarge, i_lt, i_le, i_eq, i_clamp, i_upd, i_m1, Int32.toInt_toInt64, Int32.toInt_add, Int32.toInt_sub, Int32.toInt_mul, bm32, Int32.reduceToInt, Int64.reduceToInt, Nat.reduceLT, Nat.reduceEqDiff, reduceIte] <;> omega))⟩
  · rw [if_neg c_1] at e
    try simp (disch := omega) only [↓i_in, ↓i_isCouple, ↓i_isBridge, ↓i_isTheme, ↓i_isBarge, i_lt, i_le, i_eq, i_clamp, i_upd, i_m1, Int32.toInt_toInt64, Int32.toInt_add, Int32.toInt_sub, Int32.toInt_mul, bm32, Int32.reduceToInt, Int64.reduceToInt, Nat.reduceLT, Nat.reduceEqDiff, reduceIte] at c_1
    by_cases c_2 : (f1 (i_ : Int32).toNatClampNeg) = 0
    · rw [if_pos c_2] at e
      try simp (disch := omega) only [↓i_in, ↓i_isCouple, ↓i_isBridge, ↓i_isTheme, ↓i_isBarge, i_lt, i_le, i_eq, i_clamp, i_upd, i_m1, Int32.toInt_toInt64, Int32.toInt_add, Int32.toInt_sub, Int32.toInt_mul, bm32, Int32.reduceToInt, Int64.reduceToInt, Nat.reduceLT, Nat.reduceEqDiff, reduceIte] at c_2
      cases e
      exact ⟨h_0, h_1, (by first | omega | (simp (disch := omega) only [↓i_in, ↓i_isCouple, ↓i_isBridge, ↓i_isTheme, ↓i_isBarge, i_lt, i_le, i_eq, i_clamp, i_upd, i_m1, Int32.toInt_toInt64, Int32.toInt_add, Int32.toInt_sub, Int32.toInt_mul, bm32, Int32.reduceToInt, Int64.reduceToInt, Nat.reduceLT, Nat.reduceEqDiff, reduceIte] <;> omega))⟩
    · rw [if_neg c_2] at e
      try simp (disch := omega) only [↓i_in, ↓i_isCouple, ↓i_isBridge, ↓i_isTheme, ↓i_isBarge, i_lt, i_le, i_eq, i_clamp, i_upd, i_m1, Int32.toInt_toInt64, Int32.toInt_add, Int32.toInt_sub, Int32.toInt_mul, bm32, Int32.reduceToInt, Int64.reduceToInt, Nat.reduceLT, Nat.reduceEqDiff, reduceIte] at c_2
      cases e
      exact ⟨(GI_u2 h_0 (by first | omega | (simp (disch := omega) only [↓i_in, ↓i_isCouple, ↓i_isBridge, ↓i_isTheme, ↓i_isBarge, i_lt, i_le, i_eq, i_clamp, i_upd, i_m1, Int32.toInt_toInt64, Int32.toInt_add, Int32.toInt_sub, Int32.toInt_mul, bm32, Int32.reduceToInt, Int64.reduceToInt, Nat.reduceLT, Nat.reduceEqDiff, reduceIte] <;> omega)) (by first | omega | (simp (disch := omega) only [↓i_in, ↓i_isCouple, ↓i_isBridge, ↓i_isTheme, ↓i_isBarge, i_lt, i_le, i_eq, i_clamp, i_upd, i_m1, Int32.toInt_toInt64, Int32.toInt_add, Int32.toInt_sub, Int32.toInt_mul, bm32, Int32.reduceToInt, Int64.reduceToInt, Nat.reduceLT, Nat.reduceEqDiff, reduceIte] <;> omega))), (p_copy h_1 (by first | omega | (simp (disch := omega) only [↓i_in, ↓i_isCouple, ↓i_isBridge, ↓i_isTheme, ↓i_isBarge, i_lt, i_le, i_eq, i_clamp, i_upd, i_m1, Int32.toInt_toInt64, Int32.toInt_add, Int32.toInt_sub, Int32.toInt_mul, bm32, Int32.reduceToInt, Int64.reduceToInt, Nat.reduceLT, Nat.reduceEqDiff, reduceIte] <;> omega)) (by first | omega | (simp (disch := omega) only [↓i_in, ↓i_isCouple, ↓i_isBridge, ↓i_isTheme, ↓i_isBarge, i_lt, i_le, i_eq, i_clamp, i_upd, i_m1, Int32.toInt_toInt64, Int32.toInt_add, Int32.toInt_sub, Int32.toInt_mul, bm32, Int32.reduceToInt, Int64.reduceToInt, Nat.reduceLT, Nat.reduceEqDiff, reduceIte] <;> omega)) (by first | omega | (simp (disch := omega) only [↓i_in, ↓i_isCouple, ↓i_isBridge, ↓i_isTheme, ↓i_isBarge, i_lt, i_le, i_eq, i_clamp, i_upd, i_m1, Int32.toInt_toInt64, Int32.toInt_add, Int32.toInt_sub, Int32.toInt_mul, bm32, Int32.reduceToInt, Int64.reduceToInt, Nat.reduceLT, Nat.reduceEqDiff, reduceIte] <;> omega)) (by first | omega | (simp (disch := omega) only [↓i_in, ↓i_isCouple, ↓i_isBridge, ↓i_isTheme, ↓i_isBarge, i_lt, i_le, i_eq, i_clamp, i_upd, i_m1, Int32.toInt_toInt64, Int32.toInt_add, Int32.toInt_sub, Int32.toInt_mul, bm32, Int32.reduceToInt, Int64.reduceToInt, Nat.reduceLT, Nat.reduceEqDiff, reduceIte] <;> omega))), (by first | omega | (simp (disch := omega) only [↓i_in, ↓i_isCouple, ↓i_isBridge, ↓i_isTheme, ↓i_isBarge, i_lt, i_le, i_eq, i_clamp, i_upd, i_m1, Int32.toInt_toInt64, Int32.toInt_add, Int32.toInt_sub, Int32.toInt_mul, bm32, Int32.reduceToInt, Int64.reduceToInt, Nat.reduceLT, Nat.reduceEqDiff, reduceIte] <;> omega))⟩
set_option maxHeartbeats 4000000 in
theorem p_seed {f0 : Nat → Int32} {v_ : Int32} (h_0 : WI f0) : ∀ (r : Int32) (u : (Nat → Int32)), f_m_seed f0 v_ = (r, u) → WI u := by
  intro r u e
  unfold f_m_seed at e
  by_cases c_1 : 0 ≤ v_
  · rw [if_pos c_1] at e
    try simp (disch := omega) only [↓i_in, ↓i_isCouple, ↓i_isBridge, ↓i_isTheme, ↓i_isBarge, i_lt, i_le, i_eq, i_clamp, i_upd, i_m1, Int32.toInt_toInt64, Int32.toInt_add, Int32.toInt_sub, Int32.toInt_mul, bm32, Int32.reduceToInt, Int64.reduceToInt, Nat.reduceLT, Nat.reduceEqDiff, reduceIte] at c_1
    cases e
    exact (WI_upd h_0 (by first | (refine OKv.out ?_; (first | omega | (simp (disch := omega) only [↓i_in, ↓i_isCouple, ↓i_isBridge, ↓i_isTheme, ↓i_isBarge, i_lt, i_le, i_eq, i_clamp, i_upd, i_m1, Int32.toInt_toInt64, Int32.toInt_add, Int32.toInt_sub, Int32.toInt_mul, bm32, Int32.reduceToInt, Int64.reduceToInt, Nat.reduceLT, Nat.reduceEqDiff, reduceIte] <;> omega))) | (refine OKv.mk ?_; (first | omega | (simp (disch := omega) only [↓i_in, ↓i_isCouple, ↓i_isBridge, ↓i_isTheme, ↓i_isBarge, i_lt, i_le, i_eq, i_clamp, i_upd, i_m1, Int32.toInt_toInt64, Int32.toInt_add, Int32.toInt_sub, Int32.toInt_mul, bm32, Int32.reduceToInt, Int64.reduceToInt, Nat.reduceLT, Nat.reduceEqDiff, reduceIte] <;> omega)))))
  · rw [if_neg c_1] at e
    try simp (disch := omega) only [↓i_in, ↓i_isCouple, ↓i_isBridge, ↓i_isTheme, ↓i_isBarge, i_lt, i_le, i_eq, i_clamp, i_upd, i_m1, Int32.toInt_toInt64, Int32.toInt_add, Int32.toInt_sub, Int32.toInt_mul, bm32, Int32.reduceToInt, Int64.reduceToInt, Nat.reduceLT, Nat.reduceEqDiff, reduceIte] at c_1
    cases e
    exact h_0
set_option maxHeartbeats 4000000 in
theorem p_tear {G : Nat → Int32} (h_0 : GI G) : ∀ (r : Int32) (u1 : (Nat → Int32)), f_m_tear G = (r, u1) → GI u1 ∧ ((u1 14) = (G 14)) := by
  have h_0_g := h_0
  obtain ⟨⟨h_0_2a, h_0_2b⟩, ⟨h_0_3a, h_0_3b⟩, ⟨h_0_4a, h_0_4b⟩, ⟨h_0_5a, h_0_5b⟩, ⟨h_0_6a, h_0_6b⟩, ⟨h_0_14a, h_0_14b⟩, ⟨h_0_42a, h_0_42b⟩⟩ := h_0_g
  intro r u1 e
  unfold f_m_tear at e
  cases e
  exact ⟨(GI_u42 h_0 (by first | omega | (simp (disch := omega) only [↓i_in, ↓i_isCouple, ↓i_isBridge, ↓i_isTheme, ↓i_isBarge, i_lt, i_le, i_eq, i_clamp, i_upd, i_m1, Int32.toInt_toInt64, Int32.toInt_add, Int32.toInt_sub, Int32.toInt_mul, bm32, Int32.reduceToInt, Int64.reduceToInt, Nat.reduceLT, Nat.reduceEqDiff, reduceIte] <;> omega)) (by first | omega | (simp (disch := omega) only [↓i_in, ↓i_isCouple, ↓i_isBridge, ↓i_isTheme, ↓i_isBarge, i_lt, i_le, i_eq, i_clamp, i_upd, i_m1, Int32.toInt_toInt64, Int32.toInt_add, Int32.toInt_sub, Int32.toInt_mul, bm32, Int32.reduceToInt, Int64.reduceToInt, Nat.reduceLT, Nat.reduceEqDiff, reduceIte] <;> omega))), (by first | omega | (simp (disch := omega) only [↓i_in, ↓i_isCouple, ↓i_isBridge, ↓i_isTheme, ↓i_isBarge, i_lt, i_le, i_eq, i_clamp, i_upd, i_m1, Int32.toInt_toInt64, Int32.toInt_add, Int32.toInt_sub, Int32.toInt_mul, bm32, Int32.reduceToInt, Int64.reduceToInt, Nat.reduceLT, Nat.reduceEqDiff, reduceIte] <;> omega))⟩
set_option maxHeartbeats 4000000 in
theorem p_write {G : Nat → Int32} {f43 : Nat → Int32} {f44 : Nat → Int32} {c_ : Int32} {g_ : Int32} (h_0 : GI G) (h_1 : RI f43) : ∀ (r : Int32) (u1 : (Nat → Int32)) (u2 : (Nat → Int32)) (u3 : (Nat → Int32)), f_m_write G f43 f44 c_ g_ = (r, u1, u2, u3) → GI u1 ∧ RI u2 ∧ ((u1 14) = (G 14)) := by
  have h_0_g := h_0
  obtain ⟨⟨h_0_2a, h_0_2b⟩, ⟨h_0_3a, h_0_3b⟩, ⟨h_0_4a, h_0_4b⟩, ⟨h_0_5a, h_0_5b⟩, ⟨h_0_6a, h_0_6b⟩, ⟨h_0_14a, h_0_14b⟩, ⟨h_0_42a, h_0_42b⟩⟩ := h_0_g
  intro r u1 u2 u3 e
  unfold f_m_write at e
  by_cases c_1 : (f_m_isCouple G c_) = 0
  · rw [if_pos c_1] at e
    try simp (disch := omega) only [↓i_in, ↓i_isCouple, ↓i_isBridge, ↓i_isTheme, ↓i_isBarge, i_lt, i_le, i_eq, i_clamp, i_upd, i_m1, Int32.toInt_toInt64, Int32.toInt_add, Int32.toInt_sub, Int32.toInt_mul, bm32, Int32.reduceToInt, Int64.reduceToInt, Nat.reduceLT, Nat.reduceEqDiff, reduceIte] at c_1
    cases e
    exact ⟨h_0, h_1, (by first | omega | (simp (disch := omega) only [↓i_in, ↓i_isCouple, ↓i_isBridge, ↓i_isTheme, ↓i_isBarge, i_lt, i_le, i_eq, i_clamp, i_upd, i_m1, Int32.toInt_toInt64, Int32.toInt_add, Int32.toInt_sub, Int32.toInt_mul, bm32, Int32.reduceToInt, Int64.reduceToInt, Nat.reduceLT, Nat.reduceEqDiff, reduceIte] <;> omega))⟩
  · rw [if_neg c_1] at e
    try simp (disch := omega) only [↓i_in, ↓i_isCouple, ↓i_isBridge, ↓i_isTheme, ↓i_isBarge, i_lt, i_le, i_eq, i_clamp, i_upd, i_m1, Int32.toInt_toInt64, Int32.toInt_add, Int32.toInt_sub, Int32.toInt_mul, bm32, Int32.reduceToInt, Int64.reduceToInt, Nat.reduceLT, Nat.reduceEqDiff, reduceIte] at c_1
    by_cases c_2 : (f_m_in g_.toInt64 0 99) = 0
    · rw [if_pos c_2] at e
      try simp (disch := omega) only [↓i_in, ↓i_isCouple, ↓i_isBridge, ↓i_isTheme, ↓i_isBarge, i_lt, i_le, i_eq, i_clamp, i_upd, i_m1, Int32.toInt_toInt64, Int32.toInt_add, Int32.toInt_sub, Int32.toInt_mul, bm32, Int32.reduceToInt, Int64.reduceToInt, Nat.reduceLT, Nat.reduceEqDiff, reduceIte] at c_2
      cases e
      exact ⟨h_0, h_1, (by first | omega | (simp (disch := omega) only [↓i_in, ↓i_isCouple, ↓i_isBridge, ↓i_isTheme, ↓i_isBarge, i_lt, i_le, i_eq, i_clamp, i_upd, i_m1, Int32.toInt_toInt64, Int32.toInt_add, Int32.toInt_sub, Int32.toInt_mul, bm32, Int32.reduceToInt, Int64.reduceToInt, Nat.reduceLT, Nat.reduceEqDiff, reduceIte] <;> omega))⟩
    · rw [if_neg c_2] at e
      try simp (disch := omega) only [↓i_in, ↓i_isCouple, ↓i_isBridge, ↓i_isTheme, ↓i_isBarge, i_lt, i_le, i_eq, i_clamp, i_upd, i_m1, Int32.toInt_toInt64, Int32.toInt_add, Int32.toInt_sub, Int32.toInt_mul, bm32, Int32.reduceToInt, Int64.reduceToInt, Nat.reduceLT, Nat.reduceEqDiff, reduceIte] at c_2
      by_cases c_3 : (G 42) = 15
      · rw [if_pos c_3] at e
        try simp (disch := omega) only [↓i_in, ↓i_isCouple, ↓i_isBridge, ↓i_isTheme, ↓i_isBarge, i_lt, i_le, i_eq, i_clamp, i_upd, i_m1, Int32.toInt_toInt64, Int32.toInt_add, Int32.toInt_sub, Int32.toInt_mul, bm32, Int32.reduceToInt, Int64.reduceToInt, Nat.reduceLT, Nat.reduceEqDiff, reduceIte] at c_3
        cases e
        exact ⟨h_0, h_1, (by first | omega | (simp (disch := omega) only [↓i_in, ↓i_isCouple, ↓i_isBridge, ↓i_isTheme, ↓i_isBarge, i_lt, i_le, i_eq, i_clamp, i_upd, i_m1, Int32.toInt_toInt64, Int32.toInt_add, Int32.toInt_sub, Int32.toInt_mul, bm32, Int32.reduceToInt, Int64.reduceToInt, Nat.reduceLT, Nat.reduceEqDiff, reduceIte] <;> omega))⟩
      · rw [if_neg c_3] at e
        try simp (disch := omega) only [↓i_in, ↓i_isCouple, ↓i_isBridge, ↓i_isTheme, ↓i_isBarge, i_lt, i_le, i_eq, i_clamp, i_upd, i_m1, Int32.toInt_toInt64, Int32.toInt_add, Int32.toInt_sub, Int32.toInt_mul, bm32, Int32.reduceToInt, Int64.reduceToInt, Nat.reduceLT, Nat.reduceEqDiff, reduceIte] at c_3
        cases e
        exact ⟨(GI_u42 h_0 (by first | omega | (simp (disch := omega) only [↓i_in, ↓i_isCouple, ↓i_isBridge, ↓i_isTheme, ↓i_isBarge, i_lt, i_le, i_eq, i_clamp, i_upd, i_m1, Int32.toInt_toInt64, Int32.toInt_add, Int32.toInt_sub, Int32.toInt_mul, bm32, Int32.reduceToInt, Int64.reduceToInt, Nat.reduceLT, Nat.reduceEqDiff, reduceIte] <;> omega)) (by first | omega | (simp (disch := omega) only [↓i_in, ↓i_isCouple, ↓i_isBridge, ↓i_isTheme, ↓i_isBarge, i_lt, i_le, i_eq, i_clamp, i_upd, i_m1, Int32.toInt_toInt64, Int32.toInt_add, Int32.toInt_sub, Int32.toInt_mul, bm32, Int32.reduceToInt, Int64.reduceToInt, Nat.reduceLT, Nat.reduceEqDiff, reduceIte] <;> omega))), (RI_upd h_1 (by first | omega | (simp (disch := omega) only [↓i_in, ↓i_isCouple, ↓i_isBridge, ↓i_isTheme, ↓i_isBarge, i_lt, i_le, i_eq, i_clamp, i_upd, i_m1, Int32.toInt_toInt64, Int32.toInt_add, Int32.toInt_sub, Int32.toInt_mul, bm32, Int32.reduceToInt, Int64.reduceToInt, Nat.reduceLT, Nat.reduceEqDiff, reduceIte] <;> omega)) (by first | omega | (simp (disch := omega) only [↓i_in, ↓i_isCouple, ↓i_isBridge, ↓i_isTheme, ↓i_isBarge, i_lt, i_le, i_eq, i_clamp, i_upd, i_m1, Int32.toInt_toInt64, Int32.toInt_add, Int32.toInt_sub, Int32.toInt_mul, bm32, Int32.reduceToInt, Int64.reduceToInt, Nat.reduceLT, Nat.reduceEqDiff, reduceIte] <;> omega))), (by first | omega | (simp (disch := omega) only [↓i_in, ↓i_isCouple, ↓i_isBridge, ↓i_isTheme, ↓i_isBarge, i_lt, i_le, i_eq, i_clamp, i_upd, i_m1, Int32.toInt_toInt64, Int32.toInt_add, Int32.toInt_sub, Int32.toInt_mul, bm32, Int32.reduceToInt, Int64.reduceToInt, Nat.reduceLT, Nat.reduceEqDiff, reduceIte] <;> omega))⟩
set_option maxHeartbeats 4000000 in
theorem p_feed {G : Nat → Int32} {f13 : Nat → Int32} {c_ : Int32} (h_0 : GI G) : ∀ (r : Int32) (u1 : (Nat → Int32)) (u2 : (Nat → Int32)), f_m_feed G f13 c_ = (r, u1, u2) → GI u1 := by
  have h_0_g := h_0
  obtain ⟨⟨h_0_2a, h_0_2b⟩, ⟨h_0_3a, h_0_3b⟩, ⟨h_0_4a, h_0_4b⟩, ⟨h_0_5a, h_0_5b⟩, ⟨h_0_6a, h_0_6b⟩, ⟨h_0_14a, h_0_14b⟩, ⟨h_0_42a, h_0_42b⟩⟩ := h_0_g
  intro r u1 u2 e
  unfold f_m_feed at e
  by_cases c_1 : (f_m_in c_.toInt64 0 255) = 0
  · rw [if_pos c_1] at e
    try simp (disch := omega) only [↓i_in, ↓i_isCouple, ↓i_isBridge, ↓i_isTheme, ↓i_isBarge, i_lt, i_le, i_eq, i_clamp, i_upd, i_m1, Int32.toInt_toInt64, Int32.toInt_add, Int32.toInt_sub, Int32.toInt_mul, bm32, Int32.reduceToInt, Int64.reduceToInt, Nat.reduceLT, Nat.reduceEqDiff, reduceIte] at c_1
    cases e
    exact h_0
  · rw [if_neg c_1] at e
    try simp (disch := omega) only [↓i_in, ↓i_isCouple, ↓i_isBridge, ↓i_isTheme, ↓i_isBarge, i_lt, i_le, i_eq, i_clamp, i_upd, i_m1, Int32.toInt_toInt64, Int32.toInt_add, Int32.toInt_sub, Int32.toInt_mul, bm32, Int32.reduceToInt, Int64.reduceToInt, Nat.reduceLT, Nat.reduceEqDiff, reduceIte] at c_1
    by_cases c_2 : (G 14) = 240
    · rw [if_pos c_2] at e
      try simp (disch := omega) only [↓i_in, ↓i_isCouple, ↓i_isBridge, ↓i_isTheme, ↓i_isBarge, i_lt, i_le, i_eq, i_clamp, i_upd, i_m1, Int32.toInt_toInt64, Int32.toInt_add, Int32.toInt_sub, Int32.toInt_mul, bm32, Int32.reduceToInt, Int64.reduceToInt, Nat.reduceLT, Nat.reduceEqDiff, reduceIte] at c_2
      cases e
      exact h_0
    · rw [if_neg c_2] at e
      try simp (disch := omega) only [↓i_in, ↓i_isCouple, ↓i_isBridge, ↓i_isTheme, ↓i_isBarge, i_lt, i_le, i_eq, i_clamp, i_upd, i_m1, Int32.toInt_toInt64, Int32.toInt_add, Int32.toInt_sub, Int32.toInt_mul, bm32, Int32.reduceToInt, Int64.reduceToInt, Nat.reduceLT, Nat.reduceEqDiff, reduceIte] at c_2
      cases e
      exact (GI_u14 h_0 (by first | omega | (simp (disch := omega) only [↓i_in, ↓i_isCouple, ↓i_isBridge, ↓i_isTheme, ↓i_isBarge, i_lt, i_le, i_eq, i_clamp, i_upd, i_m1, Int32.toInt_toInt64, Int32.toInt_add, Int32.toInt_sub, Int32.toInt_mul, bm32, Int32.reduceToInt, Int64.reduceToInt, Nat.reduceLT, Nat.reduceEqDiff, reduceIte] <;> omega)) (by first | omega | (simp (disch := omega) only [↓i_in, ↓i_isCouple, ↓i_isBridge, ↓i_isTheme, ↓i_isBarge, i_lt, i_le, i_eq, i_clamp, i_upd, i_m1, Int32.toInt_toInt64, Int32.toInt_add, Int32.toInt_sub, Int32.toInt_mul, bm32, Int32.reduceToInt, Int64.reduceToInt, Nat.reduceLT, Nat.reduceEqDiff, reduceIte] <;> omega)))
set_option maxHeartbeats 4000000 in
theorem sl_carried_63 {G : Nat → Int32} {f0 : Nat → Int32} {b_ : Int32} {K : Int32 → Int32 → Int32 → Int32 → Prop} (h_0 : GI G) (hK : ∀ w_11l6 w_11l5 w_11l4 w_11l3, ((0 ≤ w_11l6.toInt) ∧ (w_11l6.toInt ≤ 6)) → K w_11l6 w_11l5 w_11l4 w_11l3) : ∀ (n : Nat) w_11l6 w_11l5 w_11l4 w_11l3, ((0 ≤ w_11l6.toInt) ∧ (w_11l6.toInt ≤ 6)) → S_m_carried_63 G f0 b_ K n w_11l6 w_11l5 w_11l4 w_11l3 := by
  have h_0_g := h_0
  obtain ⟨⟨h_0_2a, h_0_2b⟩, ⟨h_0_3a, h_0_3b⟩, ⟨h_0_4a, h_0_4b⟩, ⟨h_0_5a, h_0_5b⟩, ⟨h_0_6a, h_0_6b⟩, ⟨h_0_14a, h_0_14b⟩, ⟨h_0_42a, h_0_42b⟩⟩ := h_0_g
  intro n
  induction n with
  | zero => intro w_11l6 w_11l5 w_11l4 w_11l3 hI; exact trivial
  | succ n ih =>
    intro w_11l6 w_11l5 w_11l4 w_11l3 hI
    rw [S_m_carried_63_s]
    have hI0 := hI
    obtain ⟨i_1, i_2⟩ := hI0
    refine ⟨fun c_3 => ?_, fun c_3 => ?_⟩
    · skip
      try simp (disch := omega) only [↓i_in, ↓i_isCouple, ↓i_isBridge, ↓i_isTheme, ↓i_isBarge, i_lt, i_le, i_eq, i_clamp, i_upd, i_m1, Int32.toInt_toInt64, Int32.toInt_add, Int32.toInt_sub, Int32.toInt_mul, bm32, Int32.reduceToInt, Int64.reduceToInt, Nat.reduceLT, Nat.reduceEqDiff, reduceIte] at c_3
      exact hK w_11l6 w_11l5 w_11l4 w_11l3 hI
    · skip
      try simp (disch := omega) only [↓i_in, ↓i_isCouple, ↓i_isBridge, ↓i_isTheme, ↓i_isBarge, i_lt, i_le, i_eq, i_clamp, i_upd, i_m1, Int32.toInt_toInt64, Int32.toInt_add, Int32.toInt_sub, Int32.toInt_mul, bm32, Int32.reduceToInt, Int64.reduceToInt, Nat.reduceLT, Nat.reduceEqDiff, reduceIte] at c_3
      refine ⟨fun c_4 => ?_, fun c_4 => ?_⟩
      · skip
        try simp (disch := omega) only [↓i_in, ↓i_isCouple, ↓i_isBridge, ↓i_isTheme, ↓i_isBarge, i_lt, i_le, i_eq, i_clamp, i_upd, i_m1, Int32.toInt_toInt64, Int32.toInt_add, Int32.toInt_sub, Int32.toInt_mul, bm32, Int32.reduceToInt, Int64.reduceToInt, Nat.reduceLT, Nat.reduceEqDiff, reduceIte] at c_4
        refine ⟨fun c_5 => ?_, fun c_5 => ?_⟩
        · skip
          try simp (disch := omega) only [↓i_in, ↓i_isCouple, ↓i_isBridge, ↓i_isTheme, ↓i_isBarge, i_lt, i_le, i_eq, i_clamp, i_upd, i_m1, Int32.toInt_toInt64, Int32.toInt_add, Int32.toInt_sub, Int32.toInt_mul, bm32, Int32.reduceToInt, Int64.reduceToInt, Nat.reduceLT, Nat.reduceEqDiff, reduceIte] at c_5
          refine ⟨fun c_6 => ?_, fun c_6 => ?_⟩
          · skip
            try simp (disch := omega) only [↓i_in, ↓i_isCouple, ↓i_isBridge, ↓i_isTheme, ↓i_isBarge, i_lt, i_le, i_eq, i_clamp, i_upd, i_m1, Int32.toInt_toInt64, Int32.toInt_add, Int32.toInt_sub, Int32.toInt_mul, bm32, Int32.reduceToInt, Int64.reduceToInt, Nat.reduceLT, Nat.reduceEqDiff, reduceIte] at c_6
            refine ⟨(s_whoIsAt h_0 (by first | omega | (simp (disch := omega) only [↓i_in, ↓i_isCouple, ↓i_isBridge, ↓i_isTheme, ↓i_isBarge, i_lt, i_le, i_eq, i_clamp, i_upd, i_m1, Int32.toInt_toInt64, Int32.toInt_add, Int32.toInt_sub, Int32.toInt_mul, bm32, Int32.reduceToInt, Int64.reduceToInt, Nat.reduceLT, Nat.reduceEqDiff, reduceIte] <;> omega)) (by first | omega | (simp (disch := omega) only [↓i_in, ↓i_isCouple, ↓i_isBridge, ↓i_isTheme, ↓i_isBarge, i_lt, i_le, i_eq, i_clamp, i_upd, i_m1, Int32.toInt_toInt64, Int32.toInt_add, Int32.toInt_sub, Int32.toInt_mul, bm32, Int32.reduceToInt, Int64.reduceToInt, Nat.reduceLT, Nat.reduceEqDiff, reduceIte] <;> omega))), ?_⟩
            have v_7 := p_whoIsAt (G := G) (f0 := f0) (h_ := 0) (b_ := w_11l6) h_0 (by first | omega | (simp (disch := omega) only [↓i_in, ↓i_isCouple, ↓i_isBridge, ↓i_isTheme, ↓i_isBarge, i_lt, i_le, i_eq, i_clamp, i_upd, i_m1, Int32.toInt_toInt64, Int32.toInt_add, Int32.toInt_sub, Int32.toInt_mul, bm32, Int32.reduceToInt, Int64.reduceToInt, Nat.reduceLT, Nat.reduceEqDiff, reduceIte] <;> omega)) (by first | omega | (simp (disch := omega) only [↓i_in, ↓i_isCouple, ↓i_isBridge, ↓i_isTheme, ↓i_isBarge, i_lt, i_le, i_eq, i_clamp, i_upd, i_m1, Int32.toInt_toInt64, Int32.toInt_add, Int32.toInt_sub, Int32.toInt_mul, bm32, Int32.reduceToInt, Int64.reduceToInt, Nat.reduceLT, Nat.reduceEqDiff, reduceIte] <;> omega))
            try simp (disch := omega) only [↓i_in, ↓i_isCouple, ↓i_isBridge, ↓i_isTheme, ↓i_isBarge, i_lt, i_le, i_eq, i_clamp, i_upd, i_m1, Int32.toInt_toInt64, Int32.toInt_add, Int32.toInt_sub, Int32.toInt_mul, bm32, Int32.reduceToInt, Int64.reduceToInt, Nat.reduceLT, Nat.reduceEqDiff, reduceIte] at v_7
            refine ⟨fun c_8 => ?_, fun c_8 => ?_⟩
            · skip
              try simp (disch := omega) only [↓i_in, ↓i_isCouple, ↓i_isBridge, ↓i_isTheme, ↓i_isBarge, i_lt, i_le, i_eq, i_clamp, i_upd, i_m1, Int32.toInt_toInt64, Int32.toInt_add, Int32.toInt_sub, Int32.toInt_mul, bm32, Int32.reduceToInt, Int64.reduceToInt, Nat.reduceLT, Nat.reduceEqDiff, reduceIte] at c_8
              exact ih (w_11l6 + 1) w_11l3 w_11l6 w_11l3 (⟨(by first | omega | (simp (disch := omega) only [↓i_in, ↓i_isCouple, ↓i_isBridge, ↓i_isTheme, ↓i_isBarge, i_lt, i_le, i_eq, i_clamp, i_upd, i_m1, Int32.toInt_toInt64, Int32.toInt_add, Int32.toInt_sub, Int32.toInt_mul, bm32, Int32.reduceToInt, Int64.reduceToInt, Nat.reduceLT, Nat.reduceEqDiff, reduceIte] <;> omega)), (by first | omega | (simp (disch := omega) only [↓i_in, ↓i_isCouple, ↓i_isBridge, ↓i_isTheme, ↓i_isBarge, i_lt, i_le, i_eq, i_clamp, i_upd, i_m1, Int32.toInt_toInt64, Int32.toInt_add, Int32.toInt_sub, Int32.toInt_mul, bm32, Int32.reduceToInt, Int64.reduceToInt, Nat.reduceLT, Nat.reduceEqDiff, reduceIte] <;> omega))⟩)
            · skip
              try simp (disch := omega) only [↓i_in, ↓i_isCouple, ↓i_isBridge, ↓i_isTheme, ↓i_isBarge, i_lt, i_le, i_eq, i_clamp, i_upd, i_m1, Int32.toInt_toInt64, Int32.toInt_add, Int32.toInt_sub, Int32.toInt_mul, bm32, Int32.reduceToInt, Int64.reduceToInt, Nat.reduceLT, Nat.reduceEqDiff, reduceIte] at c_8
              exact ih (w_11l6 + 1) w_11l3 w_11l6 (w_11l3 / 2) (⟨(by first | omega | (simp (disch := omega) only [↓i_in, ↓i_isCouple, ↓i_isBridge, ↓i_isTheme, ↓i_isBarge, i_lt, i_le, i_eq, i_clamp, i_upd, i_m1, Int32.toInt_toInt64, Int32.toInt_add, Int32.toInt_sub, Int32.toInt_mul, bm32, Int32.reduceToInt, Int64.reduceToInt, Nat.reduceLT, Nat.reduceEqDiff, reduceIte] <;> omega)), (by first | omega | (simp (disch := omega) only [↓i_in, ↓i_isCouple, ↓i_isBridge, ↓i_isTheme, ↓i_isBarge, i_lt, i_le, i_eq, i_clamp, i_upd, i_m1, Int32.toInt_toInt64, Int32.toInt_add, Int32.toInt_sub, Int32.toInt_mul, bm32, Int32.reduceToInt, Int64.reduceToInt, Nat.reduceLT, Nat.reduceEqDiff, reduceIte] <;> omega))⟩)
          · skip
            try simp (disch := omega) only [↓i_in, ↓i_isCouple, ↓i_isBridge, ↓i_isTheme, ↓i_isBarge, i_lt, i_le, i_eq, i_clamp, i_upd, i_m1, Int32.toInt_toInt64, Int32.toInt_add, Int32.toInt_sub, Int32.toInt_mul, bm32, Int32.reduceToInt, Int64.reduceToInt, Nat.reduceLT, Nat.reduceEqDiff, reduceIte] at c_6
            refine ⟨(s_whoIsAt h_0 (by first | omega | (simp (disch := omega) only [↓i_in, ↓i_isCouple, ↓i_isBridge, ↓i_isTheme, ↓i_isBarge, i_lt, i_le, i_eq, i_clamp, i_upd, i_m1, Int32.toInt_toInt64, Int32.toInt_add, Int32.toInt_sub, Int32.toInt_mul, bm32, Int32.reduceToInt, Int64.reduceToInt, Nat.reduceLT, Nat.reduceEqDiff, reduceIte] <;> omega)) (by first | omega | (simp (disch := omega) only [↓i_in, ↓i_isCouple, ↓i_isBridge, ↓i_isTheme, ↓i_isBarge, i_lt, i_le, i_eq, i_clamp, i_upd, i_m1, Int32.toInt_toInt64, Int32.toInt_add, Int32.toInt_sub, Int32.toInt_mul, bm32, Int32.reduceToInt, Int64.reduceToInt, Nat.reduceLT, Nat.reduceEqDiff, reduceIte] <;> omega))), ?_⟩
            have v_9 := p_whoIsAt (G := G) (f0 := f0) (h_ := 0) (b_ := w_11l6) h_0 (by first | omega | (simp (disch := omega) only [↓i_in, ↓i_isCouple, ↓i_isBridge, ↓i_isTheme, ↓i_isBarge, i_lt, i_le, i_eq, i_clamp, i_upd, i_m1, Int32.toInt_toInt64, Int32.toInt_add, Int32.toInt_sub, Int32.toInt_mul, bm32, Int32.reduceToInt, Int64.reduceToInt, Nat.reduceLT, Nat.reduceEqDiff, reduceIte] <;> omega)) (by first | omega | (simp (disch := omega) only [↓i_in, ↓i_isCouple, ↓i_isBridge, ↓i_isTheme, ↓i_isBarge, i_lt, i_le, i_eq, i_clamp, i_upd, i_m1, Int32.toInt_toInt64, Int32.toInt_add, Int32.toInt_sub, Int32.toInt_mul, bm32, Int32.reduceToInt, Int64.reduceToInt, Nat.reduceLT, Nat.reduceEqDiff, reduceIte] <;> omega))
            try simp (disch := omega) only [↓i_in, ↓i_isCouple, ↓i_isBridge, ↓i_isTheme, ↓i_isBarge, i_lt, i_le, i_eq, i_clamp, i_upd, i_m1, Int32.toInt_toInt64, Int32.toInt_add, Int32.toInt_sub, Int32.toInt_mul, bm32, Int32.reduceToInt, Int64.reduceToInt, Nat.reduceLT, Nat.reduceEqDiff, reduceIte] at v_9
            refine ⟨fun c_10 => ?_, fun c_10 => ?_⟩
            · skip
              try simp (disch := omega) only [↓i_in, ↓i_isCouple, ↓i_isBridge, ↓i_isTheme, ↓i_isBarge, i_lt, i_le, i_eq, i_clamp, i_upd, i_m1, Int32.toInt_toInt64, Int32.toInt_add, Int32.toInt_sub, Int32.toInt_mul, bm32, Int32.reduceToInt, Int64.reduceToInt, Nat.reduceLT, Nat.reduceEqDiff, reduceIte] at c_10
              exact ih (w_11l6 + 1) w_11l5 w_11l6 w_11l3 (⟨(by first | omega | (simp (disch := omega) only [↓i_in, ↓i_isCouple, ↓i_isBridge, ↓i_isTheme, ↓i_isBarge, i_lt, i_le, i_eq, i_clamp, i_upd, i_m1, Int32.toInt_toInt64, Int32.toInt_add, Int32.toInt_sub, Int32.toInt_mul, bm32, Int32.reduceToInt, Int64.reduceToInt, Nat.reduceLT, Nat.reduceEqDiff, reduceIte] <;> omega)), (by first | omega | (simp (disch := omega) only [↓i_in, ↓i_isCouple, ↓i_isBridge, ↓i_isTheme, ↓i_isBarge, i_lt, i_le, i_eq, i_clamp, i_upd, i_m1, Int32.toInt_toInt64, Int32.toInt_add, Int32.toInt_sub, Int32.toInt_mul, bm32, Int32.reduceToInt, Int64.reduceToInt, Nat.reduceLT, Nat.reduceEqDiff, reduceIte] <;> omega))⟩)
            · skip
              try simp (disch := omega) only [↓i_in, ↓i_isCouple, ↓i_isBridge, ↓i_isTheme, ↓i_isBarge, i_lt, i_le, i_eq, i_clamp, i_upd, i_m1, Int32.toInt_toInt64, Int32.toInt_add, Int32.toInt_sub, Int32.toInt_mul, bm32, Int32.reduceToInt, Int64.reduceToInt, Nat.reduceLT, Nat.reduceEqDiff, reduceIte] at c_10
              exact ih (w_11l6 + 1) w_11l5 w_11l6 (w_11l3 / 2) (⟨(by first | omega | (simp (disch := omega) only [↓i_in, ↓i_isCouple, ↓i_isBridge, ↓i_isTheme, ↓i_isBarge, i_lt, i_le, i_eq, i_clamp, i_upd, i_m1, Int32.toInt_toInt64, Int32.toInt_add, Int32.toInt_sub, Int32.toInt_mul, bm32, Int32.reduceToInt, Int64.reduceToInt, Nat.reduceLT, Nat.reduceEqDiff, reduceIte] <;> omega)), (by first | omega | (simp (disch := omega) only [↓i_in, ↓i_isCouple, ↓i_isBridge, ↓i_isTheme, ↓i_isBarge, i_lt, i_le, i_eq, i_clamp, i_upd, i_m1, Int32.toInt_toInt64, Int32.toInt_add, Int32.toInt_sub, Int32.toInt_mul, bm32, Int32.reduceToInt, Int64.reduceToInt, Nat.reduceLT, Nat.reduceEqDiff, reduceIte] <;> omega))⟩)
        · skip
          try simp (disch := omega) only [↓i_in, ↓i_isCouple, ↓i_isBridge, ↓i_isTheme, ↓i_isBarge, i_lt, i_le, i_eq, i_clamp, i_upd, i_m1, Int32.toInt_toInt64, Int32.toInt_add, Int32.toInt_sub, Int32.toInt_mul, bm32, Int32.reduceToInt, Int64.reduceToInt, Nat.reduceLT, Nat.reduceEqDiff, reduceIte] at c_5
          refine ⟨fun c_11 => ?_, fun c_11 => ?_⟩
          · skip
            try simp (disch := omega) only [↓i_in, ↓i_isCouple, ↓i_isBridge, ↓i_isTheme, ↓i_isBarge, i_lt, i_le, i_eq, i_clamp, i_upd, i_m1, Int32.toInt_toInt64, Int32.toInt_add, Int32.toInt_sub, Int32.toInt_mul, bm32, Int32.reduceToInt, Int64.reduceToInt, Nat.reduceLT, Nat.reduceEqDiff, reduceIte] at c_11
            refine ⟨(s_whoIsAt h_0 (by first | omega | (simp (disch := omega) only [↓i_in, ↓i_isCouple, ↓i_isBridge, ↓i_isTheme, ↓i_isBarge, i_lt, i_le, i_eq, i_clamp, i_upd, i_m1, Int32.toInt_toInt64, Int32.toInt_add, Int32.toInt_sub, Int32.toInt_mul, bm32, Int32.reduceToInt, Int64.reduceToInt, Nat.reduceLT, Nat.reduceEqDiff, reduceIte] <;> omega)) (by first | omega | (simp (disch := omega) only [↓i_in, ↓i_isCouple, ↓i_isBridge, ↓i_isTheme, ↓i_isBarge, i_lt, i_le, i_eq, i_clamp, i_upd, i_m1, Int32.toInt_toInt64, Int32.toInt_add, Int32.toInt_sub, Int32.toInt_mul, bm32, Int32.reduceToInt, Int64.reduceToInt, Nat.reduceLT, Nat.reduceEqDiff, reduceIte] <;> omega))), ?_⟩
            have v_12 := p_whoIsAt (G := G) (f0 := f0) (h_ := 0) (b_ := w_11l6) h_0 (by first | omega | (simp (disch := omega) only [↓i_in, ↓i_isCouple, ↓i_isBridge, ↓i_isTheme, ↓i_isBarge, i_lt, i_le, i_eq, i_clamp, i_upd, i_m1, Int32.toInt_toInt64, Int32.toInt_add, Int32.toInt_sub, Int32.toInt_mul, bm32, Int32.reduceToInt, Int64.reduceToInt, Nat.reduceLT, Nat.reduceEqDiff, reduceIte] <;> omega)) (by first | omega | (simp (disch := omega) only [↓i_in, ↓i_isCouple, ↓i_isBridge, ↓i_isTheme, ↓i_isBarge, i_lt, i_le, i_eq, i_clamp, i_upd, i_m1, Int32.toInt_toInt64, Int32.toInt_add, Int32.toInt_sub, Int32.toInt_mul, bm32, Int32.reduceToInt, Int64.reduceToInt, Nat.reduceLT, Nat.reduceEqDiff, reduceIte] <;> omega))
            try simp (disch := omega) only [↓i_in, ↓i_isCouple, ↓i_isBridge, ↓i_isTheme, ↓i_isBarge, i_lt, i_le, i_eq, i_clamp, i_upd, i_m1, Int32.toInt_toInt64, Int32.toInt_add, Int32.toInt_sub, Int32.toInt_mul, bm32, Int32.reduceToInt, Int64.reduceToInt, Nat.reduceLT, Nat.reduceEqDiff, reduceIte] at v_12
            refine ⟨fun c_13 => ?_, fun c_13 => ?_⟩
            · skip
              try simp (disch := omega) only [↓i_in, ↓i_isCouple, ↓i_isBridge, ↓i_isTheme, ↓i_isBarge, i_lt, i_le, i_eq, i_clamp, i_upd, i_m1, Int32.toInt_toInt64, Int32.toInt_add, Int32.toInt_sub, Int32.toInt_mul, bm32, Int32.reduceToInt, Int64.reduceToInt, Nat.reduceLT, Nat.reduceEqDiff, reduceIte] at c_13
              exact ih (w_11l6 + 1) w_11l3 w_11l4 w_11l3 (⟨(by first | omega | (simp (disch := omega) only [↓i_in, ↓i_isCouple, ↓i_isBridge, ↓i_isTheme, ↓i_isBarge, i_lt, i_le, i_eq, i_clamp, i_upd, i_m1, Int32.toInt_toInt64, Int32.toInt_add, Int32.toInt_sub, Int32.toInt_mul, bm32, Int32.reduceToInt, Int64.reduceToInt, Nat.reduceLT, Nat.reduceEqDiff, reduceIte] <;> omega)), (by first | omega | (simp (disch := omega) only [↓i_in, ↓i_isCouple, ↓i_isBridge, ↓i_isTheme, ↓i_isBarge, i_lt, i_le, i_eq, i_clamp, i_upd, i_m1, Int32.toInt_toInt64, Int32.toInt_add, Int32.toInt_sub, Int32.toInt_mul, bm32, Int32.reduceToInt, Int64.reduceToInt, Nat.reduceLT, Nat.reduceEqDiff, reduceIte] <;> omega))⟩)
            · skip
              try simp (disch := omega) only [↓i_in, ↓i_isCouple, ↓i_isBridge, ↓i_isTheme, ↓i_isBarge, i_lt, i_le, i_eq, i_clamp, i_upd, i_m1, Int32.toInt_toInt64, Int32.toInt_add, Int32.toInt_sub, Int32.toInt_mul, bm32, Int32.reduceToInt, Int64.reduceToInt, Nat.reduceLT, Nat.reduceEqDiff, reduceIte] at c_13
              exact ih (w_11l6 + 1) w_11l3 w_11l4 (w_11l3 / 2) (⟨(by first | omega | (simp (disch := omega) only [↓i_in, ↓i_isCouple, ↓i_isBridge, ↓i_isTheme, ↓i_isBarge, i_lt, i_le, i_eq, i_clamp, i_upd, i_m1, Int32.toInt_toInt64, Int32.toInt_add, Int32.toInt_sub, Int32.toInt_mul, bm32, Int32.reduceToInt, Int64.reduceToInt, Nat.reduceLT, Nat.reduceEqDiff, reduceIte] <;> omega)), (by first | omega | (simp (disch := omega) only [↓i_in, ↓i_isCouple, ↓i_isBridge, ↓i_isTheme, ↓i_isBarge, i_lt, i_le, i_eq, i_clamp, i_upd, i_m1, Int32.toInt_toInt64, Int32.toInt_add, Int32.toInt_sub, Int32.toInt_mul, bm32, Int32.reduceToInt, Int64.reduceToInt, Nat.reduceLT, Nat.reduceEqDiff, reduceIte] <;> omega))⟩)
          · skip
            try simp (disch := omega) only [↓i_in, ↓i_isCouple, ↓i_isBridge, ↓i_isTheme, ↓i_isBarge, i_lt, i_le, i_eq, i_clamp, i_upd, i_m1, Int32.toInt_toInt64, Int32.toInt_add, Int32.toInt_sub, Int32.toInt_mul, bm32, Int32.reduceToInt, Int64.reduceToInt, Nat.reduceLT, Nat.reduceEqDiff, reduceIte] at c_11
            refine ⟨(s_whoIsAt h_0 (by first | omega | (simp (disch := omega) only [↓i_in, ↓i_isCouple, ↓i_isBridge, ↓i_isTheme, ↓i_isBarge, i_lt, i_le, i_eq, i_clamp, i_upd, i_m1, Int32.toInt_toInt64, Int32.toInt_add, Int32.toInt_sub, Int32.toInt_mul, bm32, Int32.reduceToInt, Int64.reduceToInt, Nat.reduceLT, Nat.reduceEqDiff, reduceIte] <;> omega)) (by first | omega | (simp (disch := omega) only [↓i_in, ↓i_isCouple, ↓i_isBridge, ↓i_isTheme, ↓i_isBarge, i_lt, i_le, i_eq, i_clamp, i_upd, i_m1, Int32.toInt_toInt64, Int32.toInt_add, Int32.toInt_sub, Int32.toInt_mul, bm32, Int32.reduceToInt, Int64.reduceToInt, Nat.reduceLT, Nat.reduceEqDiff, reduceIte] <;> omega))), ?_⟩
            have v_14 := p_whoIsAt (G := G) (f0 := f0) (h_ := 0) (b_ := w_11l6) h_0 (by first | omega | (simp (disch := omega) only [↓i_in, ↓i_isCouple, ↓i_isBridge, ↓i_isTheme, ↓i_isBarge, i_lt, i_le, i_eq, i_clamp, i_upd, i_m1, Int32.toInt_toInt64, Int32.toInt_add, Int32.toInt_sub, Int32.toInt_mul, bm32, Int32.reduceToInt, Int64.reduceToInt, Nat.reduceLT, Nat.reduceEqDiff, reduceIte] <;> omega)) (by first | omega | (simp (disch := omega) only [↓i_in, ↓i_isCouple, ↓i_isBridge, ↓i_isTheme, ↓i_isBarge, i_lt, i_le, i_eq, i_clamp, i_upd, i_m1, Int32.toInt_toInt64, Int32.toInt_add, Int32.toInt_sub, Int32.toInt_mul, bm32, Int32.reduceToInt, Int64.reduceToInt, Nat.reduceLT, Nat.reduceEqDiff, reduceIte] <;> omega))
            try simp (disch := omega) only [↓i_in, ↓i_isCouple, ↓i_isBridge, ↓i_isTheme, ↓i_isBarge, i_lt, i_le, i_eq, i_clamp, i_upd, i_m1, Int32.toInt_toInt64, Int32.toInt_add, Int32.toInt_sub, Int32.toInt_mul, bm32, Int32.reduceToInt, Int64.reduceToInt, Nat.reduceLT, Nat.reduceEqDiff, reduceIte] at v_14
            refine ⟨fun c_15 => ?_, fun c_15 => ?_⟩
            · skip
              try simp (disch := omega) only [↓i_in, ↓i_isCouple, ↓i_isBridge, ↓i_isTheme, ↓i_isBarge, i_lt, i_le, i_eq, i_clamp, i_upd, i_m1, Int32.toInt_toInt64, Int32.toInt_add, Int32.toInt_sub, Int32.toInt_mul, bm32, Int32.reduceToInt, Int64.reduceToInt, Nat.reduceLT, Nat.reduceEqDiff, reduceIte] at c_15
              exact ih (w_11l6 + 1) w_11l5 w_11l4 w_11l3 (⟨(by first | omega | (simp (disch := omega) only [↓i_in, ↓i_isCouple, ↓i_isBridge, ↓i_isTheme, ↓i_isBarge, i_lt, i_le, i_eq, i_clamp, i_upd, i_m1, Int32.toInt_toInt64, Int32.toInt_add, Int32.toInt_sub, Int32.toInt_mul, bm32, Int32.reduceToInt, Int64.reduceToInt, Nat.reduceLT, Nat.reduceEqDiff, reduceIte] <;> omega)), (by first | omega | (simp (disch := omega) only [↓i_in, ↓i_isCouple, ↓i_isBridge, ↓i_isTheme, ↓i_isBarge, i_lt, i_le, i_eq, i_clamp, i_upd, i_m1, Int32.toInt_toInt64, Int32.toInt_add, Int32.toInt_sub, Int32.toInt_mul, bm32, Int32.reduceToInt, Int64.reduceToInt, Nat.reduceLT, Nat.reduceEqDiff, reduceIte] <;> omega))⟩)
            · skip
              try simp (disch := omega) only [↓i_in, ↓i_isCouple, ↓i_isBridge, ↓i_isTheme, ↓i_isBarge, i_lt, i_le, i_eq, i_clamp, i_upd, i_m1, Int32.toInt_toInt64, Int32.toInt_add, Int32.toInt_sub, Int32.toInt_mul, bm32, Int32.reduceToInt, Int64.reduceToInt, Nat.reduceLT, Nat.reduceEqDiff, reduceIte] at c_15
              exact ih (w_11l6 + 1) w_11l5 w_11l4 (w_11l3 / 2) (⟨(by first | omega | (simp (disch := omega) only [↓i_in, ↓i_isCouple, ↓i_isBridge, ↓i_isTheme, ↓i_isBarge, i_lt, i_le, i_eq, i_clamp, i_upd, i_m1, Int32.toInt_toInt64, Int32.toInt_add, Int32.toInt_sub, Int32.toInt_mul, bm32, Int32.reduceToInt, Int64.reduceToInt, Nat.reduceLT, Nat.reduceEqDiff, reduceIte] <;> omega)), (by first | omega | (simp (disch := omega) only [↓i_in, ↓i_isCouple, ↓i_isBridge, ↓i_isTheme, ↓i_isBarge, i_lt, i_le, i_eq, i_clamp, i_upd, i_m1, Int32.toInt_toInt64, Int32.toInt_add, Int32.toInt_sub, Int32.toInt_mul, bm32, Int32.reduceToInt, Int64.reduceToInt, Nat.reduceLT, Nat.reduceEqDiff, reduceIte] <;> omega))⟩)
      · skip
        try simp (disch := omega) only [↓i_in, ↓i_isCouple, ↓i_isBridge, ↓i_isTheme, ↓i_isBarge, i_lt, i_le, i_eq, i_clamp, i_upd, i_m1, Int32.toInt_toInt64, Int32.toInt_add, Int32.toInt_sub, Int32.toInt_mul, bm32, Int32.reduceToInt, Int64.reduceToInt, Nat.reduceLT, Nat.reduceEqDiff, reduceIte] at c_4
        refine ⟨fun c_16 => ?_, fun c_16 => ?_⟩
        · skip
          try simp (disch := omega) only [↓i_in, ↓i_isCouple, ↓i_isBridge, ↓i_isTheme, ↓i_isBarge, i_lt, i_le, i_eq, i_clamp, i_upd, i_m1, Int32.toInt_toInt64, Int32.toInt_add, Int32.toInt_sub, Int32.toInt_mul, bm32, Int32.reduceToInt, Int64.reduceToInt, Nat.reduceLT, Nat.reduceEqDiff, reduceIte] at c_16
          refine ⟨(s_whoIsAt h_0 (by first | omega | (simp (disch := omega) only [↓i_in, ↓i_isCouple, ↓i_isBridge, ↓i_isTheme, ↓i_isBarge, i_lt, i_le, i_eq, i_clamp, i_upd, i_m1, Int32.toInt_toInt64, Int32.toInt_add, Int32.toInt_sub, Int32.toInt_mul, bm32, Int32.reduceToInt, Int64.reduceToInt, Nat.reduceLT, Nat.reduceEqDiff, reduceIte] <;> omega)) (by first | omega | (simp (disch := omega) only [↓i_in, ↓i_isCouple, ↓i_isBridge, ↓i_isTheme, ↓i_isBarge, i_lt, i_le, i_eq, i_clamp, i_upd, i_m1, Int32.toInt_toInt64, Int32.toInt_add, Int32.toInt_sub, Int32.toInt_mul, bm32, Int32.reduceToInt, Int64.reduceToInt, Nat.reduceLT, Nat.reduceEqDiff, reduceIte] <;> omega))), ?_⟩
          have v_17 := p_whoIsAt (G := G) (f0 := f0) (h_ := 0) (b_ := w_11l6) h_0 (by first | omega | (simp (disch := omega) only [↓i_in, ↓i_isCouple, ↓i_isBridge, ↓i_isTheme, ↓i_isBarge, i_lt, i_le, i_eq, i_clamp, i_upd, i_m1, Int32.toInt_toInt64, Int32.toInt_add, Int32.toInt_sub, Int32.toInt_mul, bm32, Int32.reduceToInt, Int64.reduceToInt, Nat.reduceLT, Nat.reduceEqDiff, reduceIte] <;> omega)) (by first | omega | (simp (disch := omega) only [↓i_in, ↓i_isCouple, ↓i_isBridge, ↓i_isTheme, ↓i_isBarge, i_lt, i_le, i_eq, i_clamp, i_upd, i_m1, Int32.toInt_toInt64, Int32.toInt_add, Int32.toInt_sub, Int32.toInt_mul, bm32, Int32.reduceToInt, Int64.reduceToInt, Nat.reduceLT, Nat.reduceEqDiff, reduceIte] <;> omega))
          try simp (disch := omega) only [↓i_in, ↓i_isCouple, ↓i_isBridge, ↓i_isTheme, ↓i_isBarge, i_lt, i_le, i_eq, i_clamp, i_upd, i_m1, Int32.toInt_toInt64, Int32.toInt_add, Int32.toInt_sub, Int32.toInt_mul, bm32, Int32.reduceToInt, Int64.reduceToInt, Nat.reduceLT, Nat.reduceEqDiff, reduceIte] at v_17
          refine ⟨fun c_18 => ?_, fun c_18 => ?_⟩
          · skip
            try simp (disch := omega) only [↓i_in, ↓i_isCouple, ↓i_isBridge, ↓i_isTheme, ↓i_isBarge, i_lt, i_le, i_eq, i_clamp, i_upd, i_m1, Int32.toInt_toInt64, Int32.toInt_add, Int32.toInt_sub, Int32.toInt_mul, bm32, Int32.reduceToInt, Int64.reduceToInt, Nat.reduceLT, Nat.reduceEqDiff, reduceIte] at c_18
            exact ih (w_11l6 + 1) w_11l3 w_11l4 w_11l3 (⟨(by first | omega | (simp (disch := omega) only [↓i_in, ↓i_isCouple, ↓i_isBridge, ↓i_isTheme, ↓i_isBarge, i_lt, i_le, i_eq, i_clamp, i_upd, i_m1, Int32.toInt_toInt64, Int32.toInt_add, Int32.toInt_sub, Int32.toInt_mul, bm32, Int32.reduceToInt, Int64.reduceToInt, Nat.reduceLT, Nat.reduceEqDiff, reduceIte] <;> omega)), (by first | omega | (simp (disch := omega) only [↓i_in, ↓i_isCouple, ↓i_isBridge, ↓i_isTheme, ↓i_isBarge, i_lt, i_le, i_eq, i_clamp, i_upd, i_m1, Int32.toInt_toInt64, Int32.toInt_add, Int32.toInt_sub, Int32.toInt_mul, bm32, Int32.reduceToInt, Int64.reduceToInt, Nat.reduceLT, Nat.reduceEqDiff, reduceIte] <;> omega))⟩)
          · skip
            try simp (disch := omega) only [↓i_in, ↓i_isCouple, ↓i_isBridge, ↓i_isTheme, ↓i_isBarge, i_lt, i_le, i_eq, i_clamp, i_upd, i_m1, Int32.toInt_toInt64, Int32.toInt_add, Int32.toInt_sub, Int32.toInt_mul, bm32, Int32.reduceToInt, Int64.reduceToInt, Nat.reduceLT, Nat.reduceEqDiff, reduceIte] at c_18
            exact ih (w_11l6 + 1) w_11l3 w_11l4 (w_11l3 / 2) (⟨(by first | omega | (simp (disch := omega) only [↓i_in, ↓i_isCouple, ↓i_isBridge, ↓i_isTheme, ↓i_isBarge, i_lt, i_le, i_eq, i_clamp, i_upd, i_m1, Int32.toInt_toInt64, Int32.toInt_add, Int32.toInt_sub, Int32.toInt_mul, bm32, Int32.reduceToInt, Int64.reduceToInt, Nat.reduceLT, Nat.reduceEqDiff, reduceIte] <;> omega)), (by first | omega | (simp (disch := omega) only [↓i_in, ↓i_isCouple, ↓i_isBridge, ↓i_isTheme, ↓i_isBarge, i_lt, i_le, i_eq, i_clamp, i_upd, i_m1, Int32.toInt_toInt64, Int32.toInt_add, Int32.toInt_sub, Int32.toInt_mul, bm32, Int32.reduceToInt, Int64.reduceToInt, Nat.reduceLT, Nat.reduceEqDiff, reduceIte] <;> omega))⟩)
        · skip
          try simp (disch := omega) only [↓i_in, ↓i_isCouple, ↓i_isBridge, ↓i_isTheme, ↓i_isBarge, i_lt, i_le, i_eq, i_clamp, i_upd, i_m1, Int32.toInt_toInt64, Int32.toInt_add, Int32.toInt_sub, Int32.toInt_mul, bm32, Int32.reduceToInt, Int64.reduceToInt, Nat.reduceLT, Nat.reduceEqDiff, reduceIte] at c_16
          refine ⟨(s_whoIsAt h_0 (by first | omega | (simp (disch := omega) only [↓i_in, ↓i_isCouple, ↓i_isBridge, ↓i_isTheme, ↓i_isBarge, i_lt, i_le, i_eq, i_clamp, i_upd, i_m1, Int32.toInt_toInt64, Int32.toInt_add, Int32.toInt_sub, Int32.toInt_mul, bm32, Int32.reduceToInt, Int64.reduceToInt, Nat.reduceLT, Nat.reduceEqDiff, reduceIte] <;> omega)) (by first | omega | (simp (disch := omega) only [↓i_in, ↓i_isCouple, ↓i_isBridge, ↓i_isTheme, ↓i_isBarge, i_lt, i_le, i_eq, i_clamp, i_upd, i_m1, Int32.toInt_toInt64, Int32.toInt_add, Int32.toInt_sub, Int32.toInt_mul, bm32, Int32.reduceToInt, Int64.reduceToInt, Nat.reduceLT, Nat.reduceEqDiff, reduceIte] <;> omega))), ?_⟩
          have v_19 := p_whoIsAt (G := G) (f0 := f0) (h_ := 0) (b_ := w_11l6) h_0 (by first | omega | (simp (disch := omega) only [↓i_in, ↓i_isCouple, ↓i_isBridge, ↓i_isTheme, ↓i_isBarge, i_lt, i_le, i_eq, i_clamp, i_upd, i_m1, Int32.toInt_toInt64, Int32.toInt_add, Int32.toInt_sub, Int32.toInt_mul, bm32, Int32.reduceToInt, Int64.reduceToInt, Nat.reduceLT, Nat.reduceEqDiff, reduceIte] <;> omega)) (by first | omega | (simp (disch := omega) only [↓i_in, ↓i_isCouple, ↓i_isBridge, ↓i_isTheme, ↓i_isBarge, i_lt, i_le, i_eq, i_clamp, i_upd, i_m1, Int32.toInt_toInt64, Int32.toInt_add, Int32.toInt_sub, Int32.toInt_mul, bm32, Int32.reduceToInt, Int64.reduceToInt, Nat.reduceLT, Nat.reduceEqDiff, reduceIte] <;> omega))
          try simp (disch := omega) only [↓i_in, ↓i_isCouple, ↓i_isBridge, ↓i_isTheme, ↓i_isBarge, i_lt, i_le, i_eq, i_clamp, i_upd, i_m1, Int32.toInt_toInt64, Int32.toInt_add, Int32.toInt_sub, Int32.toInt_mul, bm32, Int32.reduceToInt, Int64.reduceToInt, Nat.reduceLT, Nat.reduceEqDiff, reduceIte] at v_19
          refine ⟨fun c_20 => ?_, fun c_20 => ?_⟩
          · skip
            try simp (disch := omega) only [↓i_in, ↓i_isCouple, ↓i_isBridge, ↓i_isTheme, ↓i_isBarge, i_lt, i_le, i_eq, i_clamp, i_upd, i_m1, Int32.toInt_toInt64, Int32.toInt_add, Int32.toInt_sub, Int32.toInt_mul, bm32, Int32.reduceToInt, Int64.reduceToInt, Nat.reduceLT, Nat.reduceEqDiff, reduceIte] at c_20
            exact ih (w_11l6 + 1) w_11l5 w_11l4 w_11l3 (⟨(by first | omega | (simp (disch := omega) only [↓i_in, ↓i_isCouple, ↓i_isBridge, ↓i_isTheme, ↓i_isBarge, i_lt, i_le, i_eq, i_clamp, i_upd, i_m1, Int32.toInt_toInt64, Int32.toInt_add, Int32.toInt_sub, Int32.toInt_mul, bm32, Int32.reduceToInt, Int64.reduceToInt, Nat.reduceLT, Nat.reduceEqDiff, reduceIte] <;> omega)), (by first | omega | (simp (disch := omega) only [↓i_in, ↓i_isCouple, ↓i_isBridge, ↓i_isTheme, ↓i_isBarge, i_lt, i_le, i_eq, i_clamp, i_upd, i_m1, Int32.toInt_toInt64, Int32.toInt_add, Int32.toInt_sub, Int32.toInt_mul, bm32, Int32.reduceToInt, Int64.reduceToInt, Nat.reduceLT, Nat.reduceEqDiff, reduceIte] <;> omega))⟩)
          · skip
            try simp (disch := omega) only [↓i_in, ↓i_isCouple, ↓i_isBridge, ↓i_isTheme, ↓i_isBarge, i_lt, i_le, i_eq, i_clamp, i_upd, i_m1, Int32.toInt_toInt64, Int32.toInt_add, Int32.toInt_sub, Int32.toInt_mul, bm32, Int32.reduceToInt, Int64.reduceToInt, Nat.reduceLT, Nat.reduceEqDiff, reduceIte] at c_20
            exact ih (w_11l6 + 1) w_11l5 w_11l4 (w_11l3 / 2) (⟨(by first | omega | (simp (disch := omega) only [↓i_in, ↓i_isCouple, ↓i_isBridge, ↓i_isTheme, ↓i_isBarge, i_lt, i_le, i_eq, i_clamp, i_upd, i_m1, Int32.toInt_toInt64, Int32.toInt_add, Int32.toInt_sub, Int32.toInt_mul, bm32, Int32.reduceToInt, Int64.reduceToInt, Nat.reduceLT, Nat.reduceEqDiff, reduceIte] <;> omega)), (by first | omega | (simp (disch := omega) only [↓i_in, ↓i_isCouple, ↓i_isBridge, ↓i_isTheme, ↓i_isBarge, i_lt, i_le, i_eq, i_clamp, i_upd, i_m1, Int32.toInt_toInt64, Int32.toInt_add, Int32.toInt_sub, Int32.toInt_mul, bm32, Int32.reduceToInt, Int64.reduceToInt, Nat.reduceLT, Nat.reduceEqDiff, reduceIte] <;> omega))⟩)
set_option maxHeartbeats 4000000 in
theorem s_carried {G : Nat → Int32} {f0 : Nat → Int32} {f10 : Nat → Int32} {b_ : Int32} (h_0 : GI G) (h_1 : WI f0) : S_m_carried G f0 f10 b_ := by
  unfold S_m_carried
  have h_0_g := h_0
  obtain ⟨⟨h_0_2a, h_0_2b⟩, ⟨h_0_3a, h_0_3b⟩, ⟨h_0_4a, h_0_4b⟩, ⟨h_0_5a, h_0_5b⟩, ⟨h_0_6a, h_0_6b⟩, ⟨h_0_14a, h_0_14b⟩, ⟨h_0_42a, h_0_42b⟩⟩ := h_0_g
  refine ⟨fun c_1 => ?_, fun c_1 => ?_⟩
  · skip
    try simp (disch := omega) only [↓i_in, ↓i_isCouple, ↓i_isBridge, ↓i_isTheme, ↓i_isBarge, i_lt, i_le, i_eq, i_clamp, i_upd, i_m1, Int32.toInt_toInt64, Int32.toInt_add, Int32.toInt_sub, Int32.toInt_mul, bm32, Int32.reduceToInt, Int64.reduceToInt, Nat.reduceLT, Nat.reduceEqDiff, reduceIte] at c_1
    refine ⟨(s_whoIsAt h_0 (by first | omega | (simp (disch := omega) only [↓i_in, ↓i_isCouple, ↓i_isBridge, ↓i_isTheme, ↓i_isBarge, i_lt, i_le, i_eq, i_clamp, i_upd, i_m1, Int32.toInt_toInt64, Int32.toInt_add, Int32.toInt_sub, Int32.toInt_mul, bm32, Int32.reduceToInt, Int64.reduceToInt, Nat.reduceLT, Nat.reduceEqDiff, reduceIte] <;> omega)) (by first | omega | (simp (disch := omega) only [↓i_in, ↓i_isCouple, ↓i_isBridge, ↓i_isTheme, ↓i_isBarge, i_lt, i_le, i_eq, i_clamp, i_upd, i_m1, Int32.toInt_toInt64, Int32.toInt_add, Int32.toInt_sub, Int32.toInt_mul, bm32, Int32.reduceToInt, Int64.reduceToInt, Nat.reduceLT, Nat.reduceEqDiff, reduceIte] <;> omega))), ?_⟩
    have v_2 := p_whoIsAt (G := G) (f0 := f0) (h_ := 0) (b_ := 0) h_0 (by first | omega | (simp (disch := omega) only [↓i_in, ↓i_isCouple, ↓i_isBridge, ↓i_isTheme, ↓i_isBarge, i_lt, i_le, i_eq, i_clamp, i_upd, i_m1, Int32.toInt_toInt64, Int32.toInt_add, Int32.toInt_sub, Int32.toInt_mul, bm32, Int32.reduceToInt, Int64.reduceToInt, Nat.reduceLT, Nat.reduceEqDiff, reduceIte] <;> omega)) (by first | omega | (simp (disch := omega) only [↓i_in, ↓i_isCouple, ↓i_isBridge, ↓i_isTheme, ↓i_isBarge, i_lt, i_le, i_eq, i_clamp, i_upd, i_m1, Int32.toInt_toInt64, Int32.toInt_add, Int32.toInt_sub, Int32.toInt_mul, bm32, Int32.reduceToInt, Int64.reduceToInt, Nat.reduceLT, Nat.reduceEqDiff, reduceIte] <;> omega))
    try simp (disch := omega) only [↓i_in, ↓i_isCouple, ↓i_isBridge, ↓i_isTheme, ↓i_isBarge, i_lt, i_le, i_eq, i_clamp, i_upd, i_m1, Int32.toInt_toInt64, Int32.toInt_add, Int32.toInt_sub, Int32.toInt_mul, bm32, Int32.reduceToInt, Int64.reduceToInt, Nat.reduceLT, Nat.reduceEqDiff, reduceIte] at v_2
    refine ⟨fun c_3 => ?_, fun c_3 => ?_⟩
    · exact trivial
    · skip
      try simp (disch := omega) only [↓i_in, ↓i_isCouple, ↓i_isBridge, ↓i_isTheme, ↓i_isBarge, i_lt, i_le, i_eq, i_clamp, i_upd, i_m1, Int32.toInt_toInt64, Int32.toInt_add, Int32.toInt_sub, Int32.toInt_mul, bm32, Int32.reduceToInt, Int64.reduceToInt, Nat.reduceLT, Nat.reduceEqDiff, reduceIte] at c_3
      refine ⟨vp_in_iff.mpr (by first | omega | (simp (disch := omega) only [↓i_in, ↓i_isCouple, ↓i_isBridge, ↓i_isTheme, ↓i_isBarge, i_lt, i_le, i_eq, i_clamp, i_upd, i_m1, Int32.toInt_toInt64, Int32.toInt_add, Int32.toInt_sub, Int32.toInt_mul, bm32, Int32.reduceToInt, Int64.reduceToInt, Nat.reduceLT, Nat.reduceEqDiff, reduceIte] <;> omega)), ?_⟩
      refine ⟨vp_in_iff.mpr (by first | omega | (simp (disch := omega) only [↓i_in, ↓i_isCouple, ↓i_isBridge, ↓i_isTheme, ↓i_isBarge, i_lt, i_le, i_eq, i_clamp, i_upd, i_m1, Int32.toInt_toInt64, Int32.toInt_add, Int32.toInt_sub, Int32.toInt_mul, bm32, Int32.reduceToInt, Int64.reduceToInt, Nat.reduceLT, Nat.reduceEqDiff, reduceIte] <;> omega)), ?_⟩
      have th_4 := (h_1 ((12 + (f_m_whoIsAt G f0 0 0)) : Int32).toNatClampNeg).1 (by first | omega | (simp (disch := omega) only [↓i_in, ↓i_isCouple, ↓i_isBridge, ↓i_isTheme, ↓i_isBarge, i_lt, i_le, i_eq, i_clamp, i_upd, i_m1, Int32.toInt_toInt64, Int32.toInt_add, Int32.toInt_sub, Int32.toInt_mul, bm32, Int32.reduceToInt, Int64.reduceToInt, Nat.reduceLT, Nat.reduceEqDiff, reduceIte] <;> omega))
      try simp (disch := omega) only [↓i_in, ↓i_isCouple, ↓i_isBridge, ↓i_isTheme, ↓i_isBarge, i_lt, i_le, i_eq, i_clamp, i_upd, i_m1, Int32.toInt_toInt64, Int32.toInt_add, Int32.toInt_sub, Int32.toInt_mul, bm32, Int32.reduceToInt, Int64.reduceToInt, Nat.reduceLT, Nat.reduceEqDiff, reduceIte] at th_4
      refine ⟨(s_stampOf (by first | omega | (simp (disch := omega) only [↓i_in, ↓i_isCouple, ↓i_isBridge, ↓i_isTheme, ↓i_isBarge, i_lt, i_le, i_eq, i_clamp, i_upd, i_m1, Int32.toInt_toInt64, Int32.toInt_add, Int32.toInt_sub, Int32.toInt_mul, bm32, Int32.reduceToInt, Int64.reduceToInt, Nat.reduceLT, Nat.reduceEqDiff, reduceIte] <;> omega)) (by first | omega | (simp (disch := omega) only [↓i_in, ↓i_isCouple, ↓i_isBridge, ↓i_isTheme, ↓i_isBarge, i_lt, i_le, i_eq, i_clamp, i_upd, i_m1, Int32.toInt_toInt64, Int32.toInt_add, Int32.toInt_sub, Int32.toInt_mul, bm32, Int32.reduceToInt, Int64.reduceToInt, Nat.reduceLT, Nat.reduceEqDiff, reduceIte] <;> omega)) (by first | omega | (simp (disch := omega) only [↓i_in, ↓i_isCouple, ↓i_isBridge, ↓i_isTheme, ↓i_isBarge, i_lt, i_le, i_eq, i_clamp, i_upd, i_m1, Int32.toInt_toInt64, Int32.toInt_add, Int32.toInt_sub, Int32.toInt_mul, bm32, Int32.reduceToInt, Int64.reduceToInt, Nat.reduceLT, Nat.reduceEqDiff, reduceIte] <;> omega)) (by first | omega | (simp (disch := omega) only [↓i_in, ↓i_isCouple, ↓i_isBridge, ↓i_isTheme, ↓i_isBarge, i_lt, i_le, i_eq, i_clamp, i_upd, i_m1, Int32.toInt_toInt64, Int32.toInt_add, Int32.toInt_sub, Int32.toInt_mul, bm32, Int32.reduceToInt, Int64.reduceToInt, Nat.reduceLT, Nat.reduceEqDiff, reduceIte] <;> omega))), ?_⟩
      have v_5 := p_stampOf (G := G) (f10 := f10) (c_ := (f_m_whoIsAt G f0 0 0)) (t_ := (f0 ((12 + (f_m_whoIsAt G f0 0 0)) : Int32).toNatClampNeg)) (from_ := (f0 ((0 + (f_m_whoIsAt G f0 0 0)) : Int32).toNatClampNeg))
      try simp (disch := omega) only [↓i_in, ↓i_isCouple, ↓i_isBridge, ↓i_isTheme, ↓i_isBarge, i_lt, i_le, i_eq, i_clamp, i_upd, i_m1, Int32.toInt_toInt64, Int32.toInt_add, Int32.toInt_sub, Int32.toInt_mul, bm32, Int32.reduceToInt, Int64.reduceToInt, Nat.reduceLT, Nat.reduceEqDiff, reduceIte] at v_5
      refine sl_carried_63 h_0 ?_ ((((G 3) : Int32).toInt - (1 : Int32).toInt).toNat + 1) 1 0 (-1) (f_m_stampOf G f10 (f_m_whoIsAt G f0 0 0) (f0 ((12 + (f_m_whoIsAt G f0 0 0)) : Int32).toNatClampNeg) (f0 ((0 + (f_m_whoIsAt G f0 0 0)) : Int32).toNatClampNeg)) (⟨(by first | omega | (simp (disch := omega) only [↓i_in, ↓i_isCouple, ↓i_isBridge, ↓i_isTheme, ↓i_isBarge, i_lt, i_le, i_eq, i_clamp, i_upd, i_m1, Int32.toInt_toInt64, Int32.toInt_add, Int32.toInt_sub, Int32.toInt_mul, bm32, Int32.reduceToInt, Int64.reduceToInt, Nat.reduceLT, Nat.reduceEqDiff, reduceIte] <;> omega)), (by first | omega | (simp (disch := omega) only [↓i_in, ↓i_isCouple, ↓i_isBridge, ↓i_isTheme, ↓i_isBarge, i_lt, i_le, i_eq, i_clamp, i_upd, i_m1, Int32.toInt_toInt64, Int32.toInt_add, Int32.toInt_sub, Int32.toInt_mul, bm32, Int32.reduceToInt, Int64.reduceToInt, Nat.reduceLT, Nat.reduceEqDiff, reduceIte] <;> omega))⟩)
      intro w_11l6 w_11l5 w_11l4 w_11l3 i_6
      obtain ⟨i_7, i_8⟩ := i_6
      refine ⟨fun c_9 => ?_, fun c_9 => ?_⟩
      · exact trivial
      · exact trivial
  · skip
    try simp (disch := omega) only [↓i_in, ↓i_isCouple, ↓i_isBridge, ↓i_isTheme, ↓i_isBarge, i_lt, i_le, i_eq, i_clamp, i_upd, i_m1, Int32.toInt_toInt64, Int32.toInt_add, Int32.toInt_sub, Int32.toInt_mul, bm32, Int32.reduceToInt, Int64.reduceToInt, Nat.reduceLT, Nat.reduceEqDiff, reduceIte] at c_1
    refine ⟨s_isBridge, ?_⟩
    refine ⟨fun c_10 => ?_, fun c_10 => ?_⟩
    · exact trivial
    · skip
      try simp (disch := omega) only [↓i_in, ↓i_isCouple, ↓i_isBridge, ↓i_isTheme, ↓i_isBarge, i_lt, i_le, i_eq, i_clamp, i_upd, i_m1, Int32.toInt_toInt64, Int32.toInt_add, Int32.toInt_sub, Int32.toInt_mul, bm32, Int32.reduceToInt, Int64.reduceToInt, Nat.reduceLT, Nat.reduceEqDiff, reduceIte] at c_10
      refine ⟨(s_whoIsAt h_0 (by first | omega | (simp (disch := omega) only [↓i_in, ↓i_isCouple, ↓i_isBridge, ↓i_isTheme, ↓i_isBarge, i_lt, i_le, i_eq, i_clamp, i_upd, i_m1, Int32.toInt_toInt64, Int32.toInt_add, Int32.toInt_sub, Int32.toInt_mul, bm32, Int32.reduceToInt, Int64.reduceToInt, Nat.reduceLT, Nat.reduceEqDiff, reduceIte] <;> omega)) (by first | omega | (simp (disch := omega) only [↓i_in, ↓i_isCouple, ↓i_isBridge, ↓i_isTheme, ↓i_isBarge, i_lt, i_le, i_eq, i_clamp, i_upd, i_m1, Int32.toInt_toInt64, Int32.toInt_add, Int32.toInt_sub, Int32.toInt_mul, bm32, Int32.reduceToInt, Int64.reduceToInt, Nat.reduceLT, Nat.reduceEqDiff, reduceIte] <;> omega))), ?_⟩
      have v_11 := p_whoIsAt (G := G) (f0 := f0) (h_ := 0) (b_ := 0) h_0 (by first | omega | (simp (disch := omega) only [↓i_in, ↓i_isCouple, ↓i_isBridge, ↓i_isTheme, ↓i_isBarge, i_lt, i_le, i_eq, i_clamp, i_upd, i_m1, Int32.toInt_toInt64, Int32.toInt_add, Int32.toInt_sub, Int32.toInt_mul, bm32, Int32.reduceToInt, Int64.reduceToInt, Nat.reduceLT, Nat.reduceEqDiff, reduceIte] <;> omega)) (by first | omega | (simp (disch := omega) only [↓i_in, ↓i_isCouple, ↓i_isBridge, ↓i_isTheme, ↓i_isBarge, i_lt, i_le, i_eq, i_clamp, i_upd, i_m1, Int32.toInt_toInt64, Int32.toInt_add, Int32.toInt_sub, Int32.toInt_mul, bm32, Int32.reduceToInt, Int64.reduceToInt, Nat.reduceLT, Nat.reduceEqDiff, reduceIte] <;> omega))
      try simp (disch := omega) only [↓i_in, ↓i_isCouple, ↓i_isBridge, ↓i_isTheme, ↓i_isBarge, i_lt, i_le, i_eq, i_clamp, i_upd, i_m1, Int32.toInt_toInt64, Int32.toInt_add, Int32.toInt_sub, Int32.toInt_mul, bm32, Int32.reduceToInt, Int64.reduceToInt, Nat.reduceLT, Nat.reduceEqDiff, reduceIte] at v_11
      refine ⟨fun c_12 => ?_, fun c_12 => ?_⟩
      · exact trivial
      · skip
        try simp (disch := omega) only [↓i_in, ↓i_isCouple, ↓i_isBridge, ↓i_isTheme, ↓i_isBarge, i_lt, i_le, i_eq, i_clamp, i_upd, i_m1, Int32.toInt_toInt64, Int32.toInt_add, Int32.toInt_sub, Int32.toInt_mul, bm32, Int32.reduceToInt, Int64.reduceToInt, Nat.reduceLT, Nat.reduceEqDiff, reduceIte] at c_12
        refine ⟨vp_in_iff.mpr (by first | omega | (simp (disch := omega) only [↓i_in, ↓i_isCouple, ↓i_isBridge, ↓i_isTheme, ↓i_isBarge, i_lt, i_le, i_eq, i_clamp, i_upd, i_m1, Int32.toInt_toInt64, Int32.toInt_add, Int32.toInt_sub, Int32.toInt_mul, bm32, Int32.reduceToInt, Int64.reduceToInt, Nat.reduceLT, Nat.reduceEqDiff, reduceIte] <;> omega)), ?_⟩
        refine ⟨vp_in_iff.mpr (by first | omega | (simp (disch := omega) only [↓i_in, ↓i_isCouple, ↓i_isBridge, ↓i_isTheme, ↓i_isBarge, i_lt, i_le, i_eq, i_clamp, i_upd, i_m1, Int32.toInt_toInt64, Int32.toInt_add, Int32.toInt_sub, Int32.toInt_mul, bm32, Int32.reduceToInt, Int64.reduceToInt, Nat.reduceLT, Nat.reduceEqDiff, reduceIte] <;> omega)), ?_⟩
        have th_13 := (h_1 ((12 + (f_m_whoIsAt G f0 0 0)) : Int32).toNatClampNeg).1 (by first | omega | (simp (disch := omega) only [↓i_in, ↓i_isCouple, ↓i_isBridge, ↓i_isTheme, ↓i_isBarge, i_lt, i_le, i_eq, i_clamp, i_upd, i_m1, Int32.toInt_toInt64, Int32.toInt_add, Int32.toInt_sub, Int32.toInt_mul, bm32, Int32.reduceToInt, Int64.reduceToInt, Nat.reduceLT, Nat.reduceEqDiff, reduceIte] <;> omega))
        try simp (disch := omega) only [↓i_in, ↓i_isCouple, ↓i_isBridge, ↓i_isTheme, ↓i_isBarge, i_lt, i_le, i_eq, i_clamp, i_upd, i_m1, Int32.toInt_toInt64, Int32.toInt_add, Int32.toInt_sub, Int32.toInt_mul, bm32, Int32.reduceToInt, Int64.reduceToInt, Nat.reduceLT, Nat.reduceEqDiff, reduceIte] at th_13
        refine ⟨(s_stampOf (by first | omega | (simp (disch := omega) only [↓i_in, ↓i_isCouple, ↓i_isBridge, ↓i_isTheme, ↓i_isBarge, i_lt, i_le, i_eq, i_clamp, i_upd, i_m1, Int32.toInt_toInt64, Int32.toInt_add, Int32.toInt_sub, Int32.toInt_mul, bm32, Int32.reduceToInt, Int64.reduceToInt, Nat.reduceLT, Nat.reduceEqDiff, reduceIte] <;> omega)) (by first | omega | (simp (disch := omega) only [↓i_in, ↓i_isCouple, ↓i_isBridge, ↓i_isTheme, ↓i_isBarge, i_lt, i_le, i_eq, i_clamp, i_upd, i_m1, Int32.toInt_toInt64, Int32.toInt_add, Int32.toInt_sub, Int32.toInt_mul, bm32, Int32.reduceToInt, Int64.reduceToInt, Nat.reduceLT, Nat.reduceEqDiff, reduceIte] <;> omega)) (by first | omega | (simp (disch := omega) only [↓i_in, ↓i_isCouple, ↓i_isBridge, ↓i_isTheme, ↓i_isBarge, i_lt, i_le, i_eq, i_clamp, i_upd, i_m1, Int32.toInt_toInt64, Int32.toInt_add, Int32.toInt_sub, Int32.toInt_mul, bm32, Int32.reduceToInt, Int64.reduceToInt, Nat.reduceLT, Nat.reduceEqDiff, reduceIte] <;> omega)) (by first | omega | (simp (disch := omega) only [↓i_in, ↓i_isCouple, ↓i_isBridge, ↓i_isTheme, ↓i_isBarge, i_lt, i_le, i_eq, i_clamp, i_upd, i_m1, Int32.toInt_toInt64, Int32.toInt_add, Int32.toInt_sub, Int32.toInt_mul, bm32, Int32.reduceToInt, Int64.reduceToInt, Nat.reduceLT, Nat.reduceEqDiff, reduceIte] <;> omega))), ?_⟩
        have v_14 := p_stampOf (G := G) (f10 := f10) (c_ := (f_m_whoIsAt G f0 0 0)) (t_ := (f0 ((12 + (f_m_whoIsAt G f0 0 0)) : Int32).toNatClampNeg)) (from_ := (f0 ((0 + (f_m_whoIsAt G f0 0 0)) : Int32).toNatClampNeg))
        try simp (disch := omega) only [↓i_in, ↓i_isCouple, ↓i_isBridge, ↓i_isTheme, ↓i_isBarge, i_lt, i_le, i_eq, i_clamp, i_upd, i_m1, Int32.toInt_toInt64, Int32.toInt_add, Int32.toInt_sub, Int32.toInt_mul, bm32, Int32.reduceToInt, Int64.reduceToInt, Nat.reduceLT, Nat.reduceEqDiff, reduceIte] at v_14
        refine sl_carried_63 h_0 ?_ ((((G 3) : Int32).toInt - (1 : Int32).toInt).toNat + 1) 1 0 (-1) (f_m_stampOf G f10 (f_m_whoIsAt G f0 0 0) (f0 ((12 + (f_m_whoIsAt G f0 0 0)) : Int32).toNatClampNeg) (f0 ((0 + (f_m_whoIsAt G f0 0 0)) : Int32).toNatClampNeg)) (⟨(by first | omega | (simp (disch := omega) only [↓i_in, ↓i_isCouple, ↓i_isBridge, ↓i_isTheme, ↓i_isBarge, i_lt, i_le, i_eq, i_clamp, i_upd, i_m1, Int32.toInt_toInt64, Int32.toInt_add, Int32.toInt_sub, Int32.toInt_mul, bm32, Int32.reduceToInt, Int64.reduceToInt, Nat.reduceLT, Nat.reduceEqDiff, reduceIte] <;> omega)), (by first | omega | (simp (disch := omega) only [↓i_in, ↓i_isCouple, ↓i_isBridge, ↓i_isTheme, ↓i_isBarge, i_lt, i_le, i_eq, i_clamp, i_upd, i_m1, Int32.toInt_toInt64, Int32.toInt_add, Int32.toInt_sub, Int32.toInt_mul, bm32, Int32.reduceToInt, Int64.reduceToInt, Nat.reduceLT, Nat.reduceEqDiff, reduceIte] <;> omega))⟩)
        intro w_56l6 w_56l5 w_56l4 w_56l3 i_15
        obtain ⟨i_16, i_17⟩ := i_15
        refine ⟨fun c_18 => ?_, fun c_18 => ?_⟩
        · exact trivial
        · exact trivial
set_option maxHeartbeats 4000000 in
theorem sl_midstream_74 {n_ : Int32} {K : Int32 → Int64 → Int32 → Prop} (hK : ∀ w_15l7 w_15l5 w_15l4, True → K w_15l7 w_15l5 w_15l4) : ∀ (n : Nat) w_15l7 w_15l5 w_15l4, True → S_m_midstream_74 n_ K n w_15l7 w_15l5 w_15l4 := by
  intro n
  induction n with
  | zero => intro w_15l7 w_15l5 w_15l4 hI; exact trivial
  | succ n ih =>
    intro w_15l7 w_15l5 w_15l4 hI
    rw [S_m_midstream_74_s]
    have hI0 := hI
    refine ⟨fun c_1 => ?_, fun c_1 => ?_⟩
    · skip
      try simp (disch := omega) only [↓i_in, ↓i_isCouple, ↓i_isBridge, ↓i_isTheme, ↓i_isBarge, i_lt, i_le, i_eq, i_clamp, i_upd, i_m1, Int32.toInt_toInt64, Int32.toInt_add, Int32.toInt_sub, Int32.toInt_mul, bm32, Int32.reduceToInt, Int64.reduceToInt, Nat.reduceLT, Nat.reduceEqDiff, reduceIte] at c_1
      exact hK w_15l7 w_15l5 w_15l4 hI
    · skip
      try simp (disch := omega) only [↓i_in, ↓i_isCouple, ↓i_isBridge, ↓i_isTheme, ↓i_isBarge, i_lt, i_le, i_eq, i_clamp, i_upd, i_m1, Int32.toInt_toInt64, Int32.toInt_add, Int32.toInt_sub, Int32.toInt_mul, bm32, Int32.reduceToInt, Int64.reduceToInt, Nat.reduceLT, Nat.reduceEqDiff, reduceIte] at c_1
      exact ih (w_15l7 + 1) ((w_15l5 * ((1000 - w_15l4)).toInt64) / 1000) w_15l4 trivial
set_option maxHeartbeats 4000000 in
theorem s_midstream {G : Nat → Int32} {f0 : Nat → Int32} {c_ : Int32} {n_ : Int32} {q_ : Int32} (h_0 : GI G) : S_m_midstream G f0 c_ n_ q_ := by
  unfold S_m_midstream
  have h_0_g := h_0
  obtain ⟨⟨h_0_2a, h_0_2b⟩, ⟨h_0_3a, h_0_3b⟩, ⟨h_0_4a, h_0_4b⟩, ⟨h_0_5a, h_0_5b⟩, ⟨h_0_6a, h_0_6b⟩, ⟨h_0_14a, h_0_14b⟩, ⟨h_0_42a, h_0_42b⟩⟩ := h_0_g
  refine ⟨s_isCouple, ?_⟩
  refine ⟨fun c_1 => ?_, fun c_1 => ?_⟩
  · exact trivial
  · skip
    try simp (disch := omega) only [↓i_in, ↓i_isCouple, ↓i_isBridge, ↓i_isTheme, ↓i_isBarge, i_lt, i_le, i_eq, i_clamp, i_upd, i_m1, Int32.toInt_toInt64, Int32.toInt_add, Int32.toInt_sub, Int32.toInt_mul, bm32, Int32.reduceToInt, Int64.reduceToInt, Nat.reduceLT, Nat.reduceEqDiff, reduceIte] at c_1
    refine ⟨s_in, ?_⟩
    refine ⟨fun c_2 => ?_, fun c_2 => ?_⟩
    · exact trivial
    · skip
      try simp (disch := omega) only [↓i_in, ↓i_isCouple, ↓i_isBridge, ↓i_isTheme, ↓i_isBarge, i_lt, i_le, i_eq, i_clamp, i_upd, i_m1, Int32.toInt_toInt64, Int32.toInt_add, Int32.toInt_sub, Int32.toInt_mul, bm32, Int32.reduceToInt, Int64.reduceToInt, Nat.reduceLT, Nat.reduceEqDiff, reduceIte] at c_2
      refine ⟨s_in, ?_⟩
      refine ⟨fun c_3 => ?_, fun c_3 => ?_⟩
      · exact trivial
      · skip
        try simp (disch := omega) only [↓i_in, ↓i_isCouple, ↓i_isBridge, ↓i_isTheme, ↓i_isBarge, i_lt, i_le, i_eq, i_clamp, i_upd, i_m1, Int32.toInt_toInt64, Int32.toInt_add, Int32.toInt_sub, Int32.toInt_mul, bm32, Int32.reduceToInt, Int64.reduceToInt, Nat.reduceLT, Nat.reduceEqDiff, reduceIte] at c_3
        refine ⟨vp_in_iff.mpr (by first | omega | (simp (disch := omega) only [↓i_in, ↓i_isCouple, ↓i_isBridge, ↓i_isTheme, ↓i_isBarge, i_lt, i_le, i_eq, i_clamp, i_upd, i_m1, Int32.toInt_toInt64, Int32.toInt_add, Int32.toInt_sub, Int32.toInt_mul, bm32, Int32.reduceToInt, Int64.reduceToInt, Nat.reduceLT, Nat.reduceEqDiff, reduceIte] <;> omega)), ?_⟩
        refine ⟨fun c_4 => ?_, fun c_4 => ?_⟩
        · skip
          try simp (disch := omega) only [↓i_in, ↓i_isCouple, ↓i_isBridge, ↓i_isTheme, ↓i_isBarge, i_lt, i_le, i_eq, i_clamp, i_upd, i_m1, Int32.toInt_toInt64, Int32.toInt_add, Int32.toInt_sub, Int32.toInt_mul, bm32, Int32.reduceToInt, Int64.reduceToInt, Nat.reduceLT, Nat.reduceEqDiff, reduceIte] at c_4
          refine sl_midstream_74 ?_ (((n_ : Int32).toInt - (0 : Int32).toInt).toNat + 1) 0 1000000000 0 trivial
          intro w_15l7 w_15l5 w_15l4 i_5
          exact trivial
        · skip
          try simp (disch := omega) only [↓i_in, ↓i_isCouple, ↓i_isBridge, ↓i_isTheme, ↓i_isBarge, i_lt, i_le, i_eq, i_clamp, i_upd, i_m1, Int32.toInt_toInt64, Int32.toInt_add, Int32.toInt_sub, Int32.toInt_mul, bm32, Int32.reduceToInt, Int64.reduceToInt, Nat.reduceLT, Nat.reduceEqDiff, reduceIte] at c_4
          refine ⟨vp_in_iff.mpr (by first | omega | (simp (disch := omega) only [↓i_in, ↓i_isCouple, ↓i_isBridge, ↓i_isTheme, ↓i_isBarge, i_lt, i_le, i_eq, i_clamp, i_upd, i_m1, Int32.toInt_toInt64, Int32.toInt_add, Int32.toInt_sub, Int32.toInt_mul, bm32, Int32.reduceToInt, Int64.reduceToInt, Nat.reduceLT, Nat.reduceEqDiff, reduceIte] <;> omega)), ?_⟩
          refine sl_midstream_74 ?_ (((n_ : Int32).toInt - (0 : Int32).toInt).toNat + 1) 0 1000000000 (q_ - (f0 ((0 + c_) : Int32).toNatClampNeg)) trivial
          intro w_18l7 w_18l5 w_18l4 i_6
          exact trivial
set_option maxHeartbeats 4000000 in
theorem sl_judge_2 {G : Nat → Int32} {f0 : Nat → Int32} {f43 : Nat → Int32} {f44 : Nat → Int32} {K : Int32 → Prop} (h_0 : GI G) (h_1 : RI f43) (hK : ∀ w_1l1, ((0 ≤ w_1l1.toInt) ∧ (w_1l1.toInt ≤ 15)) → K w_1l1) : ∀ (n : Nat) w_1l1, ((0 ≤ w_1l1.toInt) ∧ (w_1l1.toInt ≤ 15)) → S_m_judge_2 G f0 f43 f44 K n w_1l1 := by
  have h_0_g := h_0
  obtain ⟨⟨h_0_2a, h_0_2b⟩, ⟨h_0_3a, h_0_3b⟩, ⟨h_0_4a, h_0_4b⟩, ⟨h_0_5a, h_0_5b⟩, ⟨h_0_6a, h_0_6b⟩, ⟨h_0_14a, h_0_14b⟩, ⟨h_0_42a, h_0_42b⟩⟩ := h_0_g
  intro n
  induction n with
  | zero => intro w_1l1 hI; exact trivial
  | succ n ih =>
    intro w_1l1 hI
    rw [S_m_judge_2_s]
    have hI0 := hI
    obtain ⟨i_1, i_2⟩ := hI0
    have rf := h_1 w_1l1.toInt.toNat
    refine ⟨fun c_3 => ?_, fun c_3 => ?_⟩
    · skip
      try simp (disch := omega) only [↓i_in, ↓i_isCouple, ↓i_isBridge, ↓i_isTheme, ↓i_isBarge, i_lt, i_le, i_eq, i_clamp, i_upd, i_m1, Int32.toInt_toInt64, Int32.toInt_add, Int32.toInt_sub, Int32.toInt_mul, bm32, Int32.reduceToInt, Int64.reduceToInt, Nat.reduceLT, Nat.reduceEqDiff, reduceIte] at c_3
      exact hK w_1l1 hI
    · skip
      try simp (disch := omega) only [↓i_in, ↓i_isCouple, ↓i_isBridge, ↓i_isTheme, ↓i_isBarge, i_lt, i_le, i_eq, i_clamp, i_upd, i_m1, Int32.toInt_toInt64, Int32.toInt_add, Int32.toInt_sub, Int32.toInt_mul, bm32, Int32.reduceToInt, Int64.reduceToInt, Nat.reduceLT, Nat.reduceEqDiff, reduceIte] at c_3
      refine ⟨vp_in_iff.mpr (by first | omega | (simp (disch := omega) only [↓i_in, ↓i_isCouple, ↓i_isBridge, ↓i_isTheme, ↓i_isBarge, i_lt, i_le, i_eq, i_clamp, i_upd, i_m1, Int32.toInt_toInt64, Int32.toInt_add, Int32.toInt_sub, Int32.toInt_mul, bm32, Int32.reduceToInt, Int64.reduceToInt, Nat.reduceLT, Nat.reduceEqDiff, reduceIte] <;> omega)), ?_⟩
      refine ⟨vp_in_iff.mpr (by first | omega | (simp (disch := omega) only [↓i_in, ↓i_isCouple, ↓i_isBridge, ↓i_isTheme, ↓i_isBarge, i_lt, i_le, i_eq, i_clamp, i_upd, i_m1, Int32.toInt_toInt64, Int32.toInt_add, Int32.toInt_sub, Int32.toInt_mul, bm32, Int32.reduceToInt, Int64.reduceToInt, Nat.reduceLT, Nat.reduceEqDiff, reduceIte] <;> omega)), ?_⟩
      refine ⟨vp_in_iff.mpr (by first | omega | (simp (disch := omega) only [↓i_in, ↓i_isCouple, ↓i_isBridge, ↓i_isTheme, ↓i_isBarge, i_lt, i_le, i_eq, i_clamp, i_upd, i_m1, Int32.toInt_toInt64, Int32.toInt_add, Int32.toInt_sub, Int32.toInt_mul, bm32, Int32.reduceToInt, Int64.reduceToInt, Nat.reduceLT, Nat.reduceEqDiff, reduceIte] <;> omega)), ?_⟩
      refine ⟨fun c_4 => ?_, fun c_4 => ?_⟩
      · skip
        try simp (disch := omega) only [↓i_in, ↓i_isCouple, ↓i_isBridge, ↓i_isTheme, ↓i_isBarge, i_lt, i_le, i_eq, i_clamp, i_upd, i_m1, Int32.toInt_toInt64, Int32.toInt_add, Int32.toInt_sub, Int32.toInt_mul, bm32, Int32.reduceToInt, Int64.reduceToInt, Nat.reduceLT, Nat.reduceEqDiff, reduceIte] at c_4
        exact ih (w_1l1 + 1) (⟨(by first | omega | (simp (disch := omega) only [↓i_in, ↓i_isCouple, ↓i_isBridge, ↓i_isTheme, ↓i_isBarge, i_lt, i_le, i_eq, i_clamp, i_upd, i_m1, Int32.toInt_toInt64, Int32.toInt_add, Int32.toInt_sub, Int32.toInt_mul, bm32, Int32.reduceToInt, Int64.reduceToInt, Nat.reduceLT, Nat.reduceEqDiff, reduceIte] <;> omega)), (by first | omega | (simp (disch := omega) only [↓i_in, ↓i_isCouple, ↓i_isBridge, ↓i_isTheme, ↓i_isBarge, i_lt, i_le, i_eq, i_clamp, i_upd, i_m1, Int32.toInt_toInt64, Int32.toInt_add, Int32.toInt_sub, Int32.toInt_mul, bm32, Int32.reduceToInt, Int64.reduceToInt, Nat.reduceLT, Nat.reduceEqDiff, reduceIte] <;> omega))⟩)
      · exact trivial
set_option maxHeartbeats 4000000 in
theorem s_judge {G : Nat → Int32} {f0 : Nat → Int32} {f43 : Nat → Int32} {f44 : Nat → Int32} (h_0 : GI G) (h_1 : RI f43) : S_m_judge G f0 f43 f44 := by
  unfold S_m_judge
  have h_0_g := h_0
  obtain ⟨⟨h_0_2a, h_0_2b⟩, ⟨h_0_3a, h_0_3b⟩, ⟨h_0_4a, h_0_4b⟩, ⟨h_0_5a, h_0_5b⟩, ⟨h_0_6a, h_0_6b⟩, ⟨h_0_14a, h_0_14b⟩, ⟨h_0_42a, h_0_42b⟩⟩ := h_0_g
  refine sl_judge_2 h_0 h_1 ?_ ((((G 42) : Int32).toInt - (0 : Int32).toInt).toNat + 1) 0 (⟨(by first | omega | (simp (disch := omega) only [↓i_in, ↓i_isCouple, ↓i_isBridge, ↓i_isTheme, ↓i_isBarge, i_lt, i_le, i_eq, i_clamp, i_upd, i_m1, Int32.toInt_toInt64, Int32.toInt_add, Int32.toInt_sub, Int32.toInt_mul, bm32, Int32.reduceToInt, Int64.reduceToInt, Nat.reduceLT, Nat.reduceEqDiff, reduceIte] <;> omega)), (by first | omega | (simp (disch := omega) only [↓i_in, ↓i_isCouple, ↓i_isBridge, ↓i_isTheme, ↓i_isBarge, i_lt, i_le, i_eq, i_clamp, i_upd, i_m1, Int32.toInt_toInt64, Int32.toInt_add, Int32.toInt_sub, Int32.toInt_mul, bm32, Int32.reduceToInt, Int64.reduceToInt, Nat.reduceLT, Nat.reduceEqDiff, reduceIte] <;> omega))⟩)
  intro w_1l1 i_1
  obtain ⟨i_2, i_3⟩ := i_1
  exact trivial
set_option maxHeartbeats 4000000 in
theorem sl_fleet_19 {G : Nat → Int32} {f8 : Nat → Int32} {n_ : Int32} {K : Int32 → Int32 → Prop} (h_0 : GI G) (hK : ∀ w_5l3 w_5l2, ((0 ≤ w_5l3.toInt) ∧ (w_5l3.toInt ≤ 6)) → K w_5l3 w_5l2) : ∀ (n : Nat) w_5l3 w_5l2, ((0 ≤ w_5l3.toInt) ∧ (w_5l3.toInt ≤ 6)) → S_m_fleet_19 G f8 n_ K n w_5l3 w_5l2 := by
  have h_0_g := h_0
  obtain ⟨⟨h_0_2a, h_0_2b⟩, ⟨h_0_3a, h_0_3b⟩, ⟨h_0_4a, h_0_4b⟩, ⟨h_0_5a, h_0_5b⟩, ⟨h_0_6a, h_0_6b⟩, ⟨h_0_14a, h_0_14b⟩, ⟨h_0_42a, h_0_42b⟩⟩ := h_0_g
  intro n
  induction n with
  | zero => intro w_5l3 w_5l2 hI; exact trivial
  | succ n ih =>
    intro w_5l3 w_5l2 hI
    rw [S_m_fleet_19_s]
    have hI0 := hI
    obtain ⟨i_1, i_2⟩ := hI0
    refine ⟨fun c_3 => ?_, fun c_3 => ?_⟩
    · skip
      try simp (disch := omega) only [↓i_in, ↓i_isCouple, ↓i_isBridge, ↓i_isTheme, ↓i_isBarge, i_lt, i_le, i_eq, i_clamp, i_upd, i_m1, Int32.toInt_toInt64, Int32.toInt_add, Int32.toInt_sub, Int32.toInt_mul, bm32, Int32.reduceToInt, Int64.reduceToInt, Nat.reduceLT, Nat.reduceEqDiff, reduceIte] at c_3
      exact hK w_5l3 w_5l2 hI
    · skip
      try simp (disch := omega) only [↓i_in, ↓i_isCouple, ↓i_isBridge, ↓i_isTheme, ↓i_isBarge, i_lt, i_le, i_eq, i_clamp, i_upd, i_m1, Int32.toInt_toInt64, Int32.toInt_add, Int32.toInt_sub, Int32.toInt_mul, bm32, Int32.reduceToInt, Int64.reduceToInt, Nat.reduceLT, Nat.reduceEqDiff, reduceIte] at c_3
      refine ⟨vp_in_iff.mpr (by first | omega | (simp (disch := omega) only [↓i_in, ↓i_isCouple, ↓i_isBridge, ↓i_isTheme, ↓i_isBarge, i_lt, i_le, i_eq, i_clamp, i_upd, i_m1, Int32.toInt_toInt64, Int32.toInt_add, Int32.toInt_sub, Int32.toInt_mul, bm32, Int32.reduceToInt, Int64.reduceToInt, Nat.reduceLT, Nat.reduceEqDiff, reduceIte] <;> omega)), ?_⟩
      exact ih (w_5l3 + 1) (w_5l2 + (n_ * (f8 (w_5l3 : Int32).toNatClampNeg))) (⟨(by first | omega | (simp (disch := omega) only [↓i_in, ↓i_isCouple, ↓i_isBridge, ↓i_isTheme, ↓i_isBarge, i_lt, i_le, i_eq, i_clamp, i_upd, i_m1, Int32.toInt_toInt64, Int32.toInt_add, Int32.toInt_sub, Int32.toInt_mul, bm32, Int32.reduceToInt, Int64.reduceToInt, Nat.reduceLT, Nat.reduceEqDiff, reduceIte] <;> omega)), (by first | omega | (simp (disch := omega) only [↓i_in, ↓i_isCouple, ↓i_isBridge, ↓i_isTheme, ↓i_isBarge, i_lt, i_le, i_eq, i_clamp, i_upd, i_m1, Int32.toInt_toInt64, Int32.toInt_add, Int32.toInt_sub, Int32.toInt_mul, bm32, Int32.reduceToInt, Int64.reduceToInt, Nat.reduceLT, Nat.reduceEqDiff, reduceIte] <;> omega))⟩)
set_option maxHeartbeats 4000000 in
theorem sl_fleet_49 {G : Nat → Int32} {f0 : Nat → Int32} {w_5l2 : Int32} {K : Int32 → Int32 → Prop} (h_0 : GI G) (hK : ∀ w_6l4 w_6l3, True → K w_6l4 w_6l3) : ∀ (n : Nat) w_6l4 w_6l3, True → S_m_fleet_49 G f0 w_5l2 K n w_6l4 w_6l3 := by
  have h_0_g := h_0
  obtain ⟨⟨h_0_2a, h_0_2b⟩, ⟨h_0_3a, h_0_3b⟩, ⟨h_0_4a, h_0_4b⟩, ⟨h_0_5a, h_0_5b⟩, ⟨h_0_6a, h_0_6b⟩, ⟨h_0_14a, h_0_14b⟩, ⟨h_0_42a, h_0_42b⟩⟩ := h_0_g
  intro n
  induction n with
  | zero => intro w_6l4 w_6l3 hI; exact trivial
  | succ n ih =>
    intro w_6l4 w_6l3 hI
    rw [S_m_fleet_49_s]
    have hI0 := hI
    refine ⟨fun c_1 => ?_, fun c_1 => ?_⟩
    · skip
      try simp (disch := omega) only [↓i_in, ↓i_isCouple, ↓i_isBridge, ↓i_isTheme, ↓i_isBarge, i_lt, i_le, i_eq, i_clamp, i_upd, i_m1, Int32.toInt_toInt64, Int32.toInt_add, Int32.toInt_sub, Int32.toInt_mul, bm32, Int32.reduceToInt, Int64.reduceToInt, Nat.reduceLT, Nat.reduceEqDiff, reduceIte] at c_1
      exact hK w_6l4 w_6l3 hI
    · skip
      try simp (disch := omega) only [↓i_in, ↓i_isCouple, ↓i_isBridge, ↓i_isTheme, ↓i_isBarge, i_lt, i_le, i_eq, i_clamp, i_upd, i_m1, Int32.toInt_toInt64, Int32.toInt_add, Int32.toInt_sub, Int32.toInt_mul, bm32, Int32.reduceToInt, Int64.reduceToInt, Nat.reduceLT, Nat.reduceEqDiff, reduceIte] at c_1
      refine ⟨fun c_2 => ?_, fun c_2 => ?_⟩
      · skip
        try simp (disch := omega) only [↓i_in, ↓i_isCouple, ↓i_isBridge, ↓i_isTheme, ↓i_isBarge, i_lt, i_le, i_eq, i_clamp, i_upd, i_m1, Int32.toInt_toInt64, Int32.toInt_add, Int32.toInt_sub, Int32.toInt_mul, bm32, Int32.reduceToInt, Int64.reduceToInt, Nat.reduceLT, Nat.reduceEqDiff, reduceIte] at c_2
        refine ⟨(s_griefOf h_0), ?_⟩
        refine ⟨fun c_3 => ?_, fun c_3 => ?_⟩
        · skip
          try simp (disch := omega) only [↓i_in, ↓i_isCouple, ↓i_isBridge, ↓i_isTheme, ↓i_isBarge, i_lt, i_le, i_eq, i_clamp, i_upd, i_m1, Int32.toInt_toInt64, Int32.toInt_add, Int32.toInt_sub, Int32.toInt_mul, bm32, Int32.reduceToInt, Int64.reduceToInt, Nat.reduceLT, Nat.reduceEqDiff, reduceIte] at c_3
          exact ih (w_6l4 + 1) w_6l3 trivial
        · skip
          try simp (disch := omega) only [↓i_in, ↓i_isCouple, ↓i_isBridge, ↓i_isTheme, ↓i_isBarge, i_lt, i_le, i_eq, i_clamp, i_upd, i_m1, Int32.toInt_toInt64, Int32.toInt_add, Int32.toInt_sub, Int32.toInt_mul, bm32, Int32.reduceToInt, Int64.reduceToInt, Nat.reduceLT, Nat.reduceEqDiff, reduceIte] at c_3
          refine ⟨fun c_4 => ?_, fun c_4 => ?_⟩
          · skip
            try simp (disch := omega) only [↓i_in, ↓i_isCouple, ↓i_isBridge, ↓i_isTheme, ↓i_isBarge, i_lt, i_le, i_eq, i_clamp, i_upd, i_m1, Int32.toInt_toInt64, Int32.toInt_add, Int32.toInt_sub, Int32.toInt_mul, bm32, Int32.reduceToInt, Int64.reduceToInt, Nat.reduceLT, Nat.reduceEqDiff, reduceIte] at c_4
            exact ih (w_6l4 + 1) w_6l4 trivial
          · skip
            try simp (disch := omega) only [↓i_in, ↓i_isCouple, ↓i_isBridge, ↓i_isTheme, ↓i_isBarge, i_lt, i_le, i_eq, i_clamp, i_upd, i_m1, Int32.toInt_toInt64, Int32.toInt_add, Int32.toInt_sub, Int32.toInt_mul, bm32, Int32.reduceToInt, Int64.reduceToInt, Nat.reduceLT, Nat.reduceEqDiff, reduceIte] at c_4
            refine ⟨s_ones, ?_⟩
            refine ⟨s_ones, ?_⟩
            refine ⟨fun c_5 => ?_, fun c_5 => ?_⟩
            · skip
              try simp (disch := omega) only [↓i_in, ↓i_isCouple, ↓i_isBridge, ↓i_isTheme, ↓i_isBarge, i_lt, i_le, i_eq, i_clamp, i_upd, i_m1, Int32.toInt_toInt64, Int32.toInt_add, Int32.toInt_sub, Int32.toInt_mul, bm32, Int32.reduceToInt, Int64.reduceToInt, Nat.reduceLT, Nat.reduceEqDiff, reduceIte] at c_5
              exact ih (w_6l4 + 1) w_6l3 trivial
            · skip
              try simp (disch := omega) only [↓i_in, ↓i_isCouple, ↓i_isBridge, ↓i_isTheme, ↓i_isBarge, i_lt, i_le, i_eq, i_clamp, i_upd, i_m1, Int32.toInt_toInt64, Int32.toInt_add, Int32.toInt_sub, Int32.toInt_mul, bm32, Int32.reduceToInt, Int64.reduceToInt, Nat.reduceLT, Nat.reduceEqDiff, reduceIte] at c_5
              exact ih (w_6l4 + 1) w_6l4 trivial
      · skip
        try simp (disch := omega) only [↓i_in, ↓i_isCouple, ↓i_isBridge, ↓i_isTheme, ↓i_isBarge, i_lt, i_le, i_eq, i_clamp, i_upd, i_m1, Int32.toInt_toInt64, Int32.toInt_add, Int32.toInt_sub, Int32.toInt_mul, bm32, Int32.reduceToInt, Int64.reduceToInt, Nat.reduceLT, Nat.reduceEqDiff, reduceIte] at c_2
        exact ih (w_6l4 + 1) w_6l3 trivial
set_option maxHeartbeats 4000000 in
theorem s_fleet {G : Nat → Int32} {f0 : Nat → Int32} {f8 : Nat → Int32} {n_ : Int32} (h_0 : GI G) : S_m_fleet G f0 f8 n_ := by
  unfold S_m_fleet
  have h_0_g := h_0
  obtain ⟨⟨h_0_2a, h_0_2b⟩, ⟨h_0_3a, h_0_3b⟩, ⟨h_0_4a, h_0_4b⟩, ⟨h_0_5a, h_0_5b⟩, ⟨h_0_6a, h_0_6b⟩, ⟨h_0_14a, h_0_14b⟩, ⟨h_0_42a, h_0_42b⟩⟩ := h_0_g
  refine ⟨s_in, ?_⟩
  refine ⟨fun c_1 => ?_, fun c_1 => ?_⟩
  · exact trivial
  · skip
    try simp (disch := omega) only [↓i_in, ↓i_isCouple, ↓i_isBridge, ↓i_isTheme, ↓i_isBarge, i_lt, i_le, i_eq, i_clamp, i_upd, i_m1, Int32.toInt_toInt64, Int32.toInt_add, Int32.toInt_sub, Int32.toInt_mul, bm32, Int32.reduceToInt, Int64.reduceToInt, Nat.reduceLT, Nat.reduceEqDiff, reduceIte] at c_1
    refine sl_fleet_19 h_0 ?_ ((((G 3) : Int32).toInt - (0 : Int32).toInt).toNat + 1) 0 0 (⟨(by first | omega | (simp (disch := omega) only [↓i_in, ↓i_isCouple, ↓i_isBridge, ↓i_isTheme, ↓i_isBarge, i_lt, i_le, i_eq, i_clamp, i_upd, i_m1, Int32.toInt_toInt64, Int32.toInt_add, Int32.toInt_sub, Int32.toInt_mul, bm32, Int32.reduceToInt, Int64.reduceToInt, Nat.reduceLT, Nat.reduceEqDiff, reduceIte] <;> omega)), (by first | omega | (simp (disch := omega) only [↓i_in, ↓i_isCouple, ↓i_isBridge, ↓i_isTheme, ↓i_isBarge, i_lt, i_le, i_eq, i_clamp, i_upd, i_m1, Int32.toInt_toInt64, Int32.toInt_add, Int32.toInt_sub, Int32.toInt_mul, bm32, Int32.reduceToInt, Int64.reduceToInt, Nat.reduceLT, Nat.reduceEqDiff, reduceIte] <;> omega))⟩)
    intro w_5l3 w_5l2 i_2
    obtain ⟨i_3, i_4⟩ := i_2
    refine sl_fleet_49 h_0 ?_ ((((1 <<< ((G 5) &&& 31)) : Int32).toInt - (0 : Int32).toInt).toNat + 1) 0 (-1) trivial
    intro w_6l4 w_6l3 i_5
    exact trivial
