section
def PI (G : Nat → Int32) : Prop := GI G ∧ (0 ≤ (G 15).toInt ∧ (G 15).toInt ≤ (G 14).toInt) ∧ (0 ≤ (G 20).toInt ∧ (G 20).toInt ≤ 6) ∧ (0 ≤ (G 21).toInt ∧ (G 21).toInt ≤ 5) ∧ (0 ≤ (G 23).toInt ∧ (G 23).toInt ≤ 6) ∧ (0 ≤ (G 24).toInt ∧ (G 24).toInt ≤ 7)
theorem PI_upd {G : Nat → Int32} {k : Nat} {x : Int32} (h : PI G) (hk : (k ≠ 2 ∧ k ≠ 3 ∧ k ≠ 4 ∧ k ≠ 5 ∧ k ≠ 6 ∧ k ≠ 14 ∧ k ≠ 42) ∧ k ≠ 15 ∧ k ≠ 20 ∧ k ≠ 21 ∧ k ≠ 23 ∧ k ≠ 24) : PI (upd G k x) := by
  refine ⟨GI_upd h.1 hk.1, ?_⟩
  rw [pk_un (f := G) hk.2.1.symm, pk_un (f := G) hk.2.2.1.symm, pk_un (f := G) hk.2.2.2.1.symm, pk_un (f := G) hk.2.2.2.2.1.symm, pk_un (f := G) hk.2.2.2.2.2.symm, pk_un (f := G) hk.1.2.2.2.2.2.1.symm]
  exact h.2
theorem RI_updr {w x : Nat → Int32} {i j : Nat} (h : RI w) (q : RI x) : RI (upd w i (x j)) := RI_upd h (q j).1 (q j).2
theorem p_letterAt {G f13 : Nat → Int32} {k_ : Int32} : (f_m_letterAt G f13 k_).toInt = -1 ∨ k_.toInt < (G 14).toInt := by
  unfold f_m_letterAt
  by_cases c : G 14 ≤ k_
  · rw [if_pos c]
    exact Or.inl i_m1
  · rw [i_le] at c
    exact Or.inr (by omega)
theorem PI_u15 {G : Nat → Int32} {x : Int32} (h : PI G) (h1 : 0 ≤ x.toInt) (h2 : x.toInt ≤ (G 14).toInt) : PI (upd G 15 x) := by
  obtain ⟨g, ⟨b1, b2⟩, ⟨c1, c2⟩, ⟨d1, d2⟩, ⟨e1, e2⟩, ⟨f1, f2⟩⟩ := h
  refine ⟨GI_upd g (by decide), ?_⟩
  simp only [i_upd, Nat.reduceEqDiff, reduceIte]
  omega
theorem PI_u20 {G : Nat → Int32} {x : Int32} (h : PI G) (h1 : 0 ≤ x.toInt) (h2 : x.toInt ≤ 6) : PI (upd G 20 x) := by
  obtain ⟨g, ⟨b1, b2⟩, ⟨c1, c2⟩, ⟨d1, d2⟩, ⟨e1, e2⟩, ⟨f1, f2⟩⟩ := h
  refine ⟨GI_upd g (by decide), ?_⟩
  simp only [i_upd, Nat.reduceEqDiff, reduceIte]
  omega
theorem PI_u21 {G : Nat → Int32} {x : Int32} (h : PI G) (h1 : 0 ≤ x.toInt) (h2 : x.toInt ≤ 5) : PI (upd G 21 x) := by
  obtain ⟨g, ⟨b1, b2⟩, ⟨c1, c2⟩, ⟨d1, d2⟩, ⟨e1, e2⟩, ⟨f1, f2⟩⟩ := h
  refine ⟨GI_upd g (by decide), ?_⟩
  simp only [i_upd, Nat.reduceEqDiff, reduceIte]
  omega
theorem PI_u23 {G : Nat → Int32} {x : Int32} (h : PI G) (h1 : 0 ≤ x.toInt) (h2 : x.toInt ≤ 6) : PI (upd G 23 x) := by
  obtain ⟨g, ⟨b1, b2⟩, ⟨c1, c2⟩, ⟨d1, d2⟩, ⟨e1, e2⟩, ⟨f1, f2⟩⟩ := h
  refine ⟨GI_upd g (by decide), ?_⟩
  simp only [i_upd, Nat.reduceEqDiff, reduceIte]
  omega
theorem PI_u24 {G : Nat → Int32} {x : Int32} (h : PI G) (h1 : 0 ≤ x.toInt) (h2 : x.toInt ≤ 7) : PI (upd G 24 x) := by
  obtain ⟨g, ⟨b1, b2⟩, ⟨c1, c2⟩, ⟨d1, d2⟩, ⟨e1, e2⟩, ⟨f1, f2⟩⟩ := h
  refine ⟨GI_upd g (by decide), ?_⟩
  simp only [i_upd, Nat.reduceEqDiff, reduceIte]
  omega
set_option maxHeartbeats 4000000 in
theorem sl_here_0 {G : Nat → Int32} {f13 : Nat → Int32} {K : (Nat → Int32) → Prop} (hK : ∀ w_1m0, (PI w_1m0 ∧ ((G 15).toInt ≤ (w_1m0 15).toInt) ∧ ((w_1m0 14).toInt = (G 14).toInt) ∧ ((w_1m0 20).toInt = (G 20).toInt) ∧ ((w_1m0 21).toInt = (G 21).toInt) ∧ ((w_1m0 23).toInt = (G 23).toInt) ∧ ((w_1m0 24).toInt = (G 24).toInt)) → K w_1m0) : ∀ (n : Nat) w_1m0, (PI w_1m0 ∧ ((G 15).toInt ≤ (w_1m0 15).toInt) ∧ ((w_1m0 14).toInt = (G 14).toInt) ∧ ((w_1m0 20).toInt = (G 20).toInt) ∧ ((w_1m0 21).toInt = (G 21).toInt) ∧ ((w_1m0 23).toInt = (G 23).toInt) ∧ ((w_1m0 24).toInt = (G 24).toInt)) → ((w_1m0 14).toInt - (w_1m0 15).toInt).toNat < n → S_m_here_0 f13 K n w_1m0 := by
  intro n
  induction n with
  | zero => intro w_1m0 hI hm; exact absurd hm (Nat.not_lt_zero _)
  | succ n ih =>
    intro w_1m0 hI hm
    rw [S_m_here_0_s]
    have hI0 := hI
    obtain ⟨i_1, i_2, i_3, i_4, i_5, i_6, i_7⟩ := hI0
    have i_1_g := i_1
    obtain ⟨⟨⟨i_1_2a, i_1_2b⟩, ⟨i_1_3a, i_1_3b⟩, ⟨i_1_4a, i_1_4b⟩, ⟨i_1_5a, i_1_5b⟩, ⟨i_1_6a, i_1_6b⟩, ⟨i_1_14a, i_1_14b⟩, ⟨i_1_42a, i_1_42b⟩⟩, ⟨i_1_15a, i_1_15b⟩, ⟨i_1_20a, i_1_20b⟩, ⟨i_1_21a, i_1_21b⟩, ⟨i_1_23a, i_1_23b⟩, ⟨i_1_24a, i_1_24b⟩⟩ := i_1_g
    refine ⟨(s_letterAt (by first | omega | (simp (disch := omega) only [↓i_in, ↓i_isCouple, ↓i_isBridge, ↓i_isTheme, ↓i_isBarge, i_lt, i_le, i_eq, i_clamp, i_upd, i_m1, Int32.toInt_toInt64, Int32.toInt_add, Int32.toInt_sub, Int32.toInt_mul, bm32, Int32.reduceToInt, Int64.reduceToInt, Nat.reduceLT, Nat.reduceEqDiff, reduceIte, true_or, or_true, true_and, and_true, false_or, or_false, not_true_eq_false, not_false_eq_true, eq_self] <;> omega)) (by first | omega | (simp (disch := omega) only [↓i_in, ↓i_isCouple, ↓i_isBridge, ↓i_isTheme, ↓i_isBarge, i_lt, i_le, i_eq, i_clamp, i_upd, i_m1, Int32.toInt_toInt64, Int32.toInt_add, Int32.toInt_sub, Int32.toInt_mul, bm32, Int32.reduceToInt, Int64.reduceToInt, Nat.reduceLT, Nat.reduceEqDiff, reduceIte, true_or, or_true, true_and, and_true, false_or, or_false, not_true_eq_false, not_false_eq_true, eq_self] <;> omega))), ?_⟩
    have v_8 := p_letterAt (G := w_1m0) (f13 := f13) (k_ := (w_1m0 15))
    try simp (disch := omega) only [↓i_in, ↓i_isCouple, ↓i_isBridge, ↓i_isTheme, ↓i_isBarge, i_lt, i_le, i_eq, i_clamp, i_upd, i_m1, Int32.toInt_toInt64, Int32.toInt_add, Int32.toInt_sub, Int32.toInt_mul, bm32, Int32.reduceToInt, Int64.reduceToInt, Nat.reduceLT, Nat.reduceEqDiff, reduceIte, true_or, or_true, true_and, and_true, false_or, or_false, not_true_eq_false, not_false_eq_true, eq_self] at v_8
    refine ⟨fun c_9 => ?_, fun c_9 => ?_⟩
    · skip
      try simp (disch := omega) only [↓i_in, ↓i_isCouple, ↓i_isBridge, ↓i_isTheme, ↓i_isBarge, i_lt, i_le, i_eq, i_clamp, i_upd, i_m1, Int32.toInt_toInt64, Int32.toInt_add, Int32.toInt_sub, Int32.toInt_mul, bm32, Int32.reduceToInt, Int64.reduceToInt, Nat.reduceLT, Nat.reduceEqDiff, reduceIte, true_or, or_true, true_and, and_true, false_or, or_false, not_true_eq_false, not_false_eq_true, eq_self] at c_9
      exact ih (upd w_1m0 15 ((w_1m0 15) + 1)) (⟨(PI_u15 i_1 (by first | omega | (simp (disch := omega) only [↓i_in, ↓i_isCouple, ↓i_isBridge, ↓i_isTheme, ↓i_isBarge, i_lt, i_le, i_eq, i_clamp, i_upd, i_m1, Int32.toInt_toInt64, Int32.toInt_add, Int32.toInt_sub, Int32.toInt_mul, bm32, Int32.reduceToInt, Int64.reduceToInt, Nat.reduceLT, Nat.reduceEqDiff, reduceIte, true_or, or_true, true_and, and_true, false_or, or_false, not_true_eq_false, not_false_eq_true, eq_self] <;> omega)) (by first | omega | (simp (disch := omega) only [↓i_in, ↓i_isCouple, ↓i_isBridge, ↓i_isTheme, ↓i_isBarge, i_lt, i_le, i_eq, i_clamp, i_upd, i_m1, Int32.toInt_toInt64, Int32.toInt_add, Int32.toInt_sub, Int32.toInt_mul, bm32, Int32.reduceToInt, Int64.reduceToInt, Nat.reduceLT, Nat.reduceEqDiff, reduceIte, true_or, or_true, true_and, and_true, false_or, or_false, not_true_eq_false, not_false_eq_true, eq_self] <;> omega))), (by first | omega | (simp (disch := omega) only [↓i_in, ↓i_isCouple, ↓i_isBridge, ↓i_isTheme, ↓i_isBarge, i_lt, i_le, i_eq, i_clamp, i_upd, i_m1, Int32.toInt_toInt64, Int32.toInt_add, Int32.toInt_sub, Int32.toInt_mul, bm32, Int32.reduceToInt, Int64.reduceToInt, Nat.reduceLT, Nat.reduceEqDiff, reduceIte, true_or, or_true, true_and, and_true, false_or, or_false, not_true_eq_false, not_false_eq_true, eq_self] <;> omega)), (by first | omega | (simp (disch := omega) only [↓i_in, ↓i_isCouple, ↓i_isBridge, ↓i_isTheme, ↓i_isBarge, i_lt, i_le, i_eq, i_clamp, i_upd, i_m1, Int32.toInt_toInt64, Int32.toInt_add, Int32.toInt_sub, Int32.toInt_mul, bm32, Int32.reduceToInt, Int64.reduceToInt, Nat.reduceLT, Nat.reduceEqDiff, reduceIte, true_or, or_true, true_and, and_true, false_or, or_false, not_true_eq_false, not_false_eq_true, eq_self] <;> omega)), (by first | omega | (simp (disch := omega) only [↓i_in, ↓i_isCouple, ↓i_isBridge, ↓i_isTheme, ↓i_isBarge, i_lt, i_le, i_eq, i_clamp, i_upd, i_m1, Int32.toInt_toInt64, Int32.toInt_add, Int32.toInt_sub, Int32.toInt_mul, bm32, Int32.reduceToInt, Int64.reduceToInt, Nat.reduceLT, Nat.reduceEqDiff, reduceIte, true_or, or_true, true_and, and_true, false_or, or_false, not_true_eq_false, not_false_eq_true, eq_self] <;> omega)), (by first | omega | (simp (disch := omega) only [↓i_in, ↓i_isCouple, ↓i_isBridge, ↓i_isTheme, ↓i_isBarge, i_lt, i_le, i_eq, i_clamp, i_upd, i_m1, Int32.toInt_toInt64, Int32.toInt_add, Int32.toInt_sub, Int32.toInt_mul, bm32, Int32.reduceToInt, Int64.reduceToInt, Nat.reduceLT, Nat.reduceEqDiff, reduceIte, true_or, or_true, true_and, and_true, false_or, or_false, not_true_eq_false, not_false_eq_true, eq_self] <;> omega)), (by first | omega | (simp (disch := omega) only [↓i_in, ↓i_isCouple, ↓i_isBridge, ↓i_isTheme, ↓i_isBarge, i_lt, i_le, i_eq, i_clamp, i_upd, i_m1, Int32.toInt_toInt64, Int32.toInt_add, Int32.toInt_sub, Int32.toInt_mul, bm32, Int32.reduceToInt, Int64.reduceToInt, Nat.reduceLT, Nat.reduceEqDiff, reduceIte, true_or, or_true, true_and, and_true, false_or, or_false, not_true_eq_false, not_false_eq_true, eq_self] <;> omega)), (by first | omega | (simp (disch := omega) only [↓i_in, ↓i_isCouple, ↓i_isBridge, ↓i_isTheme, ↓i_isBarge, i_lt, i_le, i_eq, i_clamp, i_upd, i_m1, Int32.toInt_toInt64, Int32.toInt_add, Int32.toInt_sub, Int32.toInt_mul, bm32, Int32.reduceToInt, Int64.reduceToInt, Nat.reduceLT, Nat.reduceEqDiff, reduceIte, true_or, or_true, true_and, and_true, false_or, or_false, not_true_eq_false, not_false_eq_true, eq_self] <;> omega))⟩) (by first | omega | (simp (disch := omega) only [↓i_in, ↓i_isCouple, ↓i_isBridge, ↓i_isTheme, ↓i_isBarge, i_lt, i_le, i_eq, i_clamp, i_upd, i_m1, Int32.toInt_toInt64, Int32.toInt_add, Int32.toInt_sub, Int32.toInt_mul, bm32, Int32.reduceToInt, Int64.reduceToInt, Nat.reduceLT, Nat.reduceEqDiff, reduceIte, true_or, or_true, true_and, and_true, false_or, or_false, not_true_eq_false, not_false_eq_true, eq_self] <;> omega))
    · skip
      try simp (disch := omega) only [↓i_in, ↓i_isCouple, ↓i_isBridge, ↓i_isTheme, ↓i_isBarge, i_lt, i_le, i_eq, i_clamp, i_upd, i_m1, Int32.toInt_toInt64, Int32.toInt_add, Int32.toInt_sub, Int32.toInt_mul, bm32, Int32.reduceToInt, Int64.reduceToInt, Nat.reduceLT, Nat.reduceEqDiff, reduceIte, true_or, or_true, true_and, and_true, false_or, or_false, not_true_eq_false, not_false_eq_true, eq_self] at c_9
      exact hK w_1m0 hI
set_option maxHeartbeats 4000000 in
theorem pl_here_0 {G : Nat → Int32} {f13 : Nat → Int32} : ∀ (n : Nat) w_1m0, (PI w_1m0 ∧ ((G 15).toInt ≤ (w_1m0 15).toInt) ∧ ((w_1m0 14).toInt = (G 14).toInt) ∧ ((w_1m0 20).toInt = (G 20).toInt) ∧ ((w_1m0 21).toInt = (G 21).toInt) ∧ ((w_1m0 23).toInt = (G 23).toInt) ∧ ((w_1m0 24).toInt = (G 24).toInt)) → ∀ r0, f_m_here_0 f13 n w_1m0 = r0 → PI r0 ∧ ((G 15).toInt ≤ (r0 15).toInt) ∧ ((r0 14).toInt = (G 14).toInt) ∧ ((r0 20).toInt = (G 20).toInt) ∧ ((r0 21).toInt = (G 21).toInt) ∧ ((r0 23).toInt = (G 23).toInt) ∧ ((r0 24).toInt = (G 24).toInt) := by
  intro n
  induction n with
  | zero =>
    intro w_1m0 hI r0 e
    replace e : (w_1m0) = r0 := e
    cases e
    exact hI
  | succ n ih =>
    intro w_1m0 hI r0 e
    rw [f_m_here_0_s] at e
    have hI0 := hI
    obtain ⟨i_1, i_2, i_3, i_4, i_5, i_6, i_7⟩ := hI0
    have i_1_g := i_1
    obtain ⟨⟨⟨i_1_2a, i_1_2b⟩, ⟨i_1_3a, i_1_3b⟩, ⟨i_1_4a, i_1_4b⟩, ⟨i_1_5a, i_1_5b⟩, ⟨i_1_6a, i_1_6b⟩, ⟨i_1_14a, i_1_14b⟩, ⟨i_1_42a, i_1_42b⟩⟩, ⟨i_1_15a, i_1_15b⟩, ⟨i_1_20a, i_1_20b⟩, ⟨i_1_21a, i_1_21b⟩, ⟨i_1_23a, i_1_23b⟩, ⟨i_1_24a, i_1_24b⟩⟩ := i_1_g
    have v_8 := p_letterAt (G := w_1m0) (f13 := f13) (k_ := (w_1m0 15))
    try simp (disch := omega) only [↓i_in, ↓i_isCouple, ↓i_isBridge, ↓i_isTheme, ↓i_isBarge, i_lt, i_le, i_eq, i_clamp, i_upd, i_m1, Int32.toInt_toInt64, Int32.toInt_add, Int32.toInt_sub, Int32.toInt_mul, bm32, Int32.reduceToInt, Int64.reduceToInt, Nat.reduceLT, Nat.reduceEqDiff, reduceIte, true_or, or_true, true_and, and_true, false_or, or_false, not_true_eq_false, not_false_eq_true, eq_self] at v_8
    by_cases c_9 : (f_m_letterAt w_1m0 f13 (w_1m0 15)) = 32
    · rw [if_pos c_9] at e
      try simp (disch := omega) only [↓i_in, ↓i_isCouple, ↓i_isBridge, ↓i_isTheme, ↓i_isBarge, i_lt, i_le, i_eq, i_clamp, i_upd, i_m1, Int32.toInt_toInt64, Int32.toInt_add, Int32.toInt_sub, Int32.toInt_mul, bm32, Int32.reduceToInt, Int64.reduceToInt, Nat.reduceLT, Nat.reduceEqDiff, reduceIte, true_or, or_true, true_and, and_true, false_or, or_false, not_true_eq_false, not_false_eq_true, eq_self] at c_9
      exact ih (upd w_1m0 15 ((w_1m0 15) + 1)) (⟨(PI_u15 i_1 (by first | omega | (simp (disch := omega) only [↓i_in, ↓i_isCouple, ↓i_isBridge, ↓i_isTheme, ↓i_isBarge, i_lt, i_le, i_eq, i_clamp, i_upd, i_m1, Int32.toInt_toInt64, Int32.toInt_add, Int32.toInt_sub, Int32.toInt_mul, bm32, Int32.reduceToInt, Int64.reduceToInt, Nat.reduceLT, Nat.reduceEqDiff, reduceIte, true_or, or_true, true_and, and_true, false_or, or_false, not_true_eq_false, not_false_eq_true, eq_self] <;> omega)) (by first | omega | (simp (disch := omega) only [↓i_in, ↓i_isCouple, ↓i_isBridge, ↓i_isTheme, ↓i_isBarge, i_lt, i_le, i_eq, i_clamp, i_upd, i_m1, Int32.toInt_toInt64, Int32.toInt_add, Int32.toInt_sub, Int32.toInt_mul, bm32, Int32.reduceToInt, Int64.reduceToInt, Nat.reduceLT, Nat.reduceEqDiff, reduceIte, true_or, or_true, true_and, and_true, false_or, or_false, not_true_eq_false, not_false_eq_true, eq_self] <;> omega))), (by first | omega | (simp (disch := omega) only [↓i_in, ↓i_isCouple, ↓i_isBridge, ↓i_isTheme, ↓i_isBarge, i_lt, i_le, i_eq, i_clamp, i_upd, i_m1, Int32.toInt_toInt64, Int32.toInt_add, Int32.toInt_sub, Int32.toInt_mul, bm32, Int32.reduceToInt, Int64.reduceToInt, Nat.reduceLT, Nat.reduceEqDiff, reduceIte, true_or, or_true, true_and, and_true, false_or, or_false, not_true_eq_false, not_false_eq_true, eq_self] <;> omega)), (by first | omega | (simp (disch := omega) only [↓i_in, ↓i_isCouple, ↓i_isBridge, ↓i_isTheme, ↓i_isBarge, i_lt, i_le, i_eq, i_clamp, i_upd, i_m1, Int32.toInt_toInt64, Int32.toInt_add, Int32.toInt_sub, Int32.toInt_mul, bm32, Int32.reduceToInt, Int64.reduceToInt, Nat.reduceLT, Nat.reduceEqDiff, reduceIte, true_or, or_true, true_and, and_true, false_or, or_false, not_true_eq_false, not_false_eq_true, eq_self] <;> omega)), (by first | omega | (simp (disch := omega) only [↓i_in, ↓i_isCouple, ↓i_isBridge, ↓i_isTheme, ↓i_isBarge, i_lt, i_le, i_eq, i_clamp, i_upd, i_m1, Int32.toInt_toInt64, Int32.toInt_add, Int32.toInt_sub, Int32.toInt_mul, bm32, Int32.reduceToInt, Int64.reduceToInt, Nat.reduceLT, Nat.reduceEqDiff, reduceIte, true_or, or_true, true_and, and_true, false_or, or_false, not_true_eq_false, not_false_eq_true, eq_self] <;> omega)), (by first | omega | (simp (disch := omega) only [↓i_in, ↓i_isCouple, ↓i_isBridge, ↓i_isTheme, ↓i_isBarge, i_lt, i_le, i_eq, i_clamp, i_upd, i_m1, Int32.toInt_toInt64, Int32.toInt_add, Int32.toInt_sub, Int32.toInt_mul, bm32, Int32.reduceToInt, Int64.reduceToInt, Nat.reduceLT, Nat.reduceEqDiff, reduceIte, true_or, or_true, true_and, and_true, false_or, or_false, not_true_eq_false, not_false_eq_true, eq_self] <;> omega)), (by first | omega | (simp (disch := omega) only [↓i_in, ↓i_isCouple, ↓i_isBridge, ↓i_isTheme, ↓i_isBarge, i_lt, i_le, i_eq, i_clamp, i_upd, i_m1, Int32.toInt_toInt64, Int32.toInt_add, Int32.toInt_sub, Int32.toInt_mul, bm32, Int32.reduceToInt, Int64.reduceToInt, Nat.reduceLT, Nat.reduceEqDiff, reduceIte, true_or, or_true, true_and, and_true, false_or, or_false, not_true_eq_false, not_false_eq_true, eq_self] <;> omega)), (by first | omega | (simp (disch := omega) only [↓i_in, ↓i_isCouple, ↓i_isBridge, ↓i_isTheme, ↓i_isBarge, i_lt, i_le, i_eq, i_clamp, i_upd, i_m1, Int32.toInt_toInt64, Int32.toInt_add, Int32.toInt_sub, Int32.toInt_mul, bm32, Int32.reduceToInt, Int64.reduceToInt, Nat.reduceLT, Nat.reduceEqDiff, reduceIte, true_or, or_true, true_and, and_true, false_or, or_false, not_true_eq_false, not_false_eq_true, eq_self] <;> omega))⟩) _ e
    · rw [if_neg c_9] at e
      try simp (disch := omega) only [↓i_in, ↓i_isCouple, ↓i_isBridge, ↓i_isTheme, ↓i_isBarge, i_lt, i_le, i_eq, i_clamp, i_upd, i_m1, Int32.toInt_toInt64, Int32.toInt_add, Int32.toInt_sub, Int32.toInt_mul, bm32, Int32.reduceToInt, Int64.reduceToInt, Nat.reduceLT, Nat.reduceEqDiff, reduceIte, true_or, or_true, true_and, and_true, false_or, or_false, not_true_eq_false, not_false_eq_true, eq_self] at c_9
      cases e
      exact hI
set_option maxHeartbeats 4000000 in
theorem s_here {G : Nat → Int32} {f13 : Nat → Int32} (h_0 : PI G) : S_m_here G f13 := by
  unfold S_m_here
  have h_0_g := h_0
  obtain ⟨⟨⟨h_0_2a, h_0_2b⟩, ⟨h_0_3a, h_0_3b⟩, ⟨h_0_4a, h_0_4b⟩, ⟨h_0_5a, h_0_5b⟩, ⟨h_0_6a, h_0_6b⟩, ⟨h_0_14a, h_0_14b⟩, ⟨h_0_42a, h_0_42b⟩⟩, ⟨h_0_15a, h_0_15b⟩, ⟨h_0_20a, h_0_20b⟩, ⟨h_0_21a, h_0_21b⟩, ⟨h_0_23a, h_0_23b⟩, ⟨h_0_24a, h_0_24b⟩⟩ := h_0_g
  refine sl_here_0 (G := G) ?_ 300 G (⟨h_0, (by first | omega | (simp (disch := omega) only [↓i_in, ↓i_isCouple, ↓i_isBridge, ↓i_isTheme, ↓i_isBarge, i_lt, i_le, i_eq, i_clamp, i_upd, i_m1, Int32.toInt_toInt64, Int32.toInt_add, Int32.toInt_sub, Int32.toInt_mul, bm32, Int32.reduceToInt, Int64.reduceToInt, Nat.reduceLT, Nat.reduceEqDiff, reduceIte, true_or, or_true, true_and, and_true, false_or, or_false, not_true_eq_false, not_false_eq_true, eq_self] <;> omega)), (by first | omega | (simp (disch := omega) only [↓i_in, ↓i_isCouple, ↓i_isBridge, ↓i_isTheme, ↓i_isBarge, i_lt, i_le, i_eq, i_clamp, i_upd, i_m1, Int32.toInt_toInt64, Int32.toInt_add, Int32.toInt_sub, Int32.toInt_mul, bm32, Int32.reduceToInt, Int64.reduceToInt, Nat.reduceLT, Nat.reduceEqDiff, reduceIte, true_or, or_true, true_and, and_true, false_or, or_false, not_true_eq_false, not_false_eq_true, eq_self] <;> omega)), (by first | omega | (simp (disch := omega) only [↓i_in, ↓i_isCouple, ↓i_isBridge, ↓i_isTheme, ↓i_isBarge, i_lt, i_le, i_eq, i_clamp, i_upd, i_m1, Int32.toInt_toInt64, Int32.toInt_add, Int32.toInt_sub, Int32.toInt_mul, bm32, Int32.reduceToInt, Int64.reduceToInt, Nat.reduceLT, Nat.reduceEqDiff, reduceIte, true_or, or_true, true_and, and_true, false_or, or_false, not_true_eq_false, not_false_eq_true, eq_self] <;> omega)), (by first | omega | (simp (disch := omega) only [↓i_in, ↓i_isCouple, ↓i_isBridge, ↓i_isTheme, ↓i_isBarge, i_lt, i_le, i_eq, i_clamp, i_upd, i_m1, Int32.toInt_toInt64, Int32.toInt_add, Int32.toInt_sub, Int32.toInt_mul, bm32, Int32.reduceToInt, Int64.reduceToInt, Nat.reduceLT, Nat.reduceEqDiff, reduceIte, true_or, or_true, true_and, and_true, false_or, or_false, not_true_eq_false, not_false_eq_true, eq_self] <;> omega)), (by first | omega | (simp (disch := omega) only [↓i_in, ↓i_isCouple, ↓i_isBridge, ↓i_isTheme, ↓i_isBarge, i_lt, i_le, i_eq, i_clamp, i_upd, i_m1, Int32.toInt_toInt64, Int32.toInt_add, Int32.toInt_sub, Int32.toInt_mul, bm32, Int32.reduceToInt, Int64.reduceToInt, Nat.reduceLT, Nat.reduceEqDiff, reduceIte, true_or, or_true, true_and, and_true, false_or, or_false, not_true_eq_false, not_false_eq_true, eq_self] <;> omega)), (by first | omega | (simp (disch := omega) only [↓i_in, ↓i_isCouple, ↓i_isBridge, ↓i_isTheme, ↓i_isBarge, i_lt, i_le, i_eq, i_clamp, i_upd, i_m1, Int32.toInt_toInt64, Int32.toInt_add, Int32.toInt_sub, Int32.toInt_mul, bm32, Int32.reduceToInt, Int64.reduceToInt, Nat.reduceLT, Nat.reduceEqDiff, reduceIte, true_or, or_true, true_and, and_true, false_or, or_false, not_true_eq_false, not_false_eq_true, eq_self] <;> omega))⟩) (by first | omega | (simp (disch := omega) only [↓i_in, ↓i_isCouple, ↓i_isBridge, ↓i_isTheme, ↓i_isBarge, i_lt, i_le, i_eq, i_clamp, i_upd, i_m1, Int32.toInt_toInt64, Int32.toInt_add, Int32.toInt_sub, Int32.toInt_mul, bm32, Int32.reduceToInt, Int64.reduceToInt, Nat.reduceLT, Nat.reduceEqDiff, reduceIte, true_or, or_true, true_and, and_true, false_or, or_false, not_true_eq_false, not_false_eq_true, eq_self] <;> omega))
  intro w_1m0 i_1
  obtain ⟨i_2, i_3, i_4, i_5, i_6, i_7, i_8⟩ := i_1
  have i_2_g := i_2
  obtain ⟨⟨⟨i_2_2a, i_2_2b⟩, ⟨i_2_3a, i_2_3b⟩, ⟨i_2_4a, i_2_4b⟩, ⟨i_2_5a, i_2_5b⟩, ⟨i_2_6a, i_2_6b⟩, ⟨i_2_14a, i_2_14b⟩, ⟨i_2_42a, i_2_42b⟩⟩, ⟨i_2_15a, i_2_15b⟩, ⟨i_2_20a, i_2_20b⟩, ⟨i_2_21a, i_2_21b⟩, ⟨i_2_23a, i_2_23b⟩, ⟨i_2_24a, i_2_24b⟩⟩ := i_2_g
  refine ⟨(s_letterAt (by first | omega | (simp (disch := omega) only [↓i_in, ↓i_isCouple, ↓i_isBridge, ↓i_isTheme, ↓i_isBarge, i_lt, i_le, i_eq, i_clamp, i_upd, i_m1, Int32.toInt_toInt64, Int32.toInt_add, Int32.toInt_sub, Int32.toInt_mul, bm32, Int32.reduceToInt, Int64.reduceToInt, Nat.reduceLT, Nat.reduceEqDiff, reduceIte, true_or, or_true, true_and, and_true, false_or, or_false, not_true_eq_false, not_false_eq_true, eq_self] <;> omega)) (by first | omega | (simp (disch := omega) only [↓i_in, ↓i_isCouple, ↓i_isBridge, ↓i_isTheme, ↓i_isBarge, i_lt, i_le, i_eq, i_clamp, i_upd, i_m1, Int32.toInt_toInt64, Int32.toInt_add, Int32.toInt_sub, Int32.toInt_mul, bm32, Int32.reduceToInt, Int64.reduceToInt, Nat.reduceLT, Nat.reduceEqDiff, reduceIte, true_or, or_true, true_and, and_true, false_or, or_false, not_true_eq_false, not_false_eq_true, eq_self] <;> omega))), ?_⟩
  have v_9 := p_letterAt (G := (upd w_1m0 16 (w_1m0 15))) (f13 := f13) (k_ := (w_1m0 15))
  try simp (disch := omega) only [↓i_in, ↓i_isCouple, ↓i_isBridge, ↓i_isTheme, ↓i_isBarge, i_lt, i_le, i_eq, i_clamp, i_upd, i_m1, Int32.toInt_toInt64, Int32.toInt_add, Int32.toInt_sub, Int32.toInt_mul, bm32, Int32.reduceToInt, Int64.reduceToInt, Nat.reduceLT, Nat.reduceEqDiff, reduceIte, true_or, or_true, true_and, and_true, false_or, or_false, not_true_eq_false, not_false_eq_true, eq_self] at v_9
  exact trivial
set_option maxHeartbeats 4000000 in
theorem p_here {G : Nat → Int32} {f13 : Nat → Int32} (h_0 : PI G) : ∀ (r : Int32) (u : (Nat → Int32)), f_m_here G f13 = (r, u) → PI u ∧ ((G 15).toInt ≤ (u 15).toInt) ∧ ((u 14).toInt = (G 14).toInt) ∧ ((u 20).toInt = (G 20).toInt) ∧ ((u 21).toInt = (G 21).toInt) ∧ ((u 23).toInt = (G 23).toInt) ∧ ((u 24).toInt = (G 24).toInt) ∧ (r.toInt = -1 ∨ (u 15).toInt < (u 14).toInt) := by
  have h_0_g := h_0
  obtain ⟨⟨⟨h_0_2a, h_0_2b⟩, ⟨h_0_3a, h_0_3b⟩, ⟨h_0_4a, h_0_4b⟩, ⟨h_0_5a, h_0_5b⟩, ⟨h_0_6a, h_0_6b⟩, ⟨h_0_14a, h_0_14b⟩, ⟨h_0_42a, h_0_42b⟩⟩, ⟨h_0_15a, h_0_15b⟩, ⟨h_0_20a, h_0_20b⟩, ⟨h_0_21a, h_0_21b⟩, ⟨h_0_23a, h_0_23b⟩, ⟨h_0_24a, h_0_24b⟩⟩ := h_0_g
  intro r u e
  unfold f_m_here at e
  generalize x_1 : (f_m_here_0 f13 300 G) = z_2 at e
  obtain ⟨w_1m0, hz_z_2⟩ : ∃ q, q = z_2 := ⟨_, rfl⟩
  rw [← hz_z_2] at e x_1
  replace e : (((f_m_letterAt (upd w_1m0 16 (w_1m0 15)) f13 (w_1m0 15)), (upd w_1m0 16 (w_1m0 15))) : Int32 × (Nat → Int32)) = (r, u) := e
  have p_3 := pl_here_0 (G := G) 300 G (⟨h_0, (by first | omega | (simp (disch := omega) only [↓i_in, ↓i_isCouple, ↓i_isBridge, ↓i_isTheme, ↓i_isBarge, i_lt, i_le, i_eq, i_clamp, i_upd, i_m1, Int32.toInt_toInt64, Int32.toInt_add, Int32.toInt_sub, Int32.toInt_mul, bm32, Int32.reduceToInt, Int64.reduceToInt, Nat.reduceLT, Nat.reduceEqDiff, reduceIte, true_or, or_true, true_and, and_true, false_or, or_false, not_true_eq_false, not_false_eq_true, eq_self] <;> omega)), (by first | omega | (simp (disch := omega) only [↓i_in, ↓i_isCouple, ↓i_isBridge, ↓i_isTheme, ↓i_isBarge, i_lt, i_le, i_eq, i_clamp, i_upd, i_m1, Int32.toInt_toInt64, Int32.toInt_add, Int32.toInt_sub, Int32.toInt_mul, bm32, Int32.reduceToInt, Int64.reduceToInt, Nat.reduceLT, Nat.reduceEqDiff, reduceIte, true_or, or_true, true_and, and_true, false_or, or_false, not_true_eq_false, not_false_eq_true, eq_self] <;> omega)), (by first | omega | (simp (disch := omega) only [↓i_in, ↓i_isCouple, ↓i_isBridge, ↓i_isTheme, ↓i_isBarge, i_lt, i_le, i_eq, i_clamp, i_upd, i_m1, Int32.toInt_toInt64, Int32.toInt_add, Int32.toInt_sub, Int32.toInt_mul, bm32, Int32.reduceToInt, Int64.reduceToInt, Nat.reduceLT, Nat.reduceEqDiff, reduceIte, true_or, or_true, true_and, and_true, false_or, or_false, not_true_eq_false, not_false_eq_true, eq_self] <;> omega)), (by first | omega | (simp (disch := omega) only [↓i_in, ↓i_isCouple, ↓i_isBridge, ↓i_isTheme, ↓i_isBarge, i_lt, i_le, i_eq, i_clamp, i_upd, i_m1, Int32.toInt_toInt64, Int32.toInt_add, Int32.toInt_sub, Int32.toInt_mul, bm32, Int32.reduceToInt, Int64.reduceToInt, Nat.reduceLT, Nat.reduceEqDiff, reduceIte, true_or, or_true, true_and, and_true, false_or, or_false, not_true_eq_false, not_false_eq_true, eq_self] <;> omega)), (by first | omega | (simp (disch := omega) only [↓i_in, ↓i_isCouple, ↓i_isBridge, ↓i_isTheme, ↓i_isBarge, i_lt, i_le, i_eq, i_clamp, i_upd, i_m1, Int32.toInt_toInt64, Int32.toInt_add, Int32.toInt_sub, Int32.toInt_mul, bm32, Int32.reduceToInt, Int64.reduceToInt, Nat.reduceLT, Nat.reduceEqDiff, reduceIte, true_or, or_true, true_and, and_true, false_or, or_false, not_true_eq_false, not_false_eq_true, eq_self] <;> omega)), (by first | omega | (simp (disch := omega) only [↓i_in, ↓i_isCouple, ↓i_isBridge, ↓i_isTheme, ↓i_isBarge, i_lt, i_le, i_eq, i_clamp, i_upd, i_m1, Int32.toInt_toInt64, Int32.toInt_add, Int32.toInt_sub, Int32.toInt_mul, bm32, Int32.reduceToInt, Int64.reduceToInt, Nat.reduceLT, Nat.reduceEqDiff, reduceIte, true_or, or_true, true_and, and_true, false_or, or_false, not_true_eq_false, not_false_eq_true, eq_self] <;> omega))⟩) _ x_1
  obtain ⟨i_4, i_5, i_6, i_7, i_8, i_9, i_10⟩ := p_3
  have i_4_g := i_4
  obtain ⟨⟨⟨i_4_2a, i_4_2b⟩, ⟨i_4_3a, i_4_3b⟩, ⟨i_4_4a, i_4_4b⟩, ⟨i_4_5a, i_4_5b⟩, ⟨i_4_6a, i_4_6b⟩, ⟨i_4_14a, i_4_14b⟩, ⟨i_4_42a, i_4_42b⟩⟩, ⟨i_4_15a, i_4_15b⟩, ⟨i_4_20a, i_4_20b⟩, ⟨i_4_21a, i_4_21b⟩, ⟨i_4_23a, i_4_23b⟩, ⟨i_4_24a, i_4_24b⟩⟩ := i_4_g
  cases e
  have v_11 := p_letterAt (G := (upd w_1m0 16 (w_1m0 15))) (f13 := f13) (k_ := (w_1m0 15))
  try simp (disch := omega) only [↓i_in, ↓i_isCouple, ↓i_isBridge, ↓i_isTheme, ↓i_isBarge, i_lt, i_le, i_eq, i_clamp, i_upd, i_m1, Int32.toInt_toInt64, Int32.toInt_add, Int32.toInt_sub, Int32.toInt_mul, bm32, Int32.reduceToInt, Int64.reduceToInt, Nat.reduceLT, Nat.reduceEqDiff, reduceIte, true_or, or_true, true_and, and_true, false_or, or_false, not_true_eq_false, not_false_eq_true, eq_self] at v_11
  exact ⟨(PI_upd i_4 (by decide)), (by first | omega | (simp (disch := omega) only [↓i_in, ↓i_isCouple, ↓i_isBridge, ↓i_isTheme, ↓i_isBarge, i_lt, i_le, i_eq, i_clamp, i_upd, i_m1, Int32.toInt_toInt64, Int32.toInt_add, Int32.toInt_sub, Int32.toInt_mul, bm32, Int32.reduceToInt, Int64.reduceToInt, Nat.reduceLT, Nat.reduceEqDiff, reduceIte, true_or, or_true, true_and, and_true, false_or, or_false, not_true_eq_false, not_false_eq_true, eq_self] <;> omega)), (by first | omega | (simp (disch := omega) only [↓i_in, ↓i_isCouple, ↓i_isBridge, ↓i_isTheme, ↓i_isBarge, i_lt, i_le, i_eq, i_clamp, i_upd, i_m1, Int32.toInt_toInt64, Int32.toInt_add, Int32.toInt_sub, Int32.toInt_mul, bm32, Int32.reduceToInt, Int64.reduceToInt, Nat.reduceLT, Nat.reduceEqDiff, reduceIte, true_or, or_true, true_and, and_true, false_or, or_false, not_true_eq_false, not_false_eq_true, eq_self] <;> omega)), (by first | omega | (simp (disch := omega) only [↓i_in, ↓i_isCouple, ↓i_isBridge, ↓i_isTheme, ↓i_isBarge, i_lt, i_le, i_eq, i_clamp, i_upd, i_m1, Int32.toInt_toInt64, Int32.toInt_add, Int32.toInt_sub, Int32.toInt_mul, bm32, Int32.reduceToInt, Int64.reduceToInt, Nat.reduceLT, Nat.reduceEqDiff, reduceIte, true_or, or_true, true_and, and_true, false_or, or_false, not_true_eq_false, not_false_eq_true, eq_self] <;> omega)), (by first | omega | (simp (disch := omega) only [↓i_in, ↓i_isCouple, ↓i_isBridge, ↓i_isTheme, ↓i_isBarge, i_lt, i_le, i_eq, i_clamp, i_upd, i_m1, Int32.toInt_toInt64, Int32.toInt_add, Int32.toInt_sub, Int32.toInt_mul, bm32, Int32.reduceToInt, Int64.reduceToInt, Nat.reduceLT, Nat.reduceEqDiff, reduceIte, true_or, or_true, true_and, and_true, false_or, or_false, not_true_eq_false, not_false_eq_true, eq_self] <;> omega)), (by first | omega | (simp (disch := omega) only [↓i_in, ↓i_isCouple, ↓i_isBridge, ↓i_isTheme, ↓i_isBarge, i_lt, i_le, i_eq, i_clamp, i_upd, i_m1, Int32.toInt_toInt64, Int32.toInt_add, Int32.toInt_sub, Int32.toInt_mul, bm32, Int32.reduceToInt, Int64.reduceToInt, Nat.reduceLT, Nat.reduceEqDiff, reduceIte, true_or, or_true, true_and, and_true, false_or, or_false, not_true_eq_false, not_false_eq_true, eq_self] <;> omega)), (by first | omega | (simp (disch := omega) only [↓i_in, ↓i_isCouple, ↓i_isBridge, ↓i_isTheme, ↓i_isBarge, i_lt, i_le, i_eq, i_clamp, i_upd, i_m1, Int32.toInt_toInt64, Int32.toInt_add, Int32.toInt_sub, Int32.toInt_mul, bm32, Int32.reduceToInt, Int64.reduceToInt, Nat.reduceLT, Nat.reduceEqDiff, reduceIte, true_or, or_true, true_and, and_true, false_or, or_false, not_true_eq_false, not_false_eq_true, eq_self] <;> omega)), (by first | omega | (simp (disch := omega) only [↓i_in, ↓i_isCouple, ↓i_isBridge, ↓i_isTheme, ↓i_isBarge, i_lt, i_le, i_eq, i_clamp, i_upd, i_m1, Int32.toInt_toInt64, Int32.toInt_add, Int32.toInt_sub, Int32.toInt_mul, bm32, Int32.reduceToInt, Int64.reduceToInt, Nat.reduceLT, Nat.reduceEqDiff, reduceIte, true_or, or_true, true_and, and_true, false_or, or_false, not_true_eq_false, not_false_eq_true, eq_self] <;> omega))⟩
set_option maxHeartbeats 4000000 in
theorem p_fails {G : Nat → Int32} {k_ : Int32} {p_ : Int32} (h_0 : PI G) : ∀ (r : Int32) (u : (Nat → Int32)), f_m_fails G k_ p_ = (r, u) → PI u ∧ ((G 15).toInt ≤ (u 15).toInt) ∧ ((u 14).toInt = (G 14).toInt) ∧ ((u 20).toInt = (G 20).toInt) ∧ ((u 21).toInt = (G 21).toInt) ∧ ((u 23).toInt = (G 23).toInt) ∧ ((u 24).toInt = (G 24).toInt) ∧ (r.toInt = 0) := by
  have h_0_g := h_0
  obtain ⟨⟨⟨h_0_2a, h_0_2b⟩, ⟨h_0_3a, h_0_3b⟩, ⟨h_0_4a, h_0_4b⟩, ⟨h_0_5a, h_0_5b⟩, ⟨h_0_6a, h_0_6b⟩, ⟨h_0_14a, h_0_14b⟩, ⟨h_0_42a, h_0_42b⟩⟩, ⟨h_0_15a, h_0_15b⟩, ⟨h_0_20a, h_0_20b⟩, ⟨h_0_21a, h_0_21b⟩, ⟨h_0_23a, h_0_23b⟩, ⟨h_0_24a, h_0_24b⟩⟩ := h_0_g
  intro r u e
  unfold f_m_fails at e
  cases e
  exact ⟨(PI_upd (PI_upd h_0 (by decide)) (by decide)), (by first | omega | (simp (disch := omega) only [↓i_in, ↓i_isCouple, ↓i_isBridge, ↓i_isTheme, ↓i_isBarge, i_lt, i_le, i_eq, i_clamp, i_upd, i_m1, Int32.toInt_toInt64, Int32.toInt_add, Int32.toInt_sub, Int32.toInt_mul, bm32, Int32.reduceToInt, Int64.reduceToInt, Nat.reduceLT, Nat.reduceEqDiff, reduceIte, true_or, or_true, true_and, and_true, false_or, or_false, not_true_eq_false, not_false_eq_true, eq_self] <;> omega)), (by first | omega | (simp (disch := omega) only [↓i_in, ↓i_isCouple, ↓i_isBridge, ↓i_isTheme, ↓i_isBarge, i_lt, i_le, i_eq, i_clamp, i_upd, i_m1, Int32.toInt_toInt64, Int32.toInt_add, Int32.toInt_sub, Int32.toInt_mul, bm32, Int32.reduceToInt, Int64.reduceToInt, Nat.reduceLT, Nat.reduceEqDiff, reduceIte, true_or, or_true, true_and, and_true, false_or, or_false, not_true_eq_false, not_false_eq_true, eq_self] <;> omega)), (by first | omega | (simp (disch := omega) only [↓i_in, ↓i_isCouple, ↓i_isBridge, ↓i_isTheme, ↓i_isBarge, i_lt, i_le, i_eq, i_clamp, i_upd, i_m1, Int32.toInt_toInt64, Int32.toInt_add, Int32.toInt_sub, Int32.toInt_mul, bm32, Int32.reduceToInt, Int64.reduceToInt, Nat.reduceLT, Nat.reduceEqDiff, reduceIte, true_or, or_true, true_and, and_true, false_or, or_false, not_true_eq_false, not_false_eq_true, eq_self] <;> omega)), (by first | omega | (simp (disch := omega) only [↓i_in, ↓i_isCouple, ↓i_isBridge, ↓i_isTheme, ↓i_isBarge, i_lt, i_le, i_eq, i_clamp, i_upd, i_m1, Int32.toInt_toInt64, Int32.toInt_add, Int32.toInt_sub, Int32.toInt_mul, bm32, Int32.reduceToInt, Int64.reduceToInt, Nat.reduceLT, Nat.reduceEqDiff, reduceIte, true_or, or_true, true_and, and_true, false_or, or_false, not_true_eq_false, not_false_eq_true, eq_self] <;> omega)), (by first | omega | (simp (disch := omega) only [↓i_in, ↓i_isCouple, ↓i_isBridge, ↓i_isTheme, ↓i_isBarge, i_lt, i_le, i_eq, i_clamp, i_upd, i_m1, Int32.toInt_toInt64, Int32.toInt_add, Int32.toInt_sub, Int32.toInt_mul, bm32, Int32.reduceToInt, Int64.reduceToInt, Nat.reduceLT, Nat.reduceEqDiff, reduceIte, true_or, or_true, true_and, and_true, false_or, or_false, not_true_eq_false, not_false_eq_true, eq_self] <;> omega)), (by first | omega | (simp (disch := omega) only [↓i_in, ↓i_isCouple, ↓i_isBridge, ↓i_isTheme, ↓i_isBarge, i_lt, i_le, i_eq, i_clamp, i_upd, i_m1, Int32.toInt_toInt64, Int32.toInt_add, Int32.toInt_sub, Int32.toInt_mul, bm32, Int32.reduceToInt, Int64.reduceToInt, Nat.reduceLT, Nat.reduceEqDiff, reduceIte, true_or, or_true, true_and, and_true, false_or, or_false, not_true_eq_false, not_false_eq_true, eq_self] <;> omega)), (by first | omega | (simp (disch := omega) only [↓i_in, ↓i_isCouple, ↓i_isBridge, ↓i_isTheme, ↓i_isBarge, i_lt, i_le, i_eq, i_clamp, i_upd, i_m1, Int32.toInt_toInt64, Int32.toInt_add, Int32.toInt_sub, Int32.toInt_mul, bm32, Int32.reduceToInt, Int64.reduceToInt, Nat.reduceLT, Nat.reduceEqDiff, reduceIte, true_or, or_true, true_and, and_true, false_or, or_false, not_true_eq_false, not_false_eq_true, eq_self] <;> omega))⟩
set_option maxHeartbeats 4000000 in
theorem s_takes {G : Nat → Int32} {f13 : Nat → Int32} {c_ : Int32} (h_0 : PI G) (h_1 : ¬ c_.toInt = -1) : S_m_takes G f13 c_ := by
  unfold S_m_takes
  have h_0_g := h_0
  obtain ⟨⟨⟨h_0_2a, h_0_2b⟩, ⟨h_0_3a, h_0_3b⟩, ⟨h_0_4a, h_0_4b⟩, ⟨h_0_5a, h_0_5b⟩, ⟨h_0_6a, h_0_6b⟩, ⟨h_0_14a, h_0_14b⟩, ⟨h_0_42a, h_0_42b⟩⟩, ⟨h_0_15a, h_0_15b⟩, ⟨h_0_20a, h_0_20b⟩, ⟨h_0_21a, h_0_21b⟩, ⟨h_0_23a, h_0_23b⟩, ⟨h_0_24a, h_0_24b⟩⟩ := h_0_g
  refine ⟨(s_here h_0), ?_⟩
  intro r_3 u_2 e_1
  have p_2 := p_here h_0 _ _ e_1.symm
  obtain ⟨i_3, i_4, i_5, i_6, i_7, i_8, i_9, i_10⟩ := p_2
  have i_3_g := i_3
  obtain ⟨⟨⟨i_3_2a, i_3_2b⟩, ⟨i_3_3a, i_3_3b⟩, ⟨i_3_4a, i_3_4b⟩, ⟨i_3_5a, i_3_5b⟩, ⟨i_3_6a, i_3_6b⟩, ⟨i_3_14a, i_3_14b⟩, ⟨i_3_42a, i_3_42b⟩⟩, ⟨i_3_15a, i_3_15b⟩, ⟨i_3_20a, i_3_20b⟩, ⟨i_3_21a, i_3_21b⟩, ⟨i_3_23a, i_3_23b⟩, ⟨i_3_24a, i_3_24b⟩⟩ := i_3_g
  refine ⟨fun c_11 => ?_, fun c_11 => ?_⟩
  · exact trivial
  · skip
    try simp (disch := omega) only [↓i_in, ↓i_isCouple, ↓i_isBridge, ↓i_isTheme, ↓i_isBarge, i_lt, i_le, i_eq, i_clamp, i_upd, i_m1, Int32.toInt_toInt64, Int32.toInt_add, Int32.toInt_sub, Int32.toInt_mul, bm32, Int32.reduceToInt, Int64.reduceToInt, Nat.reduceLT, Nat.reduceEqDiff, reduceIte, true_or, or_true, true_and, and_true, false_or, or_false, not_true_eq_false, not_false_eq_true, eq_self] at c_11
    refine ⟨s_fails, ?_⟩
    intro r_7 u_6 e_12
    have p_13 := p_fails i_3 _ _ e_12.symm
    obtain ⟨i_14, i_15, i_16, i_17, i_18, i_19, i_20, i_21⟩ := p_13
    have i_14_g := i_14
    obtain ⟨⟨⟨i_14_2a, i_14_2b⟩, ⟨i_14_3a, i_14_3b⟩, ⟨i_14_4a, i_14_4b⟩, ⟨i_14_5a, i_14_5b⟩, ⟨i_14_6a, i_14_6b⟩, ⟨i_14_14a, i_14_14b⟩, ⟨i_14_42a, i_14_42b⟩⟩, ⟨i_14_15a, i_14_15b⟩, ⟨i_14_20a, i_14_20b⟩, ⟨i_14_21a, i_14_21b⟩, ⟨i_14_23a, i_14_23b⟩, ⟨i_14_24a, i_14_24b⟩⟩ := i_14_g
    exact trivial
set_option maxHeartbeats 4000000 in
theorem p_takes {G : Nat → Int32} {f13 : Nat → Int32} {c_ : Int32} (h_0 : PI G) (h_1 : ¬ c_.toInt = -1) : ∀ (r : Int32) (u : (Nat → Int32)), f_m_takes G f13 c_ = (r, u) → PI u ∧ ((G 15).toInt ≤ (u 15).toInt) ∧ ((u 14).toInt = (G 14).toInt) ∧ ((u 20).toInt = (G 20).toInt) ∧ ((u 21).toInt = (G 21).toInt) ∧ ((u 23).toInt = (G 23).toInt) ∧ ((u 24).toInt = (G 24).toInt) := by
  have h_0_g := h_0
  obtain ⟨⟨⟨h_0_2a, h_0_2b⟩, ⟨h_0_3a, h_0_3b⟩, ⟨h_0_4a, h_0_4b⟩, ⟨h_0_5a, h_0_5b⟩, ⟨h_0_6a, h_0_6b⟩, ⟨h_0_14a, h_0_14b⟩, ⟨h_0_42a, h_0_42b⟩⟩, ⟨h_0_15a, h_0_15b⟩, ⟨h_0_20a, h_0_20b⟩, ⟨h_0_21a, h_0_21b⟩, ⟨h_0_23a, h_0_23b⟩, ⟨h_0_24a, h_0_24b⟩⟩ := h_0_g
  intro r u e
  unfold f_m_takes at e
  generalize x_1 : (f_m_here G f13) = z_2 at e
  obtain ⟨r_3, u_2⟩ := z_2
  replace e : ((if r_3 = c_ then (1, (upd u_2 15 ((u_2 15) + 1))) else (match (f_m_fails u_2 1 (u_2 16)) with | (r_7, u_6) => (r_7, u_6))) : Int32 × (Nat → Int32)) = (r, u) := e
  have p_3 := p_here h_0 _ _ x_1
  obtain ⟨i_4, i_5, i_6, i_7, i_8, i_9, i_10, i_11⟩ := p_3
  have i_4_g := i_4
  obtain ⟨⟨⟨i_4_2a, i_4_2b⟩, ⟨i_4_3a, i_4_3b⟩, ⟨i_4_4a, i_4_4b⟩, ⟨i_4_5a, i_4_5b⟩, ⟨i_4_6a, i_4_6b⟩, ⟨i_4_14a, i_4_14b⟩, ⟨i_4_42a, i_4_42b⟩⟩, ⟨i_4_15a, i_4_15b⟩, ⟨i_4_20a, i_4_20b⟩, ⟨i_4_21a, i_4_21b⟩, ⟨i_4_23a, i_4_23b⟩, ⟨i_4_24a, i_4_24b⟩⟩ := i_4_g
  by_cases c_12 : r_3 = c_
  · rw [if_pos c_12] at e
    try simp (disch := omega) only [↓i_in, ↓i_isCouple, ↓i_isBridge, ↓i_isTheme, ↓i_isBarge, i_lt, i_le, i_eq, i_clamp, i_upd, i_m1, Int32.toInt_toInt64, Int32.toInt_add, Int32.toInt_sub, Int32.toInt_mul, bm32, Int32.reduceToInt, Int64.reduceToInt, Nat.reduceLT, Nat.reduceEqDiff, reduceIte, true_or, or_true, true_and, and_true, false_or, or_false, not_true_eq_false, not_false_eq_true, eq_self] at c_12
    cases e
    exact ⟨(PI_u15 i_4 (by first | omega | (simp (disch := omega) only [↓i_in, ↓i_isCouple, ↓i_isBridge, ↓i_isTheme, ↓i_isBarge, i_lt, i_le, i_eq, i_clamp, i_upd, i_m1, Int32.toInt_toInt64, Int32.toInt_add, Int32.toInt_sub, Int32.toInt_mul, bm32, Int32.reduceToInt, Int64.reduceToInt, Nat.reduceLT, Nat.reduceEqDiff, reduceIte, true_or, or_true, true_and, and_true, false_or, or_false, not_true_eq_false, not_false_eq_true, eq_self] <;> omega)) (by first | omega | (simp (disch := omega) only [↓i_in, ↓i_isCouple, ↓i_isBridge, ↓i_isTheme, ↓i_isBarge, i_lt, i_le, i_eq, i_clamp, i_upd, i_m1, Int32.toInt_toInt64, Int32.toInt_add, Int32.toInt_sub, Int32.toInt_mul, bm32, Int32.reduceToInt, Int64.reduceToInt, Nat.reduceLT, Nat.reduceEqDiff, reduceIte, true_or, or_true, true_and, and_true, false_or, or_false, not_true_eq_false, not_false_eq_true, eq_self] <;> omega))), (by first | omega | (simp (disch := omega) only [↓i_in, ↓i_isCouple, ↓i_isBridge, ↓i_isTheme, ↓i_isBarge, i_lt, i_le, i_eq, i_clamp, i_upd, i_m1, Int32.toInt_toInt64, Int32.toInt_add, Int32.toInt_sub, Int32.toInt_mul, bm32, Int32.reduceToInt, Int64.reduceToInt, Nat.reduceLT, Nat.reduceEqDiff, reduceIte, true_or, or_true, true_and, and_true, false_or, or_false, not_true_eq_false, not_false_eq_true, eq_self] <;> omega)), (by first | omega | (simp (disch := omega) only [↓i_in, ↓i_isCouple, ↓i_isBridge, ↓i_isTheme, ↓i_isBarge, i_lt, i_le, i_eq, i_clamp, i_upd, i_m1, Int32.toInt_toInt64, Int32.toInt_add, Int32.toInt_sub, Int32.toInt_mul, bm32, Int32.reduceToInt, Int64.reduceToInt, Nat.reduceLT, Nat.reduceEqDiff, reduceIte, true_or, or_true, true_and, and_true, false_or, or_false, not_true_eq_false, not_false_eq_true, eq_self] <;> omega)), (by first | omega | (simp (disch := omega) only [↓i_in, ↓i_isCouple, ↓i_isBridge, ↓i_isTheme, ↓i_isBarge, i_lt, i_le, i_eq, i_clamp, i_upd, i_m1, Int32.toInt_toInt64, Int32.toInt_add, Int32.toInt_sub, Int32.toInt_mul, bm32, Int32.reduceToInt, Int64.reduceToInt, Nat.reduceLT, Nat.reduceEqDiff, reduceIte, true_or, or_true, true_and, and_true, false_or, or_false, not_true_eq_false, not_false_eq_true, eq_self] <;> omega)), (by first | omega | (simp (disch := omega) only [↓i_in, ↓i_isCouple, ↓i_isBridge, ↓i_isTheme, ↓i_isBarge, i_lt, i_le, i_eq, i_clamp, i_upd, i_m1, Int32.toInt_toInt64, Int32.toInt_add, Int32.toInt_sub, Int32.toInt_mul, bm32, Int32.reduceToInt, Int64.reduceToInt, Nat.reduceLT, Nat.reduceEqDiff, reduceIte, true_or, or_true, true_and, and_true, false_or, or_false, not_true_eq_false, not_false_eq_true, eq_self] <;> omega)), (by first | omega | (simp (disch := omega) only [↓i_in, ↓i_isCouple, ↓i_isBridge, ↓i_isTheme, ↓i_isBarge, i_lt, i_le, i_eq, i_clamp, i_upd, i_m1, Int32.toInt_toInt64, Int32.toInt_add, Int32.toInt_sub, Int32.toInt_mul, bm32, Int32.reduceToInt, Int64.reduceToInt, Nat.reduceLT, Nat.reduceEqDiff, reduceIte, true_or, or_true, true_and, and_true, false_or, or_false, not_true_eq_false, not_false_eq_true, eq_self] <;> omega)), (by first | omega | (simp (disch := omega) only [↓i_in, ↓i_isCouple, ↓i_isBridge, ↓i_isTheme, ↓i_isBarge, i_lt, i_le, i_eq, i_clamp, i_upd, i_m1, Int32.toInt_toInt64, Int32.toInt_add, Int32.toInt_sub, Int32.toInt_mul, bm32, Int32.reduceToInt, Int64.reduceToInt, Nat.reduceLT, Nat.reduceEqDiff, reduceIte, true_or, or_true, true_and, and_true, false_or, or_false, not_true_eq_false, not_false_eq_true, eq_self] <;> omega))⟩
  · rw [if_neg c_12] at e
    try simp (disch := omega) only [↓i_in, ↓i_isCouple, ↓i_isBridge, ↓i_isTheme, ↓i_isBarge, i_lt, i_le, i_eq, i_clamp, i_upd, i_m1, Int32.toInt_toInt64, Int32.toInt_add, Int32.toInt_sub, Int32.toInt_mul, bm32, Int32.reduceToInt, Int64.reduceToInt, Nat.reduceLT, Nat.reduceEqDiff, reduceIte, true_or, or_true, true_and, and_true, false_or, or_false, not_true_eq_false, not_false_eq_true, eq_self] at c_12
    generalize x_13 : (f_m_fails u_2 1 (u_2 16)) = z_14 at e
    obtain ⟨r_7, u_6⟩ := z_14
    replace e : ((r_7, u_6) : Int32 × (Nat → Int32)) = (r, u) := e
    have p_15 := p_fails i_4 _ _ x_13
    obtain ⟨i_16, i_17, i_18, i_19, i_20, i_21, i_22, i_23⟩ := p_15
    have i_16_g := i_16
    obtain ⟨⟨⟨i_16_2a, i_16_2b⟩, ⟨i_16_3a, i_16_3b⟩, ⟨i_16_4a, i_16_4b⟩, ⟨i_16_5a, i_16_5b⟩, ⟨i_16_6a, i_16_6b⟩, ⟨i_16_14a, i_16_14b⟩, ⟨i_16_42a, i_16_42b⟩⟩, ⟨i_16_15a, i_16_15b⟩, ⟨i_16_20a, i_16_20b⟩, ⟨i_16_21a, i_16_21b⟩, ⟨i_16_23a, i_16_23b⟩, ⟨i_16_24a, i_16_24b⟩⟩ := i_16_g
    cases e
    exact ⟨i_16, (by first | omega | (simp (disch := omega) only [↓i_in, ↓i_isCouple, ↓i_isBridge, ↓i_isTheme, ↓i_isBarge, i_lt, i_le, i_eq, i_clamp, i_upd, i_m1, Int32.toInt_toInt64, Int32.toInt_add, Int32.toInt_sub, Int32.toInt_mul, bm32, Int32.reduceToInt, Int64.reduceToInt, Nat.reduceLT, Nat.reduceEqDiff, reduceIte, true_or, or_true, true_and, and_true, false_or, or_false, not_true_eq_false, not_false_eq_true, eq_self] <;> omega)), (by first | omega | (simp (disch := omega) only [↓i_in, ↓i_isCouple, ↓i_isBridge, ↓i_isTheme, ↓i_isBarge, i_lt, i_le, i_eq, i_clamp, i_upd, i_m1, Int32.toInt_toInt64, Int32.toInt_add, Int32.toInt_sub, Int32.toInt_mul, bm32, Int32.reduceToInt, Int64.reduceToInt, Nat.reduceLT, Nat.reduceEqDiff, reduceIte, true_or, or_true, true_and, and_true, false_or, or_false, not_true_eq_false, not_false_eq_true, eq_self] <;> omega)), (by first | omega | (simp (disch := omega) only [↓i_in, ↓i_isCouple, ↓i_isBridge, ↓i_isTheme, ↓i_isBarge, i_lt, i_le, i_eq, i_clamp, i_upd, i_m1, Int32.toInt_toInt64, Int32.toInt_add, Int32.toInt_sub, Int32.toInt_mul, bm32, Int32.reduceToInt, Int64.reduceToInt, Nat.reduceLT, Nat.reduceEqDiff, reduceIte, true_or, or_true, true_and, and_true, false_or, or_false, not_true_eq_false, not_false_eq_true, eq_self] <;> omega)), (by first | omega | (simp (disch := omega) only [↓i_in, ↓i_isCouple, ↓i_isBridge, ↓i_isTheme, ↓i_isBarge, i_lt, i_le, i_eq, i_clamp, i_upd, i_m1, Int32.toInt_toInt64, Int32.toInt_add, Int32.toInt_sub, Int32.toInt_mul, bm32, Int32.reduceToInt, Int64.reduceToInt, Nat.reduceLT, Nat.reduceEqDiff, reduceIte, true_or, or_true, true_and, and_true, false_or, or_false, not_true_eq_false, not_false_eq_true, eq_self] <;> omega)), (by first | omega | (simp (disch := omega) only [↓i_in, ↓i_isCouple, ↓i_isBridge, ↓i_isTheme, ↓i_isBarge, i_lt, i_le, i_eq, i_clamp, i_upd, i_m1, Int32.toInt_toInt64, Int32.toInt_add, Int32.toInt_sub, Int32.toInt_mul, bm32, Int32.reduceToInt, Int64.reduceToInt, Nat.reduceLT, Nat.reduceEqDiff, reduceIte, true_or, or_true, true_and, and_true, false_or, or_false, not_true_eq_false, not_false_eq_true, eq_self] <;> omega)), (by first | omega | (simp (disch := omega) only [↓i_in, ↓i_isCouple, ↓i_isBridge, ↓i_isTheme, ↓i_isBarge, i_lt, i_le, i_eq, i_clamp, i_upd, i_m1, Int32.toInt_toInt64, Int32.toInt_add, Int32.toInt_sub, Int32.toInt_mul, bm32, Int32.reduceToInt, Int64.reduceToInt, Nat.reduceLT, Nat.reduceEqDiff, reduceIte, true_or, or_true, true_and, and_true, false_or, or_false, not_true_eq_false, not_false_eq_true, eq_self] <;> omega))⟩
set_option maxHeartbeats 4000000 in
theorem sl_takesNumber_32 {G : Nat → Int32} {f13 : Nat → Int32} {K : (Nat → Int32) → Prop} (hK : ∀ w_8m0, (PI w_8m0 ∧ ((G 15).toInt ≤ (w_8m0 15).toInt) ∧ ((w_8m0 14).toInt = (G 14).toInt) ∧ ((w_8m0 20).toInt = (G 20).toInt) ∧ ((w_8m0 21).toInt = (G 21).toInt) ∧ ((w_8m0 23).toInt = (G 23).toInt) ∧ ((w_8m0 24).toInt = (G 24).toInt)) → K w_8m0) : ∀ (n : Nat) w_8m0, (PI w_8m0 ∧ ((G 15).toInt ≤ (w_8m0 15).toInt) ∧ ((w_8m0 14).toInt = (G 14).toInt) ∧ ((w_8m0 20).toInt = (G 20).toInt) ∧ ((w_8m0 21).toInt = (G 21).toInt) ∧ ((w_8m0 23).toInt = (G 23).toInt) ∧ ((w_8m0 24).toInt = (G 24).toInt)) → ((w_8m0 14).toInt - (w_8m0 15).toInt).toNat < n → S_m_takesNumber_32 f13 K n w_8m0 := by
  intro n
  induction n with
  | zero => intro w_8m0 hI hm; exact absurd hm (Nat.not_lt_zero _)
  | succ n ih =>
    intro w_8m0 hI hm
    rw [S_m_takesNumber_32_s]
    have hI0 := hI
    obtain ⟨i_1, i_2, i_3, i_4, i_5, i_6, i_7⟩ := hI0
    have i_1_g := i_1
    obtain ⟨⟨⟨i_1_2a, i_1_2b⟩, ⟨i_1_3a, i_1_3b⟩, ⟨i_1_4a, i_1_4b⟩, ⟨i_1_5a, i_1_5b⟩, ⟨i_1_6a, i_1_6b⟩, ⟨i_1_14a, i_1_14b⟩, ⟨i_1_42a, i_1_42b⟩⟩, ⟨i_1_15a, i_1_15b⟩, ⟨i_1_20a, i_1_20b⟩, ⟨i_1_21a, i_1_21b⟩, ⟨i_1_23a, i_1_23b⟩, ⟨i_1_24a, i_1_24b⟩⟩ := i_1_g
    refine ⟨(s_letterAt (by first | omega | (simp (disch := omega) only [↓i_in, ↓i_isCouple, ↓i_isBridge, ↓i_isTheme, ↓i_isBarge, i_lt, i_le, i_eq, i_clamp, i_upd, i_m1, Int32.toInt_toInt64, Int32.toInt_add, Int32.toInt_sub, Int32.toInt_mul, bm32, Int32.reduceToInt, Int64.reduceToInt, Nat.reduceLT, Nat.reduceEqDiff, reduceIte, true_or, or_true, true_and, and_true, false_or, or_false, not_true_eq_false, not_false_eq_true, eq_self] <;> omega)) (by first | omega | (simp (disch := omega) only [↓i_in, ↓i_isCouple, ↓i_isBridge, ↓i_isTheme, ↓i_isBarge, i_lt, i_le, i_eq, i_clamp, i_upd, i_m1, Int32.toInt_toInt64, Int32.toInt_add, Int32.toInt_sub, Int32.toInt_mul, bm32, Int32.reduceToInt, Int64.reduceToInt, Nat.reduceLT, Nat.reduceEqDiff, reduceIte, true_or, or_true, true_and, and_true, false_or, or_false, not_true_eq_false, not_false_eq_true, eq_self] <;> omega))), ?_⟩
    have v_8 := p_letterAt (G := w_8m0) (f13 := f13) (k_ := (w_8m0 15))
    try simp (disch := omega) only [↓i_in, ↓i_isCouple, ↓i_isBridge, ↓i_isTheme, ↓i_isBarge, i_lt, i_le, i_eq, i_clamp, i_upd, i_m1, Int32.toInt_toInt64, Int32.toInt_add, Int32.toInt_sub, Int32.toInt_mul, bm32, Int32.reduceToInt, Int64.reduceToInt, Nat.reduceLT, Nat.reduceEqDiff, reduceIte, true_or, or_true, true_and, and_true, false_or, or_false, not_true_eq_false, not_false_eq_true, eq_self] at v_8
    refine ⟨s_in, ?_⟩
    refine ⟨fun c_9 => ?_, fun c_9 => ?_⟩
    · skip
      try simp (disch := omega) only [↓i_in, ↓i_isCouple, ↓i_isBridge, ↓i_isTheme, ↓i_isBarge, i_lt, i_le, i_eq, i_clamp, i_upd, i_m1, Int32.toInt_toInt64, Int32.toInt_add, Int32.toInt_sub, Int32.toInt_mul, bm32, Int32.reduceToInt, Int64.reduceToInt, Nat.reduceLT, Nat.reduceEqDiff, reduceIte, true_or, or_true, true_and, and_true, false_or, or_false, not_true_eq_false, not_false_eq_true, eq_self] at c_9
      exact hK w_8m0 hI
    · skip
      try simp (disch := omega) only [↓i_in, ↓i_isCouple, ↓i_isBridge, ↓i_isTheme, ↓i_isBarge, i_lt, i_le, i_eq, i_clamp, i_upd, i_m1, Int32.toInt_toInt64, Int32.toInt_add, Int32.toInt_sub, Int32.toInt_mul, bm32, Int32.reduceToInt, Int64.reduceToInt, Nat.reduceLT, Nat.reduceEqDiff, reduceIte, true_or, or_true, true_and, and_true, false_or, or_false, not_true_eq_false, not_false_eq_true, eq_self] at c_9
      refine ⟨fun c_10 => ?_, fun c_10 => ?_⟩
      · skip
        try simp (disch := omega) only [↓i_in, ↓i_isCouple, ↓i_isBridge, ↓i_isTheme, ↓i_isBarge, i_lt, i_le, i_eq, i_clamp, i_upd, i_m1, Int32.toInt_toInt64, Int32.toInt_add, Int32.toInt_sub, Int32.toInt_mul, bm32, Int32.reduceToInt, Int64.reduceToInt, Nat.reduceLT, Nat.reduceEqDiff, reduceIte, true_or, or_true, true_and, and_true, false_or, or_false, not_true_eq_false, not_false_eq_true, eq_self] at c_10
        exact ih (upd (upd w_8m0 17 (w_8m0 17)) 15 ((w_8m0 15) + 1)) (⟨(PI_u15 (PI_upd i_1 (by decide)) (by first | omega | (simp (disch := omega) only [↓i_in, ↓i_isCouple, ↓i_isBridge, ↓i_isTheme, ↓i_isBarge, i_lt, i_le, i_eq, i_clamp, i_upd, i_m1, Int32.toInt_toInt64, Int32.toInt_add, Int32.toInt_sub, Int32.toInt_mul, bm32, Int32.reduceToInt, Int64.reduceToInt, Nat.reduceLT, Nat.reduceEqDiff, reduceIte, true_or, or_true, true_and, and_true, false_or, or_false, not_true_eq_false, not_false_eq_true, eq_self] <;> omega)) (by first | omega | (simp (disch := omega) only [↓i_in, ↓i_isCouple, ↓i_isBridge, ↓i_isTheme, ↓i_isBarge, i_lt, i_le, i_eq, i_clamp, i_upd, i_m1, Int32.toInt_toInt64, Int32.toInt_add, Int32.toInt_sub, Int32.toInt_mul, bm32, Int32.reduceToInt, Int64.reduceToInt, Nat.reduceLT, Nat.reduceEqDiff, reduceIte, true_or, or_true, true_and, and_true, false_or, or_false, not_true_eq_false, not_false_eq_true, eq_self] <;> omega))), (by first | omega | (simp (disch := omega) only [↓i_in, ↓i_isCouple, ↓i_isBridge, ↓i_isTheme, ↓i_isBarge, i_lt, i_le, i_eq, i_clamp, i_upd, i_m1, Int32.toInt_toInt64, Int32.toInt_add, Int32.toInt_sub, Int32.toInt_mul, bm32, Int32.reduceToInt, Int64.reduceToInt, Nat.reduceLT, Nat.reduceEqDiff, reduceIte, true_or, or_true, true_and, and_true, false_or, or_false, not_true_eq_false, not_false_eq_true, eq_self] <;> omega)), (by first | omega | (simp (disch := omega) only [↓i_in, ↓i_isCouple, ↓i_isBridge, ↓i_isTheme, ↓i_isBarge, i_lt, i_le, i_eq, i_clamp, i_upd, i_m1, Int32.toInt_toInt64, Int32.toInt_add, Int32.toInt_sub, Int32.toInt_mul, bm32, Int32.reduceToInt, Int64.reduceToInt, Nat.reduceLT, Nat.reduceEqDiff, reduceIte, true_or, or_true, true_and, and_true, false_or, or_false, not_true_eq_false, not_false_eq_true, eq_self] <;> omega)), (by first | omega | (simp (disch := omega) only [↓i_in, ↓i_isCouple, ↓i_isBridge, ↓i_isTheme, ↓i_isBarge, i_lt, i_le, i_eq, i_clamp, i_upd, i_m1, Int32.toInt_toInt64, Int32.toInt_add, Int32.toInt_sub, Int32.toInt_mul, bm32, Int32.reduceToInt, Int64.reduceToInt, Nat.reduceLT, Nat.reduceEqDiff, reduceIte, true_or, or_true, true_and, and_true, false_or, or_false, not_true_eq_false, not_false_eq_true, eq_self] <;> omega)), (by first | omega | (simp (disch := omega) only [↓i_in, ↓i_isCouple, ↓i_isBridge, ↓i_isTheme, ↓i_isBarge, i_lt, i_le, i_eq, i_clamp, i_upd, i_m1, Int32.toInt_toInt64, Int32.toInt_add, Int32.toInt_sub, Int32.toInt_mul, bm32, Int32.reduceToInt, Int64.reduceToInt, Nat.reduceLT, Nat.reduceEqDiff, reduceIte, true_or, or_true, true_and, and_true, false_or, or_false, not_true_eq_false, not_false_eq_true, eq_self] <;> omega)), (by first | omega | (simp (disch := omega) only [↓i_in, ↓i_isCouple, ↓i_isBridge, ↓i_isTheme, ↓i_isBarge, i_lt, i_le, i_eq, i_clamp, i_upd, i_m1, Int32.toInt_toInt64, Int32.toInt_add, Int32.toInt_sub, Int32.toInt_mul, bm32, Int32.reduceToInt, Int64.reduceToInt, Nat.reduceLT, Nat.reduceEqDiff, reduceIte, true_or, or_true, true_and, and_true, false_or, or_false, not_true_eq_false, not_false_eq_true, eq_self] <;> omega)), (by first | omega | (simp (disch := omega) only [↓i_in, ↓i_isCouple, ↓i_isBridge, ↓i_isTheme, ↓i_isBarge, i_lt, i_le, i_eq, i_clamp, i_upd, i_m1, Int32.toInt_toInt64, Int32.toInt_add, Int32.toInt_sub, Int32.toInt_mul, bm32, Int32.reduceToInt, Int64.reduceToInt, Nat.reduceLT, Nat.reduceEqDiff, reduceIte, true_or, or_true, true_and, and_true, false_or, or_false, not_true_eq_false, not_false_eq_true, eq_self] <;> omega))⟩) (by first | omega | (simp (disch := omega) only [↓i_in, ↓i_isCouple, ↓i_isBridge, ↓i_isTheme, ↓i_isBarge, i_lt, i_le, i_eq, i_clamp, i_upd, i_m1, Int32.toInt_toInt64, Int32.toInt_add, Int32.toInt_sub, Int32.toInt_mul, bm32, Int32.reduceToInt, Int64.reduceToInt, Nat.reduceLT, Nat.reduceEqDiff, reduceIte, true_or, or_true, true_and, and_true, false_or, or_false, not_true_eq_false, not_false_eq_true, eq_self] <;> omega))
      · skip
        try simp (disch := omega) only [↓i_in, ↓i_isCouple, ↓i_isBridge, ↓i_isTheme, ↓i_isBarge, i_lt, i_le, i_eq, i_clamp, i_upd, i_m1, Int32.toInt_toInt64, Int32.toInt_add, Int32.toInt_sub, Int32.toInt_mul, bm32, Int32.reduceToInt, Int64.reduceToInt, Nat.reduceLT, Nat.reduceEqDiff, reduceIte, true_or, or_true, true_and, and_true, false_or, or_false, not_true_eq_false, not_false_eq_true, eq_self] at c_10
        refine ⟨(s_letterAt (by first | omega | (simp (disch := omega) only [↓i_in, ↓i_isCouple, ↓i_isBridge, ↓i_isTheme, ↓i_isBarge, i_lt, i_le, i_eq, i_clamp, i_upd, i_m1, Int32.toInt_toInt64, Int32.toInt_add, Int32.toInt_sub, Int32.toInt_mul, bm32, Int32.reduceToInt, Int64.reduceToInt, Nat.reduceLT, Nat.reduceEqDiff, reduceIte, true_or, or_true, true_and, and_true, false_or, or_false, not_true_eq_false, not_false_eq_true, eq_self] <;> omega)) (by first | omega | (simp (disch := omega) only [↓i_in, ↓i_isCouple, ↓i_isBridge, ↓i_isTheme, ↓i_isBarge, i_lt, i_le, i_eq, i_clamp, i_upd, i_m1, Int32.toInt_toInt64, Int32.toInt_add, Int32.toInt_sub, Int32.toInt_mul, bm32, Int32.reduceToInt, Int64.reduceToInt, Nat.reduceLT, Nat.reduceEqDiff, reduceIte, true_or, or_true, true_and, and_true, false_or, or_false, not_true_eq_false, not_false_eq_true, eq_self] <;> omega))), ?_⟩
        have v_11 := p_letterAt (G := w_8m0) (f13 := f13) (k_ := (w_8m0 15))
        try simp (disch := omega) only [↓i_in, ↓i_isCouple, ↓i_isBridge, ↓i_isTheme, ↓i_isBarge, i_lt, i_le, i_eq, i_clamp, i_upd, i_m1, Int32.toInt_toInt64, Int32.toInt_add, Int32.toInt_sub, Int32.toInt_mul, bm32, Int32.reduceToInt, Int64.reduceToInt, Nat.reduceLT, Nat.reduceEqDiff, reduceIte, true_or, or_true, true_and, and_true, false_or, or_false, not_true_eq_false, not_false_eq_true, eq_self] at v_11
        exact ih (upd (upd w_8m0 17 (((10 * (w_8m0 17)) + (f_m_letterAt w_8m0 f13 (w_8m0 15))) - 48)) 15 ((w_8m0 15) + 1)) (⟨(PI_u15 (PI_upd i_1 (by decide)) (by first | omega | (simp (disch := omega) only [↓i_in, ↓i_isCouple, ↓i_isBridge, ↓i_isTheme, ↓i_isBarge, i_lt, i_le, i_eq, i_clamp, i_upd, i_m1, Int32.toInt_toInt64, Int32.toInt_add, Int32.toInt_sub, Int32.toInt_mul, bm32, Int32.reduceToInt, Int64.reduceToInt, Nat.reduceLT, Nat.reduceEqDiff, reduceIte, true_or, or_true, true_and, and_true, false_or, or_false, not_true_eq_false, not_false_eq_true, eq_self] <;> omega)) (by first | omega | (simp (disch := omega) only [↓i_in, ↓i_isCouple, ↓i_isBridge, ↓i_isTheme, ↓i_isBarge, i_lt, i_le, i_eq, i_clamp, i_upd, i_m1, Int32.toInt_toInt64, Int32.toInt_add, Int32.toInt_sub, Int32.toInt_mul, bm32, Int32.reduceToInt, Int64.reduceToInt, Nat.reduceLT, Nat.reduceEqDiff, reduceIte, true_or, or_true, true_and, and_true, false_or, or_false, not_true_eq_false, not_false_eq_true, eq_self] <;> omega))), (by first | omega | (simp (disch := omega) only [↓i_in, ↓i_isCouple, ↓i_isBridge, ↓i_isTheme, ↓i_isBarge, i_lt, i_le, i_eq, i_clamp, i_upd, i_m1, Int32.toInt_toInt64, Int32.toInt_add, Int32.toInt_sub, Int32.toInt_mul, bm32, Int32.reduceToInt, Int64.reduceToInt, Nat.reduceLT, Nat.reduceEqDiff, reduceIte, true_or, or_true, true_and, and_true, false_or, or_false, not_true_eq_false, not_false_eq_true, eq_self] <;> omega)), (by first | omega | (simp (disch := omega) only [↓i_in, ↓i_isCouple, ↓i_isBridge, ↓i_isTheme, ↓i_isBarge, i_lt, i_le, i_eq, i_clamp, i_upd, i_m1, Int32.toInt_toInt64, Int32.toInt_add, Int32.toInt_sub, Int32.toInt_mul, bm32, Int32.reduceToInt, Int64.reduceToInt, Nat.reduceLT, Nat.reduceEqDiff, reduceIte, true_or, or_true, true_and, and_true, false_or, or_false, not_true_eq_false, not_false_eq_true, eq_self] <;> omega)), (by first | omega | (simp (disch := omega) only [↓i_in, ↓i_isCouple, ↓i_isBridge, ↓i_isTheme, ↓i_isBarge, i_lt, i_le, i_eq, i_clamp, i_upd, i_m1, Int32.toInt_toInt64, Int32.toInt_add, Int32.toInt_sub, Int32.toInt_mul, bm32, Int32.reduceToInt, Int64.reduceToInt, Nat.reduceLT, Nat.reduceEqDiff, reduceIte, true_or, or_true, true_and, and_true, false_or, or_false, not_true_eq_false, not_false_eq_true, eq_self] <;> omega)), (by first | omega | (simp (disch := omega) only [↓i_in, ↓i_isCouple, ↓i_isBridge, ↓i_isTheme, ↓i_isBarge, i_lt, i_le, i_eq, i_clamp, i_upd, i_m1, Int32.toInt_toInt64, Int32.toInt_add, Int32.toInt_sub, Int32.toInt_mul, bm32, Int32.reduceToInt, Int64.reduceToInt, Nat.reduceLT, Nat.reduceEqDiff, reduceIte, true_or, or_true, true_and, and_true, false_or, or_false, not_true_eq_false, not_false_eq_true, eq_self] <;> omega)), (by first | omega | (simp (disch := omega) only [↓i_in, ↓i_isCouple, ↓i_isBridge, ↓i_isTheme, ↓i_isBarge, i_lt, i_le, i_eq, i_clamp, i_upd, i_m1, Int32.toInt_toInt64, Int32.toInt_add, Int32.toInt_sub, Int32.toInt_mul, bm32, Int32.reduceToInt, Int64.reduceToInt, Nat.reduceLT, Nat.reduceEqDiff, reduceIte, true_or, or_true, true_and, and_true, false_or, or_false, not_true_eq_false, not_false_eq_true, eq_self] <;> omega)), (by first | omega | (simp (disch := omega) only [↓i_in, ↓i_isCouple, ↓i_isBridge, ↓i_isTheme, ↓i_isBarge, i_lt, i_le, i_eq, i_clamp, i_upd, i_m1, Int32.toInt_toInt64, Int32.toInt_add, Int32.toInt_sub, Int32.toInt_mul, bm32, Int32.reduceToInt, Int64.reduceToInt, Nat.reduceLT, Nat.reduceEqDiff, reduceIte, true_or, or_true, true_and, and_true, false_or, or_false, not_true_eq_false, not_false_eq_true, eq_self] <;> omega))⟩) (by first | omega | (simp (disch := omega) only [↓i_in, ↓i_isCouple, ↓i_isBridge, ↓i_isTheme, ↓i_isBarge, i_lt, i_le, i_eq, i_clamp, i_upd, i_m1, Int32.toInt_toInt64, Int32.toInt_add, Int32.toInt_sub, Int32.toInt_mul, bm32, Int32.reduceToInt, Int64.reduceToInt, Nat.reduceLT, Nat.reduceEqDiff, reduceIte, true_or, or_true, true_and, and_true, false_or, or_false, not_true_eq_false, not_false_eq_true, eq_self] <;> omega))
set_option maxHeartbeats 4000000 in
theorem pl_takesNumber_32 {G : Nat → Int32} {f13 : Nat → Int32} : ∀ (n : Nat) w_8m0, (PI w_8m0 ∧ ((G 15).toInt ≤ (w_8m0 15).toInt) ∧ ((w_8m0 14).toInt = (G 14).toInt) ∧ ((w_8m0 20).toInt = (G 20).toInt) ∧ ((w_8m0 21).toInt = (G 21).toInt) ∧ ((w_8m0 23).toInt = (G 23).toInt) ∧ ((w_8m0 24).toInt = (G 24).toInt)) → ∀ r0, f_m_takesNumber_32 f13 n w_8m0 = r0 → PI r0 ∧ ((G 15).toInt ≤ (r0 15).toInt) ∧ ((r0 14).toInt = (G 14).toInt) ∧ ((r0 20).toInt = (G 20).toInt) ∧ ((r0 21).toInt = (G 21).toInt) ∧ ((r0 23).toInt = (G 23).toInt) ∧ ((r0 24).toInt = (G 24).toInt) := by
  intro n
  induction n with
  | zero =>
    intro w_8m0 hI r0 e
    replace e : (w_8m0) = r0 := e
    cases e
    exact hI
  | succ n ih =>
    intro w_8m0 hI r0 e
    rw [f_m_takesNumber_32_s] at e
    have hI0 := hI
    obtain ⟨i_1, i_2, i_3, i_4, i_5, i_6, i_7⟩ := hI0
    have i_1_g := i_1
    obtain ⟨⟨⟨i_1_2a, i_1_2b⟩, ⟨i_1_3a, i_1_3b⟩, ⟨i_1_4a, i_1_4b⟩, ⟨i_1_5a, i_1_5b⟩, ⟨i_1_6a, i_1_6b⟩, ⟨i_1_14a, i_1_14b⟩, ⟨i_1_42a, i_1_42b⟩⟩, ⟨i_1_15a, i_1_15b⟩, ⟨i_1_20a, i_1_20b⟩, ⟨i_1_21a, i_1_21b⟩, ⟨i_1_23a, i_1_23b⟩, ⟨i_1_24a, i_1_24b⟩⟩ := i_1_g
    have v_8 := p_letterAt (G := w_8m0) (f13 := f13) (k_ := (w_8m0 15))
    try simp (disch := omega) only [↓i_in, ↓i_isCouple, ↓i_isBridge, ↓i_isTheme, ↓i_isBarge, i_lt, i_le, i_eq, i_clamp, i_upd, i_m1, Int32.toInt_toInt64, Int32.toInt_add, Int32.toInt_sub, Int32.toInt_mul, bm32, Int32.reduceToInt, Int64.reduceToInt, Nat.reduceLT, Nat.reduceEqDiff, reduceIte, true_or, or_true, true_and, and_true, false_or, or_false, not_true_eq_false, not_false_eq_true, eq_self] at v_8
    by_cases c_9 : (f_m_in (((f_m_letterAt w_8m0 f13 (w_8m0 15))).toInt64) 48 57) = 0
    · rw [if_pos c_9] at e
      try simp (disch := omega) only [↓i_in, ↓i_isCouple, ↓i_isBridge, ↓i_isTheme, ↓i_isBarge, i_lt, i_le, i_eq, i_clamp, i_upd, i_m1, Int32.toInt_toInt64, Int32.toInt_add, Int32.toInt_sub, Int32.toInt_mul, bm32, Int32.reduceToInt, Int64.reduceToInt, Nat.reduceLT, Nat.reduceEqDiff, reduceIte, true_or, or_true, true_and, and_true, false_or, or_false, not_true_eq_false, not_false_eq_true, eq_self] at c_9
      cases e
      exact hI
    · rw [if_neg c_9] at e
      try simp (disch := omega) only [↓i_in, ↓i_isCouple, ↓i_isBridge, ↓i_isTheme, ↓i_isBarge, i_lt, i_le, i_eq, i_clamp, i_upd, i_m1, Int32.toInt_toInt64, Int32.toInt_add, Int32.toInt_sub, Int32.toInt_mul, bm32, Int32.reduceToInt, Int64.reduceToInt, Nat.reduceLT, Nat.reduceEqDiff, reduceIte, true_or, or_true, true_and, and_true, false_or, or_false, not_true_eq_false, not_false_eq_true, eq_self] at c_9
      by_cases c_10 : 3 ≤ ((w_8m0 15) - (w_8m0 16))
      · rw [if_pos c_10] at e
        try simp (disch := omega) only [↓i_in, ↓i_isCouple, ↓i_isBridge, ↓i_isTheme, ↓i_isBarge, i_lt, i_le, i_eq, i_clamp, i_upd, i_m1, Int32.toInt_toInt64, Int32.toInt_add, Int32.toInt_sub, Int32.toInt_mul, bm32, Int32.reduceToInt, Int64.reduceToInt, Nat.reduceLT, Nat.reduceEqDiff, reduceIte, true_or, or_true, true_and, and_true, false_or, or_false, not_true_eq_false, not_false_eq_true, eq_self] at c_10
        exact ih (upd (upd w_8m0 17 (w_8m0 17)) 15 ((w_8m0 15) + 1)) (⟨(PI_u15 (PI_upd i_1 (by decide)) (by first | omega | (simp (disch := omega) only [↓i_in, ↓i_isCouple, ↓i_isBridge, ↓i_isTheme, ↓i_isBarge, i_lt, i_le, i_eq, i_clamp, i_upd, i_m1, Int32.toInt_toInt64, Int32.toInt_add, Int32.toInt_sub, Int32.toInt_mul, bm32, Int32.reduceToInt, Int64.reduceToInt, Nat.reduceLT, Nat.reduceEqDiff, reduceIte, true_or, or_true, true_and, and_true, false_or, or_false, not_true_eq_false, not_false_eq_true, eq_self] <;> omega)) (by first | omega | (simp (disch := omega) only [↓i_in, ↓i_isCouple, ↓i_isBridge, ↓i_isTheme, ↓i_isBarge, i_lt, i_le, i_eq, i_clamp, i_upd, i_m1, Int32.toInt_toInt64, Int32.toInt_add, Int32.toInt_sub, Int32.toInt_mul, bm32, Int32.reduceToInt, Int64.reduceToInt, Nat.reduceLT, Nat.reduceEqDiff, reduceIte, true_or, or_true, true_and, and_true, false_or, or_false, not_true_eq_false, not_false_eq_true, eq_self] <;> omega))), (by first | omega | (simp (disch := omega) only [↓i_in, ↓i_isCouple, ↓i_isBridge, ↓i_isTheme, ↓i_isBarge, i_lt, i_le, i_eq, i_clamp, i_upd, i_m1, Int32.toInt_toInt64, Int32.toInt_add, Int32.toInt_sub, Int32.toInt_mul, bm32, Int32.reduceToInt, Int64.reduceToInt, Nat.reduceLT, Nat.reduceEqDiff, reduceIte, true_or, or_true, true_and, and_true, false_or, or_false, not_true_eq_false, not_false_eq_true, eq_self] <;> omega)), (by first | omega | (simp (disch := omega) only [↓i_in, ↓i_isCouple, ↓i_isBridge, ↓i_isTheme, ↓i_isBarge, i_lt, i_le, i_eq, i_clamp, i_upd, i_m1, Int32.toInt_toInt64, Int32.toInt_add, Int32.toInt_sub, Int32.toInt_mul, bm32, Int32.reduceToInt, Int64.reduceToInt, Nat.reduceLT, Nat.reduceEqDiff, reduceIte, true_or, or_true, true_and, and_true, false_or, or_false, not_true_eq_false, not_false_eq_true, eq_self] <;> omega)), (by first | omega | (simp (disch := omega) only [↓i_in, ↓i_isCouple, ↓i_isBridge, ↓i_isTheme, ↓i_isBarge, i_lt, i_le, i_eq, i_clamp, i_upd, i_m1, Int32.toInt_toInt64, Int32.toInt_add, Int32.toInt_sub, Int32.toInt_mul, bm32, Int32.reduceToInt, Int64.reduceToInt, Nat.reduceLT, Nat.reduceEqDiff, reduceIte, true_or, or_true, true_and, and_true, false_or, or_false, not_true_eq_false, not_false_eq_true, eq_self] <;> omega)), (by first | omega | (simp (disch := omega) only [↓i_in, ↓i_isCouple, ↓i_isBridge, ↓i_isTheme, ↓i_isBarge, i_lt, i_le, i_eq, i_clamp, i_upd, i_m1, Int32.toInt_toInt64, Int32.toInt_add, Int32.toInt_sub, Int32.toInt_mul, bm32, Int32.reduceToInt, Int64.reduceToInt, Nat.reduceLT, Nat.reduceEqDiff, reduceIte, true_or, or_true, true_and, and_true, false_or, or_false, not_true_eq_false, not_false_eq_true, eq_self] <;> omega)), (by first | omega | (simp (disch := omega) only [↓i_in, ↓i_isCouple, ↓i_isBridge, ↓i_isTheme, ↓i_isBarge, i_lt, i_le, i_eq, i_clamp, i_upd, i_m1, Int32.toInt_toInt64, Int32.toInt_add, Int32.toInt_sub, Int32.toInt_mul, bm32, Int32.reduceToInt, Int64.reduceToInt, Nat.reduceLT, Nat.reduceEqDiff, reduceIte, true_or, or_true, true_and, and_true, false_or, or_false, not_true_eq_false, not_false_eq_true, eq_self] <;> omega)), (by first | omega | (simp (disch := omega) only [↓i_in, ↓i_isCouple, ↓i_isBridge, ↓i_isTheme, ↓i_isBarge, i_lt, i_le, i_eq, i_clamp, i_upd, i_m1, Int32.toInt_toInt64, Int32.toInt_add, Int32.toInt_sub, Int32.toInt_mul, bm32, Int32.reduceToInt, Int64.reduceToInt, Nat.reduceLT, Nat.reduceEqDiff, reduceIte, true_or, or_true, true_and, and_true, false_or, or_false, not_true_eq_false, not_false_eq_true, eq_self] <;> omega))⟩) _ e
      · rw [if_neg c_10] at e
        try simp (disch := omega) only [↓i_in, ↓i_isCouple, ↓i_isBridge, ↓i_isTheme, ↓i_isBarge, i_lt, i_le, i_eq, i_clamp, i_upd, i_m1, Int32.toInt_toInt64, Int32.toInt_add, Int32.toInt_sub, Int32.toInt_mul, bm32, Int32.reduceToInt, Int64.reduceToInt, Nat.reduceLT, Nat.reduceEqDiff, reduceIte, true_or, or_true, true_and, and_true, false_or, or_false, not_true_eq_false, not_false_eq_true, eq_self] at c_10
        exact ih (upd (upd w_8m0 17 (((10 * (w_8m0 17)) + (f_m_letterAt w_8m0 f13 (w_8m0 15))) - 48)) 15 ((w_8m0 15) + 1)) (⟨(PI_u15 (PI_upd i_1 (by decide)) (by first | omega | (simp (disch := omega) only [↓i_in, ↓i_isCouple, ↓i_isBridge, ↓i_isTheme, ↓i_isBarge, i_lt, i_le, i_eq, i_clamp, i_upd, i_m1, Int32.toInt_toInt64, Int32.toInt_add, Int32.toInt_sub, Int32.toInt_mul, bm32, Int32.reduceToInt, Int64.reduceToInt, Nat.reduceLT, Nat.reduceEqDiff, reduceIte, true_or, or_true, true_and, and_true, false_or, or_false, not_true_eq_false, not_false_eq_true, eq_self] <;> omega)) (by first | omega | (simp (disch := omega) only [↓i_in, ↓i_isCouple, ↓i_isBridge, ↓i_isTheme, ↓i_isBarge, i_lt, i_le, i_eq, i_clamp, i_upd, i_m1, Int32.toInt_toInt64, Int32.toInt_add, Int32.toInt_sub, Int32.toInt_mul, bm32, Int32.reduceToInt, Int64.reduceToInt, Nat.reduceLT, Nat.reduceEqDiff, reduceIte, true_or, or_true, true_and, and_true, false_or, or_false, not_true_eq_false, not_false_eq_true, eq_self] <;> omega))), (by first | omega | (simp (disch := omega) only [↓i_in, ↓i_isCouple, ↓i_isBridge, ↓i_isTheme, ↓i_isBarge, i_lt, i_le, i_eq, i_clamp, i_upd, i_m1, Int32.toInt_toInt64, Int32.toInt_add, Int32.toInt_sub, Int32.toInt_mul, bm32, Int32.reduceToInt, Int64.reduceToInt, Nat.reduceLT, Nat.reduceEqDiff, reduceIte, true_or, or_true, true_and, and_true, false_or, or_false, not_true_eq_false, not_false_eq_true, eq_self] <;> omega)), (by first | omega | (simp (disch := omega) only [↓i_in, ↓i_isCouple, ↓i_isBridge, ↓i_isTheme, ↓i_isBarge, i_lt, i_le, i_eq, i_clamp, i_upd, i_m1, Int32.toInt_toInt64, Int32.toInt_add, Int32.toInt_sub, Int32.toInt_mul, bm32, Int32.reduceToInt, Int64.reduceToInt, Nat.reduceLT, Nat.reduceEqDiff, reduceIte, true_or, or_true, true_and, and_true, false_or, or_false, not_true_eq_false, not_false_eq_true, eq_self] <;> omega)), (by first | omega | (simp (disch := omega) only [↓i_in, ↓i_isCouple, ↓i_isBridge, ↓i_isTheme, ↓i_isBarge, i_lt, i_le, i_eq, i_clamp, i_upd, i_m1, Int32.toInt_toInt64, Int32.toInt_add, Int32.toInt_sub, Int32.toInt_mul, bm32, Int32.reduceToInt, Int64.reduceToInt, Nat.reduceLT, Nat.reduceEqDiff, reduceIte, true_or, or_true, true_and, and_true, false_or, or_false, not_true_eq_false, not_false_eq_true, eq_self] <;> omega)), (by first | omega | (simp (disch := omega) only [↓i_in, ↓i_isCouple, ↓i_isBridge, ↓i_isTheme, ↓i_isBarge, i_lt, i_le, i_eq, i_clamp, i_upd, i_m1, Int32.toInt_toInt64, Int32.toInt_add, Int32.toInt_sub, Int32.toInt_mul, bm32, Int32.reduceToInt, Int64.reduceToInt, Nat.reduceLT, Nat.reduceEqDiff, reduceIte, true_or, or_true, true_and, and_true, false_or, or_false, not_true_eq_false, not_false_eq_true, eq_self] <;> omega)), (by first | omega | (simp (disch := omega) only [↓i_in, ↓i_isCouple, ↓i_isBridge, ↓i_isTheme, ↓i_isBarge, i_lt, i_le, i_eq, i_clamp, i_upd, i_m1, Int32.toInt_toInt64, Int32.toInt_add, Int32.toInt_sub, Int32.toInt_mul, bm32, Int32.reduceToInt, Int64.reduceToInt, Nat.reduceLT, Nat.reduceEqDiff, reduceIte, true_or, or_true, true_and, and_true, false_or, or_false, not_true_eq_false, not_false_eq_true, eq_self] <;> omega)), (by first | omega | (simp (disch := omega) only [↓i_in, ↓i_isCouple, ↓i_isBridge, ↓i_isTheme, ↓i_isBarge, i_lt, i_le, i_eq, i_clamp, i_upd, i_m1, Int32.toInt_toInt64, Int32.toInt_add, Int32.toInt_sub, Int32.toInt_mul, bm32, Int32.reduceToInt, Int64.reduceToInt, Nat.reduceLT, Nat.reduceEqDiff, reduceIte, true_or, or_true, true_and, and_true, false_or, or_false, not_true_eq_false, not_false_eq_true, eq_self] <;> omega))⟩) _ e
set_option maxHeartbeats 4000000 in
theorem s_takesNumber {G : Nat → Int32} {f13 : Nat → Int32} {lo_ : Int32} {hi_ : Int32} (h_0 : PI G) : S_m_takesNumber G f13 lo_ hi_ := by
  unfold S_m_takesNumber
  have h_0_g := h_0
  obtain ⟨⟨⟨h_0_2a, h_0_2b⟩, ⟨h_0_3a, h_0_3b⟩, ⟨h_0_4a, h_0_4b⟩, ⟨h_0_5a, h_0_5b⟩, ⟨h_0_6a, h_0_6b⟩, ⟨h_0_14a, h_0_14b⟩, ⟨h_0_42a, h_0_42b⟩⟩, ⟨h_0_15a, h_0_15b⟩, ⟨h_0_20a, h_0_20b⟩, ⟨h_0_21a, h_0_21b⟩, ⟨h_0_23a, h_0_23b⟩, ⟨h_0_24a, h_0_24b⟩⟩ := h_0_g
  refine ⟨(s_here h_0), ?_⟩
  intro r_3 u_2 e_1
  have p_2 := p_here h_0 _ _ e_1.symm
  obtain ⟨i_3, i_4, i_5, i_6, i_7, i_8, i_9, i_10⟩ := p_2
  have i_3_g := i_3
  obtain ⟨⟨⟨i_3_2a, i_3_2b⟩, ⟨i_3_3a, i_3_3b⟩, ⟨i_3_4a, i_3_4b⟩, ⟨i_3_5a, i_3_5b⟩, ⟨i_3_6a, i_3_6b⟩, ⟨i_3_14a, i_3_14b⟩, ⟨i_3_42a, i_3_42b⟩⟩, ⟨i_3_15a, i_3_15b⟩, ⟨i_3_20a, i_3_20b⟩, ⟨i_3_21a, i_3_21b⟩, ⟨i_3_23a, i_3_23b⟩, ⟨i_3_24a, i_3_24b⟩⟩ := i_3_g
  refine ⟨s_in, ?_⟩
  refine ⟨fun c_11 => ?_, fun c_11 => ?_⟩
  · skip
    try simp (disch := omega) only [↓i_in, ↓i_isCouple, ↓i_isBridge, ↓i_isTheme, ↓i_isBarge, i_lt, i_le, i_eq, i_clamp, i_upd, i_m1, Int32.toInt_toInt64, Int32.toInt_add, Int32.toInt_sub, Int32.toInt_mul, bm32, Int32.reduceToInt, Int64.reduceToInt, Nat.reduceLT, Nat.reduceEqDiff, reduceIte, true_or, or_true, true_and, and_true, false_or, or_false, not_true_eq_false, not_false_eq_true, eq_self] at c_11
    refine ⟨s_fails, ?_⟩
    intro r_35 u_34 e_12
    have p_13 := p_fails i_3 _ _ e_12.symm
    obtain ⟨i_14, i_15, i_16, i_17, i_18, i_19, i_20, i_21⟩ := p_13
    have i_14_g := i_14
    obtain ⟨⟨⟨i_14_2a, i_14_2b⟩, ⟨i_14_3a, i_14_3b⟩, ⟨i_14_4a, i_14_4b⟩, ⟨i_14_5a, i_14_5b⟩, ⟨i_14_6a, i_14_6b⟩, ⟨i_14_14a, i_14_14b⟩, ⟨i_14_42a, i_14_42b⟩⟩, ⟨i_14_15a, i_14_15b⟩, ⟨i_14_20a, i_14_20b⟩, ⟨i_14_21a, i_14_21b⟩, ⟨i_14_23a, i_14_23b⟩, ⟨i_14_24a, i_14_24b⟩⟩ := i_14_g
    exact trivial
  · skip
    try simp (disch := omega) only [↓i_in, ↓i_isCouple, ↓i_isBridge, ↓i_isTheme, ↓i_isBarge, i_lt, i_le, i_eq, i_clamp, i_upd, i_m1, Int32.toInt_toInt64, Int32.toInt_add, Int32.toInt_sub, Int32.toInt_mul, bm32, Int32.reduceToInt, Int64.reduceToInt, Nat.reduceLT, Nat.reduceEqDiff, reduceIte, true_or, or_true, true_and, and_true, false_or, or_false, not_true_eq_false, not_false_eq_true, eq_self] at c_11
    refine sl_takesNumber_32 (G := (upd u_2 17 0)) ?_ 300 (upd u_2 17 0) (⟨(PI_upd i_3 (by decide)), (by first | omega | (simp (disch := omega) only [↓i_in, ↓i_isCouple, ↓i_isBridge, ↓i_isTheme, ↓i_isBarge, i_lt, i_le, i_eq, i_clamp, i_upd, i_m1, Int32.toInt_toInt64, Int32.toInt_add, Int32.toInt_sub, Int32.toInt_mul, bm32, Int32.reduceToInt, Int64.reduceToInt, Nat.reduceLT, Nat.reduceEqDiff, reduceIte, true_or, or_true, true_and, and_true, false_or, or_false, not_true_eq_false, not_false_eq_true, eq_self] <;> omega)), (by first | omega | (simp (disch := omega) only [↓i_in, ↓i_isCouple, ↓i_isBridge, ↓i_isTheme, ↓i_isBarge, i_lt, i_le, i_eq, i_clamp, i_upd, i_m1, Int32.toInt_toInt64, Int32.toInt_add, Int32.toInt_sub, Int32.toInt_mul, bm32, Int32.reduceToInt, Int64.reduceToInt, Nat.reduceLT, Nat.reduceEqDiff, reduceIte, true_or, or_true, true_and, and_true, false_or, or_false, not_true_eq_false, not_false_eq_true, eq_self] <;> omega)), (by first | omega | (simp (disch := omega) only [↓i_in, ↓i_isCouple, ↓i_isBridge, ↓i_isTheme, ↓i_isBarge, i_lt, i_le, i_eq, i_clamp, i_upd, i_m1, Int32.toInt_toInt64, Int32.toInt_add, Int32.toInt_sub, Int32.toInt_mul, bm32, Int32.reduceToInt, Int64.reduceToInt, Nat.reduceLT, Nat.reduceEqDiff, reduceIte, true_or, or_true, true_and, and_true, false_or, or_false, not_true_eq_false, not_false_eq_true, eq_self] <;> omega)), (by first | omega | (simp (disch := omega) only [↓i_in, ↓i_isCouple, ↓i_isBridge, ↓i_isTheme, ↓i_isBarge, i_lt, i_le, i_eq, i_clamp, i_upd, i_m1, Int32.toInt_toInt64, Int32.toInt_add, Int32.toInt_sub, Int32.toInt_mul, bm32, Int32.reduceToInt, Int64.reduceToInt, Nat.reduceLT, Nat.reduceEqDiff, reduceIte, true_or, or_true, true_and, and_true, false_or, or_false, not_true_eq_false, not_false_eq_true, eq_self] <;> omega)), (by first | omega | (simp (disch := omega) only [↓i_in, ↓i_isCouple, ↓i_isBridge, ↓i_isTheme, ↓i_isBarge, i_lt, i_le, i_eq, i_clamp, i_upd, i_m1, Int32.toInt_toInt64, Int32.toInt_add, Int32.toInt_sub, Int32.toInt_mul, bm32, Int32.reduceToInt, Int64.reduceToInt, Nat.reduceLT, Nat.reduceEqDiff, reduceIte, true_or, or_true, true_and, and_true, false_or, or_false, not_true_eq_false, not_false_eq_true, eq_self] <;> omega)), (by first | omega | (simp (disch := omega) only [↓i_in, ↓i_isCouple, ↓i_isBridge, ↓i_isTheme, ↓i_isBarge, i_lt, i_le, i_eq, i_clamp, i_upd, i_m1, Int32.toInt_toInt64, Int32.toInt_add, Int32.toInt_sub, Int32.toInt_mul, bm32, Int32.reduceToInt, Int64.reduceToInt, Nat.reduceLT, Nat.reduceEqDiff, reduceIte, true_or, or_true, true_and, and_true, false_or, or_false, not_true_eq_false, not_false_eq_true, eq_self] <;> omega))⟩) (by first | omega | (simp (disch := omega) only [↓i_in, ↓i_isCouple, ↓i_isBridge, ↓i_isTheme, ↓i_isBarge, i_lt, i_le, i_eq, i_clamp, i_upd, i_m1, Int32.toInt_toInt64, Int32.toInt_add, Int32.toInt_sub, Int32.toInt_mul, bm32, Int32.reduceToInt, Int64.reduceToInt, Nat.reduceLT, Nat.reduceEqDiff, reduceIte, true_or, or_true, true_and, and_true, false_or, or_false, not_true_eq_false, not_false_eq_true, eq_self] <;> omega))
    intro w_8m0 i_22
    obtain ⟨i_23, i_24, i_25, i_26, i_27, i_28, i_29⟩ := i_22
    have i_23_g := i_23
    obtain ⟨⟨⟨i_23_2a, i_23_2b⟩, ⟨i_23_3a, i_23_3b⟩, ⟨i_23_4a, i_23_4b⟩, ⟨i_23_5a, i_23_5b⟩, ⟨i_23_6a, i_23_6b⟩, ⟨i_23_14a, i_23_14b⟩, ⟨i_23_42a, i_23_42b⟩⟩, ⟨i_23_15a, i_23_15b⟩, ⟨i_23_20a, i_23_20b⟩, ⟨i_23_21a, i_23_21b⟩, ⟨i_23_23a, i_23_23b⟩, ⟨i_23_24a, i_23_24b⟩⟩ := i_23_g
    try simp (disch := omega) only [↓i_in, ↓i_isCouple, ↓i_isBridge, ↓i_isTheme, ↓i_isBarge, i_lt, i_le, i_eq, i_clamp, i_upd, i_m1, Int32.toInt_toInt64, Int32.toInt_add, Int32.toInt_sub, Int32.toInt_mul, bm32, Int32.reduceToInt, Int64.reduceToInt, Nat.reduceLT, Nat.reduceEqDiff, reduceIte, true_or, or_true, true_and, and_true, false_or, or_false, not_true_eq_false, not_false_eq_true, eq_self] at i_24
    try simp (disch := omega) only [↓i_in, ↓i_isCouple, ↓i_isBridge, ↓i_isTheme, ↓i_isBarge, i_lt, i_le, i_eq, i_clamp, i_upd, i_m1, Int32.toInt_toInt64, Int32.toInt_add, Int32.toInt_sub, Int32.toInt_mul, bm32, Int32.reduceToInt, Int64.reduceToInt, Nat.reduceLT, Nat.reduceEqDiff, reduceIte, true_or, or_true, true_and, and_true, false_or, or_false, not_true_eq_false, not_false_eq_true, eq_self] at i_25
    try simp (disch := omega) only [↓i_in, ↓i_isCouple, ↓i_isBridge, ↓i_isTheme, ↓i_isBarge, i_lt, i_le, i_eq, i_clamp, i_upd, i_m1, Int32.toInt_toInt64, Int32.toInt_add, Int32.toInt_sub, Int32.toInt_mul, bm32, Int32.reduceToInt, Int64.reduceToInt, Nat.reduceLT, Nat.reduceEqDiff, reduceIte, true_or, or_true, true_and, and_true, false_or, or_false, not_true_eq_false, not_false_eq_true, eq_self] at i_26
    try simp (disch := omega) only [↓i_in, ↓i_isCouple, ↓i_isBridge, ↓i_isTheme, ↓i_isBarge, i_lt, i_le, i_eq, i_clamp, i_upd, i_m1, Int32.toInt_toInt64, Int32.toInt_add, Int32.toInt_sub, Int32.toInt_mul, bm32, Int32.reduceToInt, Int64.reduceToInt, Nat.reduceLT, Nat.reduceEqDiff, reduceIte, true_or, or_true, true_and, and_true, false_or, or_false, not_true_eq_false, not_false_eq_true, eq_self] at i_27
    try simp (disch := omega) only [↓i_in, ↓i_isCouple, ↓i_isBridge, ↓i_isTheme, ↓i_isBarge, i_lt, i_le, i_eq, i_clamp, i_upd, i_m1, Int32.toInt_toInt64, Int32.toInt_add, Int32.toInt_sub, Int32.toInt_mul, bm32, Int32.reduceToInt, Int64.reduceToInt, Nat.reduceLT, Nat.reduceEqDiff, reduceIte, true_or, or_true, true_and, and_true, false_or, or_false, not_true_eq_false, not_false_eq_true, eq_self] at i_28
    try simp (disch := omega) only [↓i_in, ↓i_isCouple, ↓i_isBridge, ↓i_isTheme, ↓i_isBarge, i_lt, i_le, i_eq, i_clamp, i_upd, i_m1, Int32.toInt_toInt64, Int32.toInt_add, Int32.toInt_sub, Int32.toInt_mul, bm32, Int32.reduceToInt, Int64.reduceToInt, Nat.reduceLT, Nat.reduceEqDiff, reduceIte, true_or, or_true, true_and, and_true, false_or, or_false, not_true_eq_false, not_false_eq_true, eq_self] at i_29
    refine ⟨fun c_30 => ?_, fun c_30 => ?_⟩
    · skip
      try simp (disch := omega) only [↓i_in, ↓i_isCouple, ↓i_isBridge, ↓i_isTheme, ↓i_isBarge, i_lt, i_le, i_eq, i_clamp, i_upd, i_m1, Int32.toInt_toInt64, Int32.toInt_add, Int32.toInt_sub, Int32.toInt_mul, bm32, Int32.reduceToInt, Int64.reduceToInt, Nat.reduceLT, Nat.reduceEqDiff, reduceIte, true_or, or_true, true_and, and_true, false_or, or_false, not_true_eq_false, not_false_eq_true, eq_self] at c_30
      refine ⟨s_fails, ?_⟩
      intro r_12 u_11 e_31
      have p_32 := p_fails i_23 _ _ e_31.symm
      obtain ⟨i_33, i_34, i_35, i_36, i_37, i_38, i_39, i_40⟩ := p_32
      have i_33_g := i_33
      obtain ⟨⟨⟨i_33_2a, i_33_2b⟩, ⟨i_33_3a, i_33_3b⟩, ⟨i_33_4a, i_33_4b⟩, ⟨i_33_5a, i_33_5b⟩, ⟨i_33_6a, i_33_6b⟩, ⟨i_33_14a, i_33_14b⟩, ⟨i_33_42a, i_33_42b⟩⟩, ⟨i_33_15a, i_33_15b⟩, ⟨i_33_20a, i_33_20b⟩, ⟨i_33_21a, i_33_21b⟩, ⟨i_33_23a, i_33_23b⟩, ⟨i_33_24a, i_33_24b⟩⟩ := i_33_g
      refine ⟨fun c_41 => ?_, fun c_41 => ?_⟩
      · exact trivial
      · exact trivial
    · skip
      try simp (disch := omega) only [↓i_in, ↓i_isCouple, ↓i_isBridge, ↓i_isTheme, ↓i_isBarge, i_lt, i_le, i_eq, i_clamp, i_upd, i_m1, Int32.toInt_toInt64, Int32.toInt_add, Int32.toInt_sub, Int32.toInt_mul, bm32, Int32.reduceToInt, Int64.reduceToInt, Nat.reduceLT, Nat.reduceEqDiff, reduceIte, true_or, or_true, true_and, and_true, false_or, or_false, not_true_eq_false, not_false_eq_true, eq_self] at c_30
      refine ⟨s_in, ?_⟩
      refine ⟨fun c_42 => ?_, fun c_42 => ?_⟩
      · skip
        try simp (disch := omega) only [↓i_in, ↓i_isCouple, ↓i_isBridge, ↓i_isTheme, ↓i_isBarge, i_lt, i_le, i_eq, i_clamp, i_upd, i_m1, Int32.toInt_toInt64, Int32.toInt_add, Int32.toInt_sub, Int32.toInt_mul, bm32, Int32.reduceToInt, Int64.reduceToInt, Nat.reduceLT, Nat.reduceEqDiff, reduceIte, true_or, or_true, true_and, and_true, false_or, or_false, not_true_eq_false, not_false_eq_true, eq_self] at c_42
        refine ⟨s_fails, ?_⟩
        intro r_20 u_19 e_43
        have p_44 := p_fails i_23 _ _ e_43.symm
        obtain ⟨i_45, i_46, i_47, i_48, i_49, i_50, i_51, i_52⟩ := p_44
        have i_45_g := i_45
        obtain ⟨⟨⟨i_45_2a, i_45_2b⟩, ⟨i_45_3a, i_45_3b⟩, ⟨i_45_4a, i_45_4b⟩, ⟨i_45_5a, i_45_5b⟩, ⟨i_45_6a, i_45_6b⟩, ⟨i_45_14a, i_45_14b⟩, ⟨i_45_42a, i_45_42b⟩⟩, ⟨i_45_15a, i_45_15b⟩, ⟨i_45_20a, i_45_20b⟩, ⟨i_45_21a, i_45_21b⟩, ⟨i_45_23a, i_45_23b⟩, ⟨i_45_24a, i_45_24b⟩⟩ := i_45_g
        refine ⟨fun c_53 => ?_, fun c_53 => ?_⟩
        · exact trivial
        · exact trivial
      · exact trivial
set_option maxHeartbeats 4000000 in
theorem p_takesNumber {G : Nat → Int32} {f13 : Nat → Int32} {lo_ : Int32} {hi_ : Int32} (h_0 : PI G) : ∀ (r : Int32) (u : (Nat → Int32)), f_m_takesNumber G f13 lo_ hi_ = (r, u) → PI u ∧ ((G 15).toInt ≤ (u 15).toInt) ∧ ((u 14).toInt = (G 14).toInt) ∧ ((u 20).toInt = (G 20).toInt) ∧ ((u 21).toInt = (G 21).toInt) ∧ ((u 23).toInt = (G 23).toInt) ∧ ((u 24).toInt = (G 24).toInt) ∧ (r.toInt = 0 ∨ (lo_.toInt ≤ (u 17).toInt ∧ (u 17).toInt ≤ hi_.toInt)) := by
  have h_0_g := h_0
  obtain ⟨⟨⟨h_0_2a, h_0_2b⟩, ⟨h_0_3a, h_0_3b⟩, ⟨h_0_4a, h_0_4b⟩, ⟨h_0_5a, h_0_5b⟩, ⟨h_0_6a, h_0_6b⟩, ⟨h_0_14a, h_0_14b⟩, ⟨h_0_42a, h_0_42b⟩⟩, ⟨h_0_15a, h_0_15b⟩, ⟨h_0_20a, h_0_20b⟩, ⟨h_0_21a, h_0_21b⟩, ⟨h_0_23a, h_0_23b⟩, ⟨h_0_24a, h_0_24b⟩⟩ := h_0_g
  intro r u e
  unfold f_m_takesNumber at e
  generalize x_1 : (f_m_here G f13) = z_2 at e
  obtain ⟨r_3, u_2⟩ := z_2
  replace e : ((if (f_m_in r_3.toInt64 48 57) = 0 then (match (f_m_fails u_2 1 (u_2 16)) with | (r_35, u_34) => (r_35, u_34)) else (match ((f_m_takesNumber_32 f13 300 (upd u_2 17 0)) : (Nat → Int32)) with | w_8m0 => (if 4 ≤ ((w_8m0 15) - (w_8m0 16)) then (match (f_m_fails w_8m0 2 (w_8m0 16)) with | (r_12, u_11) => (if r_12 = 0 then (0, u_11) else (1, u_11))) else (if (f_m_in (((w_8m0 17)).toInt64) lo_.toInt64 hi_.toInt64) = 0 then (match (f_m_fails w_8m0 2 (w_8m0 16)) with | (r_20, u_19) => (if r_20 = 0 then (0, u_19) else (1, u_19))) else (1, w_8m0))))) : Int32 × (Nat → Int32)) = (r, u) := e
  have p_3 := p_here h_0 _ _ x_1
  obtain ⟨i_4, i_5, i_6, i_7, i_8, i_9, i_10, i_11⟩ := p_3
  have i_4_g := i_4
  obtain ⟨⟨⟨i_4_2a, i_4_2b⟩, ⟨i_4_3a, i_4_3b⟩, ⟨i_4_4a, i_4_4b⟩, ⟨i_4_5a, i_4_5b⟩, ⟨i_4_6a, i_4_6b⟩, ⟨i_4_14a, i_4_14b⟩, ⟨i_4_42a, i_4_42b⟩⟩, ⟨i_4_15a, i_4_15b⟩, ⟨i_4_20a, i_4_20b⟩, ⟨i_4_21a, i_4_21b⟩, ⟨i_4_23a, i_4_23b⟩, ⟨i_4_24a, i_4_24b⟩⟩ := i_4_g
  by_cases c_12 : (f_m_in r_3.toInt64 48 57) = 0
  · rw [if_pos c_12] at e
    try simp (disch := omega) only [↓i_in, ↓i_isCouple, ↓i_isBridge, ↓i_isTheme, ↓i_isBarge, i_lt, i_le, i_eq, i_clamp, i_upd, i_m1, Int32.toInt_toInt64, Int32.toInt_add, Int32.toInt_sub, Int32.toInt_mul, bm32, Int32.reduceToInt, Int64.reduceToInt, Nat.reduceLT, Nat.reduceEqDiff, reduceIte, true_or, or_true, true_and, and_true, false_or, or_false, not_true_eq_false, not_false_eq_true, eq_self] at c_12
    generalize x_13 : (f_m_fails u_2 1 (u_2 16)) = z_14 at e
    obtain ⟨r_35, u_34⟩ := z_14
    replace e : ((r_35, u_34) : Int32 × (Nat → Int32)) = (r, u) := e
    have p_15 := p_fails i_4 _ _ x_13
    obtain ⟨i_16, i_17, i_18, i_19, i_20, i_21, i_22, i_23⟩ := p_15
    have i_16_g := i_16
    obtain ⟨⟨⟨i_16_2a, i_16_2b⟩, ⟨i_16_3a, i_16_3b⟩, ⟨i_16_4a, i_16_4b⟩, ⟨i_16_5a, i_16_5b⟩, ⟨i_16_6a, i_16_6b⟩, ⟨i_16_14a, i_16_14b⟩, ⟨i_16_42a, i_16_42b⟩⟩, ⟨i_16_15a, i_16_15b⟩, ⟨i_16_20a, i_16_20b⟩, ⟨i_16_21a, i_16_21b⟩, ⟨i_16_23a, i_16_23b⟩, ⟨i_16_24a, i_16_24b⟩⟩ := i_16_g
    cases e
    exact ⟨i_16, (by first | omega | (simp (disch := omega) only [↓i_in, ↓i_isCouple, ↓i_isBridge, ↓i_isTheme, ↓i_isBarge, i_lt, i_le, i_eq, i_clamp, i_upd, i_m1, Int32.toInt_toInt64, Int32.toInt_add, Int32.toInt_sub, Int32.toInt_mul, bm32, Int32.reduceToInt, Int64.reduceToInt, Nat.reduceLT, Nat.reduceEqDiff, reduceIte, true_or, or_true, true_and, and_true, false_or, or_false, not_true_eq_false, not_false_eq_true, eq_self] <;> omega)), (by first | omega | (simp (disch := omega) only [↓i_in, ↓i_isCouple, ↓i_isBridge, ↓i_isTheme, ↓i_isBarge, i_lt, i_le, i_eq, i_clamp, i_upd, i_m1, Int32.toInt_toInt64, Int32.toInt_add, Int32.toInt_sub, Int32.toInt_mul, bm32, Int32.reduceToInt, Int64.reduceToInt, Nat.reduceLT, Nat.reduceEqDiff, reduceIte, true_or, or_true, true_and, and_true, false_or, or_false, not_true_eq_false, not_false_eq_true, eq_self] <;> omega)), (by first | omega | (simp (disch := omega) only [↓i_in, ↓i_isCouple, ↓i_isBridge, ↓i_isTheme, ↓i_isBarge, i_lt, i_le, i_eq, i_clamp, i_upd, i_m1, Int32.toInt_toInt64, Int32.toInt_add, Int32.toInt_sub, Int32.toInt_mul, bm32, Int32.reduceToInt, Int64.reduceToInt, Nat.reduceLT, Nat.reduceEqDiff, reduceIte, true_or, or_true, true_and, and_true, false_or, or_false, not_true_eq_false, not_false_eq_true, eq_self] <;> omega)), (by first | omega | (simp (disch := omega) only [↓i_in, ↓i_isCouple, ↓i_isBridge, ↓i_isTheme, ↓i_isBarge, i_lt, i_le, i_eq, i_clamp, i_upd, i_m1, Int32.toInt_toInt64, Int32.toInt_add, Int32.toInt_sub, Int32.toInt_mul, bm32, Int32.reduceToInt, Int64.reduceToInt, Nat.reduceLT, Nat.reduceEqDiff, reduceIte, true_or, or_true, true_and, and_true, false_or, or_false, not_true_eq_false, not_false_eq_true, eq_self] <;> omega)), (by first | omega | (simp (disch := omega) only [↓i_in, ↓i_isCouple, ↓i_isBridge, ↓i_isTheme, ↓i_isBarge, i_lt, i_le, i_eq, i_clamp, i_upd, i_m1, Int32.toInt_toInt64, Int32.toInt_add, Int32.toInt_sub, Int32.toInt_mul, bm32, Int32.reduceToInt, Int64.reduceToInt, Nat.reduceLT, Nat.reduceEqDiff, reduceIte, true_or, or_true, true_and, and_true, false_or, or_false, not_true_eq_false, not_false_eq_true, eq_self] <;> omega)), (by first | omega | (simp (disch := omega) only [↓i_in, ↓i_isCouple, ↓i_isBridge, ↓i_isTheme, ↓i_isBarge, i_lt, i_le, i_eq, i_clamp, i_upd, i_m1, Int32.toInt_toInt64, Int32.toInt_add, Int32.toInt_sub, Int32.toInt_mul, bm32, Int32.reduceToInt, Int64.reduceToInt, Nat.reduceLT, Nat.reduceEqDiff, reduceIte, true_or, or_true, true_and, and_true, false_or, or_false, not_true_eq_false, not_false_eq_true, eq_self] <;> omega)), (by first | omega | (simp (disch := omega) only [↓i_in, ↓i_isCouple, ↓i_isBridge, ↓i_isTheme, ↓i_isBarge, i_lt, i_le, i_eq, i_clamp, i_upd, i_m1, Int32.toInt_toInt64, Int32.toInt_add, Int32.toInt_sub, Int32.toInt_mul, bm32, Int32.reduceToInt, Int64.reduceToInt, Nat.reduceLT, Nat.reduceEqDiff, reduceIte, true_or, or_true, true_and, and_true, false_or, or_false, not_true_eq_false, not_false_eq_true, eq_self] <;> omega))⟩
  · rw [if_neg c_12] at e
    try simp (disch := omega) only [↓i_in, ↓i_isCouple, ↓i_isBridge, ↓i_isTheme, ↓i_isBarge, i_lt, i_le, i_eq, i_clamp, i_upd, i_m1, Int32.toInt_toInt64, Int32.toInt_add, Int32.toInt_sub, Int32.toInt_mul, bm32, Int32.reduceToInt, Int64.reduceToInt, Nat.reduceLT, Nat.reduceEqDiff, reduceIte, true_or, or_true, true_and, and_true, false_or, or_false, not_true_eq_false, not_false_eq_true, eq_self] at c_12
    generalize x_24 : (f_m_takesNumber_32 f13 300 (upd u_2 17 0)) = z_25 at e
    obtain ⟨w_8m0, hz_z_25⟩ : ∃ q, q = z_25 := ⟨_, rfl⟩
    rw [← hz_z_25] at e x_24
    replace e : ((if 4 ≤ ((w_8m0 15) - (w_8m0 16)) then (match (f_m_fails w_8m0 2 (w_8m0 16)) with | (r_12, u_11) => (if r_12 = 0 then (0, u_11) else (1, u_11))) else (if (f_m_in (((w_8m0 17)).toInt64) lo_.toInt64 hi_.toInt64) = 0 then (match (f_m_fails w_8m0 2 (w_8m0 16)) with | (r_20, u_19) => (if r_20 = 0 then (0, u_19) else (1, u_19))) else (1, w_8m0))) : Int32 × (Nat → Int32)) = (r, u) := e
    have p_26 := pl_takesNumber_32 (G := (upd u_2 17 0)) 300 (upd u_2 17 0) (⟨(PI_upd i_4 (by decide)), (by first | omega | (simp (disch := omega) only [↓i_in, ↓i_isCouple, ↓i_isBridge, ↓i_isTheme, ↓i_isBarge, i_lt, i_le, i_eq, i_clamp, i_upd, i_m1, Int32.toInt_toInt64, Int32.toInt_add, Int32.toInt_sub, Int32.toInt_mul, bm32, Int32.reduceToInt, Int64.reduceToInt, Nat.reduceLT, Nat.reduceEqDiff, reduceIte, true_or, or_true, true_and, and_true, false_or, or_false, not_true_eq_false, not_false_eq_true, eq_self] <;> omega)), (by first | omega | (simp (disch := omega) only [↓i_in, ↓i_isCouple, ↓i_isBridge, ↓i_isTheme, ↓i_isBarge, i_lt, i_le, i_eq, i_clamp, i_upd, i_m1, Int32.toInt_toInt64, Int32.toInt_add, Int32.toInt_sub, Int32.toInt_mul, bm32, Int32.reduceToInt, Int64.reduceToInt, Nat.reduceLT, Nat.reduceEqDiff, reduceIte, true_or, or_true, true_and, and_true, false_or, or_false, not_true_eq_false, not_false_eq_true, eq_self] <;> omega)), (by first | omega | (simp (disch := omega) only [↓i_in, ↓i_isCouple, ↓i_isBridge, ↓i_isTheme, ↓i_isBarge, i_lt, i_le, i_eq, i_clamp, i_upd, i_m1, Int32.toInt_toInt64, Int32.toInt_add, Int32.toInt_sub, Int32.toInt_mul, bm32, Int32.reduceToInt, Int64.reduceToInt, Nat.reduceLT, Nat.reduceEqDiff, reduceIte, true_or, or_true, true_and, and_true, false_or, or_false, not_true_eq_false, not_false_eq_true, eq_self] <;> omega)), (by first | omega | (simp (disch := omega) only [↓i_in, ↓i_isCouple, ↓i_isBridge, ↓i_isTheme, ↓i_isBarge, i_lt, i_le, i_eq, i_clamp, i_upd, i_m1, Int32.toInt_toInt64, Int32.toInt_add, Int32.toInt_sub, Int32.toInt_mul, bm32, Int32.reduceToInt, Int64.reduceToInt, Nat.reduceLT, Nat.reduceEqDiff, reduceIte, true_or, or_true, true_and, and_true, false_or, or_false, not_true_eq_false, not_false_eq_true, eq_self] <;> omega)), (by first | omega | (simp (disch := omega) only [↓i_in, ↓i_isCouple, ↓i_isBridge, ↓i_isTheme, ↓i_isBarge, i_lt, i_le, i_eq, i_clamp, i_upd, i_m1, Int32.toInt_toInt64, Int32.toInt_add, Int32.toInt_sub, Int32.toInt_mul, bm32, Int32.reduceToInt, Int64.reduceToInt, Nat.reduceLT, Nat.reduceEqDiff, reduceIte, true_or, or_true, true_and, and_true, false_or, or_false, not_true_eq_false, not_false_eq_true, eq_self] <;> omega)), (by first | omega | (simp (disch := omega) only [↓i_in, ↓i_isCouple, ↓i_isBridge, ↓i_isTheme, ↓i_isBarge, i_lt, i_le, i_eq, i_clamp, i_upd, i_m1, Int32.toInt_toInt64, Int32.toInt_add, Int32.toInt_sub, Int32.toInt_mul, bm32, Int32.reduceToInt, Int64.reduceToInt, Nat.reduceLT, Nat.reduceEqDiff, reduceIte, true_or, or_true, true_and, and_true, false_or, or_false, not_true_eq_false, not_false_eq_true, eq_self] <;> omega))⟩) _ x_24
    obtain ⟨i_27, i_28, i_29, i_30, i_31, i_32, i_33⟩ := p_26
    have i_27_g := i_27
    obtain ⟨⟨⟨i_27_2a, i_27_2b⟩, ⟨i_27_3a, i_27_3b⟩, ⟨i_27_4a, i_27_4b⟩, ⟨i_27_5a, i_27_5b⟩, ⟨i_27_6a, i_27_6b⟩, ⟨i_27_14a, i_27_14b⟩, ⟨i_27_42a, i_27_42b⟩⟩, ⟨i_27_15a, i_27_15b⟩, ⟨i_27_20a, i_27_20b⟩, ⟨i_27_21a, i_27_21b⟩, ⟨i_27_23a, i_27_23b⟩, ⟨i_27_24a, i_27_24b⟩⟩ := i_27_g
    try simp (disch := omega) only [↓i_in, ↓i_isCouple, ↓i_isBridge, ↓i_isTheme, ↓i_isBarge, i_lt, i_le, i_eq, i_clamp, i_upd, i_m1, Int32.toInt_toInt64, Int32.toInt_add, Int32.toInt_sub, Int32.toInt_mul, bm32, Int32.reduceToInt, Int64.reduceToInt, Nat.reduceLT, Nat.reduceEqDiff, reduceIte, true_or, or_true, true_and, and_true, false_or, or_false, not_true_eq_false, not_false_eq_true, eq_self] at i_28
    try simp (disch := omega) only [↓i_in, ↓i_isCouple, ↓i_isBridge, ↓i_isTheme, ↓i_isBarge, i_lt, i_le, i_eq, i_clamp, i_upd, i_m1, Int32.toInt_toInt64, Int32.toInt_add, Int32.toInt_sub, Int32.toInt_mul, bm32, Int32.reduceToInt, Int64.reduceToInt, Nat.reduceLT, Nat.reduceEqDiff, reduceIte, true_or, or_true, true_and, and_true, false_or, or_false, not_true_eq_false, not_false_eq_true, eq_self] at i_29
    try simp (disch := omega) only [↓i_in, ↓i_isCouple, ↓i_isBridge, ↓i_isTheme, ↓i_isBarge, i_lt, i_le, i_eq, i_clamp, i_upd, i_m1, Int32.toInt_toInt64, Int32.toInt_add, Int32.toInt_sub, Int32.toInt_mul, bm32, Int32.reduceToInt, Int64.reduceToInt, Nat.reduceLT, Nat.reduceEqDiff, reduceIte, true_or, or_true, true_and, and_true, false_or, or_false, not_true_eq_false, not_false_eq_true, eq_self] at i_30
    try simp (disch := omega) only [↓i_in, ↓i_isCouple, ↓i_isBridge, ↓i_isTheme, ↓i_isBarge, i_lt, i_le, i_eq, i_clamp, i_upd, i_m1, Int32.toInt_toInt64, Int32.toInt_add, Int32.toInt_sub, Int32.toInt_mul, bm32, Int32.reduceToInt, Int64.reduceToInt, Nat.reduceLT, Nat.reduceEqDiff, reduceIte, true_or, or_true, true_and, and_true, false_or, or_false, not_true_eq_false, not_false_eq_true, eq_self] at i_31
    try simp (disch := omega) only [↓i_in, ↓i_isCouple, ↓i_isBridge, ↓i_isTheme, ↓i_isBarge, i_lt, i_le, i_eq, i_clamp, i_upd, i_m1, Int32.toInt_toInt64, Int32.toInt_add, Int32.toInt_sub, Int32.toInt_mul, bm32, Int32.reduceToInt, Int64.reduceToInt, Nat.reduceLT, Nat.reduceEqDiff, reduceIte, true_or, or_true, true_and, and_true, false_or, or_false, not_true_eq_false, not_false_eq_true, eq_self] at i_32
    try simp (disch := omega) only [↓i_in, ↓i_isCouple, ↓i_isBridge, ↓i_isTheme, ↓i_isBarge, i_lt, i_le, i_eq, i_clamp, i_upd, i_m1, Int32.toInt_toInt64, Int32.toInt_add, Int32.toInt_sub, Int32.toInt_mul, bm32, Int32.reduceToInt, Int64.reduceToInt, Nat.reduceLT, Nat.reduceEqDiff, reduceIte, true_or, or_true, true_and, and_true, false_or, or_false, not_true_eq_false, not_false_eq_true, eq_self] at i_33
    by_cases c_34 : 4 ≤ ((w_8m0 15) - (w_8m0 16))
    · rw [if_pos c_34] at e
      try simp (disch := omega) only [↓i_in, ↓i_isCouple, ↓i_isBridge, ↓i_isTheme, ↓i_isBarge, i_lt, i_le, i_eq, i_clamp, i_upd, i_m1, Int32.toInt_toInt64, Int32.toInt_add, Int32.toInt_sub, Int32.toInt_mul, bm32, Int32.reduceToInt, Int64.reduceToInt, Nat.reduceLT, Nat.reduceEqDiff, reduceIte, true_or, or_true, true_and, and_true, false_or, or_false, not_true_eq_false, not_false_eq_true, eq_self] at c_34
      generalize x_35 : (f_m_fails w_8m0 2 (w_8m0 16)) = z_36 at e
      obtain ⟨r_12, u_11⟩ := z_36
      replace e : ((if r_12 = 0 then (0, u_11) else (1, u_11)) : Int32 × (Nat → Int32)) = (r, u) := e
      have p_37 := p_fails i_27 _ _ x_35
      obtain ⟨i_38, i_39, i_40, i_41, i_42, i_43, i_44, i_45⟩ := p_37
      have i_38_g := i_38
      obtain ⟨⟨⟨i_38_2a, i_38_2b⟩, ⟨i_38_3a, i_38_3b⟩, ⟨i_38_4a, i_38_4b⟩, ⟨i_38_5a, i_38_5b⟩, ⟨i_38_6a, i_38_6b⟩, ⟨i_38_14a, i_38_14b⟩, ⟨i_38_42a, i_38_42b⟩⟩, ⟨i_38_15a, i_38_15b⟩, ⟨i_38_20a, i_38_20b⟩, ⟨i_38_21a, i_38_21b⟩, ⟨i_38_23a, i_38_23b⟩, ⟨i_38_24a, i_38_24b⟩⟩ := i_38_g
      by_cases c_46 : r_12 = 0
      · rw [if_pos c_46] at e
        try simp (disch := omega) only [↓i_in, ↓i_isCouple, ↓i_isBridge, ↓i_isTheme, ↓i_isBarge, i_lt, i_le, i_eq, i_clamp, i_upd, i_m1, Int32.toInt_toInt64, Int32.toInt_add, Int32.toInt_sub, Int32.toInt_mul, bm32, Int32.reduceToInt, Int64.reduceToInt, Nat.reduceLT, Nat.reduceEqDiff, reduceIte, true_or, or_true, true_and, and_true, false_or, or_false, not_true_eq_false, not_false_eq_true, eq_self] at c_46
        cases e
        exact ⟨i_38, (by first | omega | (simp (disch := omega) only [↓i_in, ↓i_isCouple, ↓i_isBridge, ↓i_isTheme, ↓i_isBarge, i_lt, i_le, i_eq, i_clamp, i_upd, i_m1, Int32.toInt_toInt64, Int32.toInt_add, Int32.toInt_sub, Int32.toInt_mul, bm32, Int32.reduceToInt, Int64.reduceToInt, Nat.reduceLT, Nat.reduceEqDiff, reduceIte, true_or, or_true, true_and, and_true, false_or, or_false, not_true_eq_false, not_false_eq_true, eq_self] <;> omega)), (by first | omega | (simp (disch := omega) only [↓i_in, ↓i_isCouple, ↓i_isBridge, ↓i_isTheme, ↓i_isBarge, i_lt, i_le, i_eq, i_clamp, i_upd, i_m1, Int32.toInt_toInt64, Int32.toInt_add, Int32.toInt_sub, Int32.toInt_mul, bm32, Int32.reduceToInt, Int64.reduceToInt, Nat.reduceLT, Nat.reduceEqDiff, reduceIte, true_or, or_true, true_and, and_true, false_or, or_false, not_true_eq_false, not_false_eq_true, eq_self] <;> omega)), (by first | omega | (simp (disch := omega) only [↓i_in, ↓i_isCouple, ↓i_isBridge, ↓i_isTheme, ↓i_isBarge, i_lt, i_le, i_eq, i_clamp, i_upd, i_m1, Int32.toInt_toInt64, Int32.toInt_add, Int32.toInt_sub, Int32.toInt_mul, bm32, Int32.reduceToInt, Int64.reduceToInt, Nat.reduceLT, Nat.reduceEqDiff, reduceIte, true_or, or_true, true_and, and_true, false_or, or_false, not_true_eq_false, not_false_eq_true, eq_self] <;> omega)), (by first | omega | (simp (disch := omega) only [↓i_in, ↓i_isCouple, ↓i_isBridge, ↓i_isTheme, ↓i_isBarge, i_lt, i_le, i_eq, i_clamp, i_upd, i_m1, Int32.toInt_toInt64, Int32.toInt_add, Int32.toInt_sub, Int32.toInt_mul, bm32, Int32.reduceToInt, Int64.reduceToInt, Nat.reduceLT, Nat.reduceEqDiff, reduceIte, true_or, or_true, true_and, and_true, false_or, or_false, not_true_eq_false, not_false_eq_true, eq_self] <;> omega)), (by first | omega | (simp (disch := omega) only [↓i_in, ↓i_isCouple, ↓i_isBridge, ↓i_isTheme, ↓i_isBarge, i_lt, i_le, i_eq, i_clamp, i_upd, i_m1, Int32.toInt_toInt64, Int32.toInt_add, Int32.toInt_sub, Int32.toInt_mul, bm32, Int32.reduceToInt, Int64.reduceToInt, Nat.reduceLT, Nat.reduceEqDiff, reduceIte, true_or, or_true, true_and, and_true, false_or, or_false, not_true_eq_false, not_false_eq_true, eq_self] <;> omega)), (by first | omega | (simp (disch := omega) only [↓i_in, ↓i_isCouple, ↓i_isBridge, ↓i_isTheme, ↓i_isBarge, i_lt, i_le, i_eq, i_clamp, i_upd, i_m1, Int32.toInt_toInt64, Int32.toInt_add, Int32.toInt_sub, Int32.toInt_mul, bm32, Int32.reduceToInt, Int64.reduceToInt, Nat.reduceLT, Nat.reduceEqDiff, reduceIte, true_or, or_true, true_and, and_true, false_or, or_false, not_true_eq_false, not_false_eq_true, eq_self] <;> omega)), (by first | omega | (simp (disch := omega) only [↓i_in, ↓i_isCouple, ↓i_isBridge, ↓i_isTheme, ↓i_isBarge, i_lt, i_le, i_eq, i_clamp, i_upd, i_m1, Int32.toInt_toInt64, Int32.toInt_add, Int32.toInt_sub, Int32.toInt_mul, bm32, Int32.reduceToInt, Int64.reduceToInt, Nat.reduceLT, Nat.reduceEqDiff, reduceIte, true_or, or_true, true_and, and_true, false_or, or_false, not_true_eq_false, not_false_eq_true, eq_self] <;> omega))⟩
      · rw [if_neg c_46] at e
        try simp (disch := omega) only [↓i_in, ↓i_isCouple, ↓i_isBridge, ↓i_isTheme, ↓i_isBarge, i_lt, i_le, i_eq, i_clamp, i_upd, i_m1, Int32.toInt_toInt64, Int32.toInt_add, Int32.toInt_sub, Int32.toInt_mul, bm32, Int32.reduceToInt, Int64.reduceToInt, Nat.reduceLT, Nat.reduceEqDiff, reduceIte, true_or, or_true, true_and, and_true, false_or, or_false, not_true_eq_false, not_false_eq_true, eq_self] at c_46
        cases e
        exact ⟨i_38, (by first | omega | (simp (disch := omega) only [↓i_in, ↓i_isCouple, ↓i_isBridge, ↓i_isTheme, ↓i_isBarge, i_lt, i_le, i_eq, i_clamp, i_upd, i_m1, Int32.toInt_toInt64, Int32.toInt_add, Int32.toInt_sub, Int32.toInt_mul, bm32, Int32.reduceToInt, Int64.reduceToInt, Nat.reduceLT, Nat.reduceEqDiff, reduceIte, true_or, or_true, true_and, and_true, false_or, or_false, not_true_eq_false, not_false_eq_true, eq_self] <;> omega)), (by first | omega | (simp (disch := omega) only [↓i_in, ↓i_isCouple, ↓i_isBridge, ↓i_isTheme, ↓i_isBarge, i_lt, i_le, i_eq, i_clamp, i_upd, i_m1, Int32.toInt_toInt64, Int32.toInt_add, Int32.toInt_sub, Int32.toInt_mul, bm32, Int32.reduceToInt, Int64.reduceToInt, Nat.reduceLT, Nat.reduceEqDiff, reduceIte, true_or, or_true, true_and, and_true, false_or, or_false, not_true_eq_false, not_false_eq_true, eq_self] <;> omega)), (by first | omega | (simp (disch := omega) only [↓i_in, ↓i_isCouple, ↓i_isBridge, ↓i_isTheme, ↓i_isBarge, i_lt, i_le, i_eq, i_clamp, i_upd, i_m1, Int32.toInt_toInt64, Int32.toInt_add, Int32.toInt_sub, Int32.toInt_mul, bm32, Int32.reduceToInt, Int64.reduceToInt, Nat.reduceLT, Nat.reduceEqDiff, reduceIte, true_or, or_true, true_and, and_true, false_or, or_false, not_true_eq_false, not_false_eq_true, eq_self] <;> omega)), (by first | omega | (simp (disch := omega) only [↓i_in, ↓i_isCouple, ↓i_isBridge, ↓i_isTheme, ↓i_isBarge, i_lt, i_le, i_eq, i_clamp, i_upd, i_m1, Int32.toInt_toInt64, Int32.toInt_add, Int32.toInt_sub, Int32.toInt_mul, bm32, Int32.reduceToInt, Int64.reduceToInt, Nat.reduceLT, Nat.reduceEqDiff, reduceIte, true_or, or_true, true_and, and_true, false_or, or_false, not_true_eq_false, not_false_eq_true, eq_self] <;> omega)), (by first | omega | (simp (disch := omega) only [↓i_in, ↓i_isCouple, ↓i_isBridge, ↓i_isTheme, ↓i_isBarge, i_lt, i_le, i_eq, i_clamp, i_upd, i_m1, Int32.toInt_toInt64, Int32.toInt_add, Int32.toInt_sub, Int32.toInt_mul, bm32, Int32.reduceToInt, Int64.reduceToInt, Nat.reduceLT, Nat.reduceEqDiff, reduceIte, true_or, or_true, true_and, and_true, false_or, or_false, not_true_eq_false, not_false_eq_true, eq_self] <;> omega)), (by first | omega | (simp (disch := omega) only [↓i_in, ↓i_isCouple, ↓i_isBridge, ↓i_isTheme, ↓i_isBarge, i_lt, i_le, i_eq, i_clamp, i_upd, i_m1, Int32.toInt_toInt64, Int32.toInt_add, Int32.toInt_sub, Int32.toInt_mul, bm32, Int32.reduceToInt, Int64.reduceToInt, Nat.reduceLT, Nat.reduceEqDiff, reduceIte, true_or, or_true, true_and, and_true, false_or, or_false, not_true_eq_false, not_false_eq_true, eq_self] <;> omega)), (by first | omega | (simp (disch := omega) only [↓i_in, ↓i_isCouple, ↓i_isBridge, ↓i_isTheme, ↓i_isBarge, i_lt, i_le, i_eq, i_clamp, i_upd, i_m1, Int32.toInt_toInt64, Int32.toInt_add, Int32.toInt_sub, Int32.toInt_mul, bm32, Int32.reduceToInt, Int64.reduceToInt, Nat.reduceLT, Nat.reduceEqDiff, reduceIte, true_or, or_true, true_and, and_true, false_or, or_false, not_true_eq_false, not_false_eq_true, eq_self] <;> omega))⟩
    · rw [if_neg c_34] at e
      try simp (disch := omega) only [↓i_in, ↓i_isCouple, ↓i_isBridge, ↓i_isTheme, ↓i_isBarge, i_lt, i_le, i_eq, i_clamp, i_upd, i_m1, Int32.toInt_toInt64, Int32.toInt_add, Int32.toInt_sub, Int32.toInt_mul, bm32, Int32.reduceToInt, Int64.reduceToInt, Nat.reduceLT, Nat.reduceEqDiff, reduceIte, true_or, or_true, true_and, and_true, false_or, or_false, not_true_eq_false, not_false_eq_true, eq_self] at c_34
      by_cases c_47 : (f_m_in (((w_8m0 17)).toInt64) lo_.toInt64 hi_.toInt64) = 0
      · rw [if_pos c_47] at e
        try simp (disch := omega) only [↓i_in, ↓i_isCouple, ↓i_isBridge, ↓i_isTheme, ↓i_isBarge, i_lt, i_le, i_eq, i_clamp, i_upd, i_m1, Int32.toInt_toInt64, Int32.toInt_add, Int32.toInt_sub, Int32.toInt_mul, bm32, Int32.reduceToInt, Int64.reduceToInt, Nat.reduceLT, Nat.reduceEqDiff, reduceIte, true_or, or_true, true_and, and_true, false_or, or_false, not_true_eq_false, not_false_eq_true, eq_self] at c_47
        generalize x_48 : (f_m_fails w_8m0 2 (w_8m0 16)) = z_49 at e
        obtain ⟨r_20, u_19⟩ := z_49
        replace e : ((if r_20 = 0 then (0, u_19) else (1, u_19)) : Int32 × (Nat → Int32)) = (r, u) := e
        have p_50 := p_fails i_27 _ _ x_48
        obtain ⟨i_51, i_52, i_53, i_54, i_55, i_56, i_57, i_58⟩ := p_50
        have i_51_g := i_51
        obtain ⟨⟨⟨i_51_2a, i_51_2b⟩, ⟨i_51_3a, i_51_3b⟩, ⟨i_51_4a, i_51_4b⟩, ⟨i_51_5a, i_51_5b⟩, ⟨i_51_6a, i_51_6b⟩, ⟨i_51_14a, i_51_14b⟩, ⟨i_51_42a, i_51_42b⟩⟩, ⟨i_51_15a, i_51_15b⟩, ⟨i_51_20a, i_51_20b⟩, ⟨i_51_21a, i_51_21b⟩, ⟨i_51_23a, i_51_23b⟩, ⟨i_51_24a, i_51_24b⟩⟩ := i_51_g
        by_cases c_59 : r_20 = 0
        · rw [if_pos c_59] at e
          try simp (disch := omega) only [↓i_in, ↓i_isCouple, ↓i_isBridge, ↓i_isTheme, ↓i_isBarge, i_lt, i_le, i_eq, i_clamp, i_upd, i_m1, Int32.toInt_toInt64, Int32.toInt_add, Int32.toInt_sub, Int32.toInt_mul, bm32, Int32.reduceToInt, Int64.reduceToInt, Nat.reduceLT, Nat.reduceEqDiff, reduceIte, true_or, or_true, true_and, and_true, false_or, or_false, not_true_eq_false, not_false_eq_true, eq_self] at c_59
          cases e
          exact ⟨i_51, (by first | omega | (simp (disch := omega) only [↓i_in, ↓i_isCouple, ↓i_isBridge, ↓i_isTheme, ↓i_isBarge, i_lt, i_le, i_eq, i_clamp, i_upd, i_m1, Int32.toInt_toInt64, Int32.toInt_add, Int32.toInt_sub, Int32.toInt_mul, bm32, Int32.reduceToInt, Int64.reduceToInt, Nat.reduceLT, Nat.reduceEqDiff, reduceIte, true_or, or_true, true_and, and_true, false_or, or_false, not_true_eq_false, not_false_eq_true, eq_self] <;> omega)), (by first | omega | (simp (disch := omega) only [↓i_in, ↓i_isCouple, ↓i_isBridge, ↓i_isTheme, ↓i_isBarge, i_lt, i_le, i_eq, i_clamp, i_upd, i_m1, Int32.toInt_toInt64, Int32.toInt_add, Int32.toInt_sub, Int32.toInt_mul, bm32, Int32.reduceToInt, Int64.reduceToInt, Nat.reduceLT, Nat.reduceEqDiff, reduceIte, true_or, or_true, true_and, and_true, false_or, or_false, not_true_eq_false, not_false_eq_true, eq_self] <;> omega)), (by first | omega | (simp (disch := omega) only [↓i_in, ↓i_isCouple, ↓i_isBridge, ↓i_isTheme, ↓i_isBarge, i_lt, i_le, i_eq, i_clamp, i_upd, i_m1, Int32.toInt_toInt64, Int32.toInt_add, Int32.toInt_sub, Int32.toInt_mul, bm32, Int32.reduceToInt, Int64.reduceToInt, Nat.reduceLT, Nat.reduceEqDiff, reduceIte, true_or, or_true, true_and, and_true, false_or, or_false, not_true_eq_false, not_false_eq_true, eq_self] <;> omega)), (by first | omega | (simp (disch := omega) only [↓i_in, ↓i_isCouple, ↓i_isBridge, ↓i_isTheme, ↓i_isBarge, i_lt, i_le, i_eq, i_clamp, i_upd, i_m1, Int32.toInt_toInt64, Int32.toInt_add, Int32.toInt_sub, Int32.toInt_mul, bm32, Int32.reduceToInt, Int64.reduceToInt, Nat.reduceLT, Nat.reduceEqDiff, reduceIte, true_or, or_true, true_and, and_true, false_or, or_false, not_true_eq_false, not_false_eq_true, eq_self] <;> omega)), (by first | omega | (simp (disch := omega) only [↓i_in, ↓i_isCouple, ↓i_isBridge, ↓i_isTheme, ↓i_isBarge, i_lt, i_le, i_eq, i_clamp, i_upd, i_m1, Int32.toInt_toInt64, Int32.toInt_add, Int32.toInt_sub, Int32.toInt_mul, bm32, Int32.reduceToInt, Int64.reduceToInt, Nat.reduceLT, Nat.reduceEqDiff, reduceIte, true_or, or_true, true_and, and_true, false_or, or_false, not_true_eq_false, not_false_eq_true, eq_self] <;> omega)), (by first | omega | (simp (disch := omega) only [↓i_in, ↓i_isCouple, ↓i_isBridge, ↓i_isTheme, ↓i_isBarge, i_lt, i_le, i_eq, i_clamp, i_upd, i_m1, Int32.toInt_toInt64, Int32.toInt_add, Int32.toInt_sub, Int32.toInt_mul, bm32, Int32.reduceToInt, Int64.reduceToInt, Nat.reduceLT, Nat.reduceEqDiff, reduceIte, true_or, or_true, true_and, and_true, false_or, or_false, not_true_eq_false, not_false_eq_true, eq_self] <;> omega)), (by first | omega | (simp (disch := omega) only [↓i_in, ↓i_isCouple, ↓i_isBridge, ↓i_isTheme, ↓i_isBarge, i_lt, i_le, i_eq, i_clamp, i_upd, i_m1, Int32.toInt_toInt64, Int32.toInt_add, Int32.toInt_sub, Int32.toInt_mul, bm32, Int32.reduceToInt, Int64.reduceToInt, Nat.reduceLT, Nat.reduceEqDiff, reduceIte, true_or, or_true, true_and, and_true, false_or, or_false, not_true_eq_false, not_false_eq_true, eq_self] <;> omega))⟩
        · rw [if_neg c_59] at e
          try simp (disch := omega) only [↓i_in, ↓i_isCouple, ↓i_isBridge, ↓i_isTheme, ↓i_isBarge, i_lt, i_le, i_eq, i_clamp, i_upd, i_m1, Int32.toInt_toInt64, Int32.toInt_add, Int32.toInt_sub, Int32.toInt_mul, bm32, Int32.reduceToInt, Int64.reduceToInt, Nat.reduceLT, Nat.reduceEqDiff, reduceIte, true_or, or_true, true_and, and_true, false_or, or_false, not_true_eq_false, not_false_eq_true, eq_self] at c_59
          cases e
          exact ⟨i_51, (by first | omega | (simp (disch := omega) only [↓i_in, ↓i_isCouple, ↓i_isBridge, ↓i_isTheme, ↓i_isBarge, i_lt, i_le, i_eq, i_clamp, i_upd, i_m1, Int32.toInt_toInt64, Int32.toInt_add, Int32.toInt_sub, Int32.toInt_mul, bm32, Int32.reduceToInt, Int64.reduceToInt, Nat.reduceLT, Nat.reduceEqDiff, reduceIte, true_or, or_true, true_and, and_true, false_or, or_false, not_true_eq_false, not_false_eq_true, eq_self] <;> omega)), (by first | omega | (simp (disch := omega) only [↓i_in, ↓i_isCouple, ↓i_isBridge, ↓i_isTheme, ↓i_isBarge, i_lt, i_le, i_eq, i_clamp, i_upd, i_m1, Int32.toInt_toInt64, Int32.toInt_add, Int32.toInt_sub, Int32.toInt_mul, bm32, Int32.reduceToInt, Int64.reduceToInt, Nat.reduceLT, Nat.reduceEqDiff, reduceIte, true_or, or_true, true_and, and_true, false_or, or_false, not_true_eq_false, not_false_eq_true, eq_self] <;> omega)), (by first | omega | (simp (disch := omega) only [↓i_in, ↓i_isCouple, ↓i_isBridge, ↓i_isTheme, ↓i_isBarge, i_lt, i_le, i_eq, i_clamp, i_upd, i_m1, Int32.toInt_toInt64, Int32.toInt_add, Int32.toInt_sub, Int32.toInt_mul, bm32, Int32.reduceToInt, Int64.reduceToInt, Nat.reduceLT, Nat.reduceEqDiff, reduceIte, true_or, or_true, true_and, and_true, false_or, or_false, not_true_eq_false, not_false_eq_true, eq_self] <;> omega)), (by first | omega | (simp (disch := omega) only [↓i_in, ↓i_isCouple, ↓i_isBridge, ↓i_isTheme, ↓i_isBarge, i_lt, i_le, i_eq, i_clamp, i_upd, i_m1, Int32.toInt_toInt64, Int32.toInt_add, Int32.toInt_sub, Int32.toInt_mul, bm32, Int32.reduceToInt, Int64.reduceToInt, Nat.reduceLT, Nat.reduceEqDiff, reduceIte, true_or, or_true, true_and, and_true, false_or, or_false, not_true_eq_false, not_false_eq_true, eq_self] <;> omega)), (by first | omega | (simp (disch := omega) only [↓i_in, ↓i_isCouple, ↓i_isBridge, ↓i_isTheme, ↓i_isBarge, i_lt, i_le, i_eq, i_clamp, i_upd, i_m1, Int32.toInt_toInt64, Int32.toInt_add, Int32.toInt_sub, Int32.toInt_mul, bm32, Int32.reduceToInt, Int64.reduceToInt, Nat.reduceLT, Nat.reduceEqDiff, reduceIte, true_or, or_true, true_and, and_true, false_or, or_false, not_true_eq_false, not_false_eq_true, eq_self] <;> omega)), (by first | omega | (simp (disch := omega) only [↓i_in, ↓i_isCouple, ↓i_isBridge, ↓i_isTheme, ↓i_isBarge, i_lt, i_le, i_eq, i_clamp, i_upd, i_m1, Int32.toInt_toInt64, Int32.toInt_add, Int32.toInt_sub, Int32.toInt_mul, bm32, Int32.reduceToInt, Int64.reduceToInt, Nat.reduceLT, Nat.reduceEqDiff, reduceIte, true_or, or_true, true_and, and_true, false_or, or_false, not_true_eq_false, not_false_eq_true, eq_self] <;> omega)), (by first | omega | (simp (disch := omega) only [↓i_in, ↓i_isCouple, ↓i_isBridge, ↓i_isTheme, ↓i_isBarge, i_lt, i_le, i_eq, i_clamp, i_upd, i_m1, Int32.toInt_toInt64, Int32.toInt_add, Int32.toInt_sub, Int32.toInt_mul, bm32, Int32.reduceToInt, Int64.reduceToInt, Nat.reduceLT, Nat.reduceEqDiff, reduceIte, true_or, or_true, true_and, and_true, false_or, or_false, not_true_eq_false, not_false_eq_true, eq_self] <;> omega))⟩
      · rw [if_neg c_47] at e
        try simp (disch := omega) only [↓i_in, ↓i_isCouple, ↓i_isBridge, ↓i_isTheme, ↓i_isBarge, i_lt, i_le, i_eq, i_clamp, i_upd, i_m1, Int32.toInt_toInt64, Int32.toInt_add, Int32.toInt_sub, Int32.toInt_mul, bm32, Int32.reduceToInt, Int64.reduceToInt, Nat.reduceLT, Nat.reduceEqDiff, reduceIte, true_or, or_true, true_and, and_true, false_or, or_false, not_true_eq_false, not_false_eq_true, eq_self] at c_47
        cases e
        exact ⟨i_27, (by first | omega | (simp (disch := omega) only [↓i_in, ↓i_isCouple, ↓i_isBridge, ↓i_isTheme, ↓i_isBarge, i_lt, i_le, i_eq, i_clamp, i_upd, i_m1, Int32.toInt_toInt64, Int32.toInt_add, Int32.toInt_sub, Int32.toInt_mul, bm32, Int32.reduceToInt, Int64.reduceToInt, Nat.reduceLT, Nat.reduceEqDiff, reduceIte, true_or, or_true, true_and, and_true, false_or, or_false, not_true_eq_false, not_false_eq_true, eq_self] <;> omega)), (by first | omega | (simp (disch := omega) only [↓i_in, ↓i_isCouple, ↓i_isBridge, ↓i_isTheme, ↓i_isBarge, i_lt, i_le, i_eq, i_clamp, i_upd, i_m1, Int32.toInt_toInt64, Int32.toInt_add, Int32.toInt_sub, Int32.toInt_mul, bm32, Int32.reduceToInt, Int64.reduceToInt, Nat.reduceLT, Nat.reduceEqDiff, reduceIte, true_or, or_true, true_and, and_true, false_or, or_false, not_true_eq_false, not_false_eq_true, eq_self] <;> omega)), (by first | omega | (simp (disch := omega) only [↓i_in, ↓i_isCouple, ↓i_isBridge, ↓i_isTheme, ↓i_isBarge, i_lt, i_le, i_eq, i_clamp, i_upd, i_m1, Int32.toInt_toInt64, Int32.toInt_add, Int32.toInt_sub, Int32.toInt_mul, bm32, Int32.reduceToInt, Int64.reduceToInt, Nat.reduceLT, Nat.reduceEqDiff, reduceIte, true_or, or_true, true_and, and_true, false_or, or_false, not_true_eq_false, not_false_eq_true, eq_self] <;> omega)), (by first | omega | (simp (disch := omega) only [↓i_in, ↓i_isCouple, ↓i_isBridge, ↓i_isTheme, ↓i_isBarge, i_lt, i_le, i_eq, i_clamp, i_upd, i_m1, Int32.toInt_toInt64, Int32.toInt_add, Int32.toInt_sub, Int32.toInt_mul, bm32, Int32.reduceToInt, Int64.reduceToInt, Nat.reduceLT, Nat.reduceEqDiff, reduceIte, true_or, or_true, true_and, and_true, false_or, or_false, not_true_eq_false, not_false_eq_true, eq_self] <;> omega)), (by first | omega | (simp (disch := omega) only [↓i_in, ↓i_isCouple, ↓i_isBridge, ↓i_isTheme, ↓i_isBarge, i_lt, i_le, i_eq, i_clamp, i_upd, i_m1, Int32.toInt_toInt64, Int32.toInt_add, Int32.toInt_sub, Int32.toInt_mul, bm32, Int32.reduceToInt, Int64.reduceToInt, Nat.reduceLT, Nat.reduceEqDiff, reduceIte, true_or, or_true, true_and, and_true, false_or, or_false, not_true_eq_false, not_false_eq_true, eq_self] <;> omega)), (by first | omega | (simp (disch := omega) only [↓i_in, ↓i_isCouple, ↓i_isBridge, ↓i_isTheme, ↓i_isBarge, i_lt, i_le, i_eq, i_clamp, i_upd, i_m1, Int32.toInt_toInt64, Int32.toInt_add, Int32.toInt_sub, Int32.toInt_mul, bm32, Int32.reduceToInt, Int64.reduceToInt, Nat.reduceLT, Nat.reduceEqDiff, reduceIte, true_or, or_true, true_and, and_true, false_or, or_false, not_true_eq_false, not_false_eq_true, eq_self] <;> omega)), (by first | omega | (simp (disch := omega) only [↓i_in, ↓i_isCouple, ↓i_isBridge, ↓i_isTheme, ↓i_isBarge, i_lt, i_le, i_eq, i_clamp, i_upd, i_m1, Int32.toInt_toInt64, Int32.toInt_add, Int32.toInt_sub, Int32.toInt_mul, bm32, Int32.reduceToInt, Int64.reduceToInt, Nat.reduceLT, Nat.reduceEqDiff, reduceIte, true_or, or_true, true_and, and_true, false_or, or_false, not_true_eq_false, not_false_eq_true, eq_self] <;> omega))⟩
end
section
set_option maxHeartbeats 4000000 in
theorem sl_takesBridges_2 {G : Nat → Int32} {f13 : Nat → Int32} {K : Int32 → (Nat → Int32) → (Nat → Int32) → Prop} (hK : ∀ w_1l1 w_1m0 w_1m1, (PI w_1m0 ∧ ((G 15).toInt ≤ (w_1m0 15).toInt) ∧ ((w_1m0 14).toInt = (G 14).toInt)) → K w_1l1 w_1m0 w_1m1) : ∀ (n : Nat) w_1l1 w_1m0 w_1m1, (PI w_1m0 ∧ ((G 15).toInt ≤ (w_1m0 15).toInt) ∧ ((w_1m0 14).toInt = (G 14).toInt)) → (7 - (w_1m0 20).toInt).toNat < n → S_m_takesBridges_2 f13 K n w_1l1 w_1m0 w_1m1 := by
  intro n
  induction n with
  | zero => intro w_1l1 w_1m0 w_1m1 hI hm; exact absurd hm (Nat.not_lt_zero _)
  | succ n ih =>
    intro w_1l1 w_1m0 w_1m1 hI hm
    rw [S_m_takesBridges_2_s]
    have hI0 := hI
    obtain ⟨i_1, i_2, i_3⟩ := hI0
    have i_1_g := i_1
    obtain ⟨⟨⟨i_1_2a, i_1_2b⟩, ⟨i_1_3a, i_1_3b⟩, ⟨i_1_4a, i_1_4b⟩, ⟨i_1_5a, i_1_5b⟩, ⟨i_1_6a, i_1_6b⟩, ⟨i_1_14a, i_1_14b⟩, ⟨i_1_42a, i_1_42b⟩⟩, ⟨i_1_15a, i_1_15b⟩, ⟨i_1_20a, i_1_20b⟩, ⟨i_1_21a, i_1_21b⟩, ⟨i_1_23a, i_1_23b⟩, ⟨i_1_24a, i_1_24b⟩⟩ := i_1_g
    refine ⟨fun c_4 => ?_, fun c_4 => ?_⟩
    · skip
      try simp (disch := omega) only [↓i_in, ↓i_isCouple, ↓i_isBridge, ↓i_isTheme, ↓i_isBarge, i_lt, i_le, i_eq, i_clamp, i_upd, i_m1, Int32.toInt_toInt64, Int32.toInt_add, Int32.toInt_sub, Int32.toInt_mul, bm32, Int32.reduceToInt, Int64.reduceToInt, Nat.reduceLT, Nat.reduceEqDiff, reduceIte, true_or, or_true, true_and, and_true, false_or, or_false, not_true_eq_false, not_false_eq_true, eq_self] at c_4
      exact hK w_1l1 w_1m0 w_1m1 hI
    · skip
      try simp (disch := omega) only [↓i_in, ↓i_isCouple, ↓i_isBridge, ↓i_isTheme, ↓i_isBarge, i_lt, i_le, i_eq, i_clamp, i_upd, i_m1, Int32.toInt_toInt64, Int32.toInt_add, Int32.toInt_sub, Int32.toInt_mul, bm32, Int32.reduceToInt, Int64.reduceToInt, Nat.reduceLT, Nat.reduceEqDiff, reduceIte, true_or, or_true, true_and, and_true, false_or, or_false, not_true_eq_false, not_false_eq_true, eq_self] at c_4
      refine ⟨fun c_5 => ?_, fun c_5 => ?_⟩
      · skip
        try simp (disch := omega) only [↓i_in, ↓i_isCouple, ↓i_isBridge, ↓i_isTheme, ↓i_isBarge, i_lt, i_le, i_eq, i_clamp, i_upd, i_m1, Int32.toInt_toInt64, Int32.toInt_add, Int32.toInt_sub, Int32.toInt_mul, bm32, Int32.reduceToInt, Int64.reduceToInt, Nat.reduceLT, Nat.reduceEqDiff, reduceIte, true_or, or_true, true_and, and_true, false_or, or_false, not_true_eq_false, not_false_eq_true, eq_self] at c_5
        refine ⟨s_fails, ?_⟩
        intro r_17 u_16 e_6
        have p_7 := p_fails i_1 _ _ e_6.symm
        obtain ⟨i_8, i_9, i_10, i_11, i_12, i_13, i_14, i_15⟩ := p_7
        have i_8_g := i_8
        obtain ⟨⟨⟨i_8_2a, i_8_2b⟩, ⟨i_8_3a, i_8_3b⟩, ⟨i_8_4a, i_8_4b⟩, ⟨i_8_5a, i_8_5b⟩, ⟨i_8_6a, i_8_6b⟩, ⟨i_8_14a, i_8_14b⟩, ⟨i_8_42a, i_8_42b⟩⟩, ⟨i_8_15a, i_8_15b⟩, ⟨i_8_20a, i_8_20b⟩, ⟨i_8_21a, i_8_21b⟩, ⟨i_8_23a, i_8_23b⟩, ⟨i_8_24a, i_8_24b⟩⟩ := i_8_g
        exact trivial
      · skip
        try simp (disch := omega) only [↓i_in, ↓i_isCouple, ↓i_isBridge, ↓i_isTheme, ↓i_isBarge, i_lt, i_le, i_eq, i_clamp, i_upd, i_m1, Int32.toInt_toInt64, Int32.toInt_add, Int32.toInt_sub, Int32.toInt_mul, bm32, Int32.reduceToInt, Int64.reduceToInt, Nat.reduceLT, Nat.reduceEqDiff, reduceIte, true_or, or_true, true_and, and_true, false_or, or_false, not_true_eq_false, not_false_eq_true, eq_self] at c_5
        refine ⟨(s_takesNumber i_1), ?_⟩
        intro r_6 u_5 e_16
        have p_17 := p_takesNumber i_1 _ _ e_16.symm
        obtain ⟨i_18, i_19, i_20, i_21, i_22, i_23, i_24, i_25⟩ := p_17
        have i_18_g := i_18
        obtain ⟨⟨⟨i_18_2a, i_18_2b⟩, ⟨i_18_3a, i_18_3b⟩, ⟨i_18_4a, i_18_4b⟩, ⟨i_18_5a, i_18_5b⟩, ⟨i_18_6a, i_18_6b⟩, ⟨i_18_14a, i_18_14b⟩, ⟨i_18_42a, i_18_42b⟩⟩, ⟨i_18_15a, i_18_15b⟩, ⟨i_18_20a, i_18_20b⟩, ⟨i_18_21a, i_18_21b⟩, ⟨i_18_23a, i_18_23b⟩, ⟨i_18_24a, i_18_24b⟩⟩ := i_18_g
        try simp (disch := omega) only [↓i_in, ↓i_isCouple, ↓i_isBridge, ↓i_isTheme, ↓i_isBarge, i_lt, i_le, i_eq, i_clamp, i_upd, i_m1, Int32.toInt_toInt64, Int32.toInt_add, Int32.toInt_sub, Int32.toInt_mul, bm32, Int32.reduceToInt, Int64.reduceToInt, Nat.reduceLT, Nat.reduceEqDiff, reduceIte, true_or, or_true, true_and, and_true, false_or, or_false, not_true_eq_false, not_false_eq_true, eq_self] at i_25
        refine ⟨fun c_26 => ?_, fun c_26 => ?_⟩
        · exact trivial
        · skip
          try simp (disch := omega) only [↓i_in, ↓i_isCouple, ↓i_isBridge, ↓i_isTheme, ↓i_isBarge, i_lt, i_le, i_eq, i_clamp, i_upd, i_m1, Int32.toInt_toInt64, Int32.toInt_add, Int32.toInt_sub, Int32.toInt_mul, bm32, Int32.reduceToInt, Int64.reduceToInt, Nat.reduceLT, Nat.reduceEqDiff, reduceIte, true_or, or_true, true_and, and_true, false_or, or_false, not_true_eq_false, not_false_eq_true, eq_self] at c_26
          refine ⟨vp_in_iff.mpr (by first | omega | (simp (disch := omega) only [↓i_in, ↓i_isCouple, ↓i_isBridge, ↓i_isTheme, ↓i_isBarge, i_lt, i_le, i_eq, i_clamp, i_upd, i_m1, Int32.toInt_toInt64, Int32.toInt_add, Int32.toInt_sub, Int32.toInt_mul, bm32, Int32.reduceToInt, Int64.reduceToInt, Nat.reduceLT, Nat.reduceEqDiff, reduceIte, true_or, or_true, true_and, and_true, false_or, or_false, not_true_eq_false, not_false_eq_true, eq_self] <;> omega)), ?_⟩
          refine ⟨(s_here (PI_u20 i_18 (by first | omega | (simp (disch := omega) only [↓i_in, ↓i_isCouple, ↓i_isBridge, ↓i_isTheme, ↓i_isBarge, i_lt, i_le, i_eq, i_clamp, i_upd, i_m1, Int32.toInt_toInt64, Int32.toInt_add, Int32.toInt_sub, Int32.toInt_mul, bm32, Int32.reduceToInt, Int64.reduceToInt, Nat.reduceLT, Nat.reduceEqDiff, reduceIte, true_or, or_true, true_and, and_true, false_or, or_false, not_true_eq_false, not_false_eq_true, eq_self] <;> omega)) (by first | omega | (simp (disch := omega) only [↓i_in, ↓i_isCouple, ↓i_isBridge, ↓i_isTheme, ↓i_isBarge, i_lt, i_le, i_eq, i_clamp, i_upd, i_m1, Int32.toInt_toInt64, Int32.toInt_add, Int32.toInt_sub, Int32.toInt_mul, bm32, Int32.reduceToInt, Int64.reduceToInt, Nat.reduceLT, Nat.reduceEqDiff, reduceIte, true_or, or_true, true_and, and_true, false_or, or_false, not_true_eq_false, not_false_eq_true, eq_self] <;> omega)))), ?_⟩
          intro r_11 u_10 e_27
          have p_28 := p_here (PI_u20 i_18 (by first | omega | (simp (disch := omega) only [↓i_in, ↓i_isCouple, ↓i_isBridge, ↓i_isTheme, ↓i_isBarge, i_lt, i_le, i_eq, i_clamp, i_upd, i_m1, Int32.toInt_toInt64, Int32.toInt_add, Int32.toInt_sub, Int32.toInt_mul, bm32, Int32.reduceToInt, Int64.reduceToInt, Nat.reduceLT, Nat.reduceEqDiff, reduceIte, true_or, or_true, true_and, and_true, false_or, or_false, not_true_eq_false, not_false_eq_true, eq_self] <;> omega)) (by first | omega | (simp (disch := omega) only [↓i_in, ↓i_isCouple, ↓i_isBridge, ↓i_isTheme, ↓i_isBarge, i_lt, i_le, i_eq, i_clamp, i_upd, i_m1, Int32.toInt_toInt64, Int32.toInt_add, Int32.toInt_sub, Int32.toInt_mul, bm32, Int32.reduceToInt, Int64.reduceToInt, Nat.reduceLT, Nat.reduceEqDiff, reduceIte, true_or, or_true, true_and, and_true, false_or, or_false, not_true_eq_false, not_false_eq_true, eq_self] <;> omega))) _ _ e_27.symm
          obtain ⟨i_29, i_30, i_31, i_32, i_33, i_34, i_35, i_36⟩ := p_28
          have i_29_g := i_29
          obtain ⟨⟨⟨i_29_2a, i_29_2b⟩, ⟨i_29_3a, i_29_3b⟩, ⟨i_29_4a, i_29_4b⟩, ⟨i_29_5a, i_29_5b⟩, ⟨i_29_6a, i_29_6b⟩, ⟨i_29_14a, i_29_14b⟩, ⟨i_29_42a, i_29_42b⟩⟩, ⟨i_29_15a, i_29_15b⟩, ⟨i_29_20a, i_29_20b⟩, ⟨i_29_21a, i_29_21b⟩, ⟨i_29_23a, i_29_23b⟩, ⟨i_29_24a, i_29_24b⟩⟩ := i_29_g
          try simp (disch := omega) only [↓i_in, ↓i_isCouple, ↓i_isBridge, ↓i_isTheme, ↓i_isBarge, i_lt, i_le, i_eq, i_clamp, i_upd, i_m1, Int32.toInt_toInt64, Int32.toInt_add, Int32.toInt_sub, Int32.toInt_mul, bm32, Int32.reduceToInt, Int64.reduceToInt, Nat.reduceLT, Nat.reduceEqDiff, reduceIte, true_or, or_true, true_and, and_true, false_or, or_false, not_true_eq_false, not_false_eq_true, eq_self] at i_30
          try simp (disch := omega) only [↓i_in, ↓i_isCouple, ↓i_isBridge, ↓i_isTheme, ↓i_isBarge, i_lt, i_le, i_eq, i_clamp, i_upd, i_m1, Int32.toInt_toInt64, Int32.toInt_add, Int32.toInt_sub, Int32.toInt_mul, bm32, Int32.reduceToInt, Int64.reduceToInt, Nat.reduceLT, Nat.reduceEqDiff, reduceIte, true_or, or_true, true_and, and_true, false_or, or_false, not_true_eq_false, not_false_eq_true, eq_self] at i_31
          try simp (disch := omega) only [↓i_in, ↓i_isCouple, ↓i_isBridge, ↓i_isTheme, ↓i_isBarge, i_lt, i_le, i_eq, i_clamp, i_upd, i_m1, Int32.toInt_toInt64, Int32.toInt_add, Int32.toInt_sub, Int32.toInt_mul, bm32, Int32.reduceToInt, Int64.reduceToInt, Nat.reduceLT, Nat.reduceEqDiff, reduceIte, true_or, or_true, true_and, and_true, false_or, or_false, not_true_eq_false, not_false_eq_true, eq_self] at i_32
          try simp (disch := omega) only [↓i_in, ↓i_isCouple, ↓i_isBridge, ↓i_isTheme, ↓i_isBarge, i_lt, i_le, i_eq, i_clamp, i_upd, i_m1, Int32.toInt_toInt64, Int32.toInt_add, Int32.toInt_sub, Int32.toInt_mul, bm32, Int32.reduceToInt, Int64.reduceToInt, Nat.reduceLT, Nat.reduceEqDiff, reduceIte, true_or, or_true, true_and, and_true, false_or, or_false, not_true_eq_false, not_false_eq_true, eq_self] at i_33
          try simp (disch := omega) only [↓i_in, ↓i_isCouple, ↓i_isBridge, ↓i_isTheme, ↓i_isBarge, i_lt, i_le, i_eq, i_clamp, i_upd, i_m1, Int32.toInt_toInt64, Int32.toInt_add, Int32.toInt_sub, Int32.toInt_mul, bm32, Int32.reduceToInt, Int64.reduceToInt, Nat.reduceLT, Nat.reduceEqDiff, reduceIte, true_or, or_true, true_and, and_true, false_or, or_false, not_true_eq_false, not_false_eq_true, eq_self] at i_34
          try simp (disch := omega) only [↓i_in, ↓i_isCouple, ↓i_isBridge, ↓i_isTheme, ↓i_isBarge, i_lt, i_le, i_eq, i_clamp, i_upd, i_m1, Int32.toInt_toInt64, Int32.toInt_add, Int32.toInt_sub, Int32.toInt_mul, bm32, Int32.reduceToInt, Int64.reduceToInt, Nat.reduceLT, Nat.reduceEqDiff, reduceIte, true_or, or_true, true_and, and_true, false_or, or_false, not_true_eq_false, not_false_eq_true, eq_self] at i_35
          refine ⟨fun c_37 => ?_, fun c_37 => ?_⟩
          · skip
            try simp (disch := omega) only [↓i_in, ↓i_isCouple, ↓i_isBridge, ↓i_isTheme, ↓i_isBarge, i_lt, i_le, i_eq, i_clamp, i_upd, i_m1, Int32.toInt_toInt64, Int32.toInt_add, Int32.toInt_sub, Int32.toInt_mul, bm32, Int32.reduceToInt, Int64.reduceToInt, Nat.reduceLT, Nat.reduceEqDiff, reduceIte, true_or, or_true, true_and, and_true, false_or, or_false, not_true_eq_false, not_false_eq_true, eq_self] at c_37
            exact ih 1 (upd u_10 15 ((u_10 15) + 1)) (upd w_1m1 ((u_5 20) : Int32).toNatClampNeg (u_5 17)) (⟨(PI_u15 i_29 (by first | omega | (simp (disch := omega) only [↓i_in, ↓i_isCouple, ↓i_isBridge, ↓i_isTheme, ↓i_isBarge, i_lt, i_le, i_eq, i_clamp, i_upd, i_m1, Int32.toInt_toInt64, Int32.toInt_add, Int32.toInt_sub, Int32.toInt_mul, bm32, Int32.reduceToInt, Int64.reduceToInt, Nat.reduceLT, Nat.reduceEqDiff, reduceIte, true_or, or_true, true_and, and_true, false_or, or_false, not_true_eq_false, not_false_eq_true, eq_self] <;> omega)) (by first | omega | (simp (disch := omega) only [↓i_in, ↓i_isCouple, ↓i_isBridge, ↓i_isTheme, ↓i_isBarge, i_lt, i_le, i_eq, i_clamp, i_upd, i_m1, Int32.toInt_toInt64, Int32.toInt_add, Int32.toInt_sub, Int32.toInt_mul, bm32, Int32.reduceToInt, Int64.reduceToInt, Nat.reduceLT, Nat.reduceEqDiff, reduceIte, true_or, or_true, true_and, and_true, false_or, or_false, not_true_eq_false, not_false_eq_true, eq_self] <;> omega))), (by first | omega | (simp (disch := omega) only [↓i_in, ↓i_isCouple, ↓i_isBridge, ↓i_isTheme, ↓i_isBarge, i_lt, i_le, i_eq, i_clamp, i_upd, i_m1, Int32.toInt_toInt64, Int32.toInt_add, Int32.toInt_sub, Int32.toInt_mul, bm32, Int32.reduceToInt, Int64.reduceToInt, Nat.reduceLT, Nat.reduceEqDiff, reduceIte, true_or, or_true, true_and, and_true, false_or, or_false, not_true_eq_false, not_false_eq_true, eq_self] <;> omega)), (by first | omega | (simp (disch := omega) only [↓i_in, ↓i_isCouple, ↓i_isBridge, ↓i_isTheme, ↓i_isBarge, i_lt, i_le, i_eq, i_clamp, i_upd, i_m1, Int32.toInt_toInt64, Int32.toInt_add, Int32.toInt_sub, Int32.toInt_mul, bm32, Int32.reduceToInt, Int64.reduceToInt, Nat.reduceLT, Nat.reduceEqDiff, reduceIte, true_or, or_true, true_and, and_true, false_or, or_false, not_true_eq_false, not_false_eq_true, eq_self] <;> omega))⟩) (by first | omega | (simp (disch := omega) only [↓i_in, ↓i_isCouple, ↓i_isBridge, ↓i_isTheme, ↓i_isBarge, i_lt, i_le, i_eq, i_clamp, i_upd, i_m1, Int32.toInt_toInt64, Int32.toInt_add, Int32.toInt_sub, Int32.toInt_mul, bm32, Int32.reduceToInt, Int64.reduceToInt, Nat.reduceLT, Nat.reduceEqDiff, reduceIte, true_or, or_true, true_and, and_true, false_or, or_false, not_true_eq_false, not_false_eq_true, eq_self] <;> omega))
          · skip
            try simp (disch := omega) only [↓i_in, ↓i_isCouple, ↓i_isBridge, ↓i_isTheme, ↓i_isBarge, i_lt, i_le, i_eq, i_clamp, i_upd, i_m1, Int32.toInt_toInt64, Int32.toInt_add, Int32.toInt_sub, Int32.toInt_mul, bm32, Int32.reduceToInt, Int64.reduceToInt, Nat.reduceLT, Nat.reduceEqDiff, reduceIte, true_or, or_true, true_and, and_true, false_or, or_false, not_true_eq_false, not_false_eq_true, eq_self] at c_37
            exact ih 0 (upd u_10 15 ((u_10 15) + 0)) (upd w_1m1 ((u_5 20) : Int32).toNatClampNeg (u_5 17)) (⟨(PI_u15 i_29 (by first | omega | (simp (disch := omega) only [↓i_in, ↓i_isCouple, ↓i_isBridge, ↓i_isTheme, ↓i_isBarge, i_lt, i_le, i_eq, i_clamp, i_upd, i_m1, Int32.toInt_toInt64, Int32.toInt_add, Int32.toInt_sub, Int32.toInt_mul, bm32, Int32.reduceToInt, Int64.reduceToInt, Nat.reduceLT, Nat.reduceEqDiff, reduceIte, true_or, or_true, true_and, and_true, false_or, or_false, not_true_eq_false, not_false_eq_true, eq_self] <;> omega)) (by first | omega | (simp (disch := omega) only [↓i_in, ↓i_isCouple, ↓i_isBridge, ↓i_isTheme, ↓i_isBarge, i_lt, i_le, i_eq, i_clamp, i_upd, i_m1, Int32.toInt_toInt64, Int32.toInt_add, Int32.toInt_sub, Int32.toInt_mul, bm32, Int32.reduceToInt, Int64.reduceToInt, Nat.reduceLT, Nat.reduceEqDiff, reduceIte, true_or, or_true, true_and, and_true, false_or, or_false, not_true_eq_false, not_false_eq_true, eq_self] <;> omega))), (by first | omega | (simp (disch := omega) only [↓i_in, ↓i_isCouple, ↓i_isBridge, ↓i_isTheme, ↓i_isBarge, i_lt, i_le, i_eq, i_clamp, i_upd, i_m1, Int32.toInt_toInt64, Int32.toInt_add, Int32.toInt_sub, Int32.toInt_mul, bm32, Int32.reduceToInt, Int64.reduceToInt, Nat.reduceLT, Nat.reduceEqDiff, reduceIte, true_or, or_true, true_and, and_true, false_or, or_false, not_true_eq_false, not_false_eq_true, eq_self] <;> omega)), (by first | omega | (simp (disch := omega) only [↓i_in, ↓i_isCouple, ↓i_isBridge, ↓i_isTheme, ↓i_isBarge, i_lt, i_le, i_eq, i_clamp, i_upd, i_m1, Int32.toInt_toInt64, Int32.toInt_add, Int32.toInt_sub, Int32.toInt_mul, bm32, Int32.reduceToInt, Int64.reduceToInt, Nat.reduceLT, Nat.reduceEqDiff, reduceIte, true_or, or_true, true_and, and_true, false_or, or_false, not_true_eq_false, not_false_eq_true, eq_self] <;> omega))⟩) (by first | omega | (simp (disch := omega) only [↓i_in, ↓i_isCouple, ↓i_isBridge, ↓i_isTheme, ↓i_isBarge, i_lt, i_le, i_eq, i_clamp, i_upd, i_m1, Int32.toInt_toInt64, Int32.toInt_add, Int32.toInt_sub, Int32.toInt_mul, bm32, Int32.reduceToInt, Int64.reduceToInt, Nat.reduceLT, Nat.reduceEqDiff, reduceIte, true_or, or_true, true_and, and_true, false_or, or_false, not_true_eq_false, not_false_eq_true, eq_self] <;> omega))
set_option maxHeartbeats 4000000 in
theorem pl_takesBridges_2 {G : Nat → Int32} {f13 : Nat → Int32} : ∀ (n : Nat) w_1l1 w_1m0 w_1m1, (PI w_1m0 ∧ ((G 15).toInt ≤ (w_1m0 15).toInt) ∧ ((w_1m0 14).toInt = (G 14).toInt)) → ∀ r0 r1 r2, f_m_takesBridges_2 f13 n w_1l1 w_1m0 w_1m1 = Sum.inl (r0, r1, r2) → PI r1 ∧ ((G 15).toInt ≤ (r1 15).toInt) ∧ ((r1 14).toInt = (G 14).toInt) := by
  intro n
  induction n with
  | zero =>
    intro w_1l1 w_1m0 w_1m1 hI r0 r1 r2 e
    replace e : Sum.inl (w_1l1, w_1m0, w_1m1) = Sum.inl (r0, r1, r2) := e
    cases e
    exact hI
  | succ n ih =>
    intro w_1l1 w_1m0 w_1m1 hI r0 r1 r2 e
    rw [f_m_takesBridges_2_s] at e
    have hI0 := hI
    obtain ⟨i_1, i_2, i_3⟩ := hI0
    have i_1_g := i_1
    obtain ⟨⟨⟨i_1_2a, i_1_2b⟩, ⟨i_1_3a, i_1_3b⟩, ⟨i_1_4a, i_1_4b⟩, ⟨i_1_5a, i_1_5b⟩, ⟨i_1_6a, i_1_6b⟩, ⟨i_1_14a, i_1_14b⟩, ⟨i_1_42a, i_1_42b⟩⟩, ⟨i_1_15a, i_1_15b⟩, ⟨i_1_20a, i_1_20b⟩, ⟨i_1_21a, i_1_21b⟩, ⟨i_1_23a, i_1_23b⟩, ⟨i_1_24a, i_1_24b⟩⟩ := i_1_g
    by_cases c_4 : w_1l1 = 0
    · rw [if_pos c_4] at e
      try simp (disch := omega) only [↓i_in, ↓i_isCouple, ↓i_isBridge, ↓i_isTheme, ↓i_isBarge, i_lt, i_le, i_eq, i_clamp, i_upd, i_m1, Int32.toInt_toInt64, Int32.toInt_add, Int32.toInt_sub, Int32.toInt_mul, bm32, Int32.reduceToInt, Int64.reduceToInt, Nat.reduceLT, Nat.reduceEqDiff, reduceIte, true_or, or_true, true_and, and_true, false_or, or_false, not_true_eq_false, not_false_eq_true, eq_self] at c_4
      cases e
      exact hI
    · rw [if_neg c_4] at e
      try simp (disch := omega) only [↓i_in, ↓i_isCouple, ↓i_isBridge, ↓i_isTheme, ↓i_isBarge, i_lt, i_le, i_eq, i_clamp, i_upd, i_m1, Int32.toInt_toInt64, Int32.toInt_add, Int32.toInt_sub, Int32.toInt_mul, bm32, Int32.reduceToInt, Int64.reduceToInt, Nat.reduceLT, Nat.reduceEqDiff, reduceIte, true_or, or_true, true_and, and_true, false_or, or_false, not_true_eq_false, not_false_eq_true, eq_self] at c_4
      by_cases c_5 : (w_1m0 20) = 6
      · rw [if_pos c_5] at e
        try simp (disch := omega) only [↓i_in, ↓i_isCouple, ↓i_isBridge, ↓i_isTheme, ↓i_isBarge, i_lt, i_le, i_eq, i_clamp, i_upd, i_m1, Int32.toInt_toInt64, Int32.toInt_add, Int32.toInt_sub, Int32.toInt_mul, bm32, Int32.reduceToInt, Int64.reduceToInt, Nat.reduceLT, Nat.reduceEqDiff, reduceIte, true_or, or_true, true_and, and_true, false_or, or_false, not_true_eq_false, not_false_eq_true, eq_self] at c_5
        generalize x_6 : (f_m_fails w_1m0 1 (w_1m0 16)) = z_7 at e
        obtain ⟨r_17, u_16⟩ := z_7
        replace e : ((Sum.inr (r_17, u_16, w_1m1)) : (Int32 × (Nat → Int32) × (Nat → Int32)) ⊕ (Int32 × (Nat → Int32) × (Nat → Int32))) = Sum.inl (r0, r1, r2) := e
        have p_8 := p_fails i_1 _ _ x_6
        obtain ⟨i_9, i_10, i_11, i_12, i_13, i_14, i_15, i_16⟩ := p_8
        have i_9_g := i_9
        obtain ⟨⟨⟨i_9_2a, i_9_2b⟩, ⟨i_9_3a, i_9_3b⟩, ⟨i_9_4a, i_9_4b⟩, ⟨i_9_5a, i_9_5b⟩, ⟨i_9_6a, i_9_6b⟩, ⟨i_9_14a, i_9_14b⟩, ⟨i_9_42a, i_9_42b⟩⟩, ⟨i_9_15a, i_9_15b⟩, ⟨i_9_20a, i_9_20b⟩, ⟨i_9_21a, i_9_21b⟩, ⟨i_9_23a, i_9_23b⟩, ⟨i_9_24a, i_9_24b⟩⟩ := i_9_g
        cases e
      · rw [if_neg c_5] at e
        try simp (disch := omega) only [↓i_in, ↓i_isCouple, ↓i_isBridge, ↓i_isTheme, ↓i_isBarge, i_lt, i_le, i_eq, i_clamp, i_upd, i_m1, Int32.toInt_toInt64, Int32.toInt_add, Int32.toInt_sub, Int32.toInt_mul, bm32, Int32.reduceToInt, Int64.reduceToInt, Nat.reduceLT, Nat.reduceEqDiff, reduceIte, true_or, or_true, true_and, and_true, false_or, or_false, not_true_eq_false, not_false_eq_true, eq_self] at c_5
        generalize x_17 : (f_m_takesNumber w_1m0 f13 1 60) = z_18 at e
        obtain ⟨r_6, u_5⟩ := z_18
        replace e : ((if r_6 = 0 then (Sum.inr (0, u_5, w_1m1)) else (match (f_m_here (upd u_5 20 ((u_5 20) + 1)) f13) with | (r_11, u_10) => (if r_11 = 44 then (f_m_takesBridges_2 f13 n 1 (upd u_10 15 ((u_10 15) + 1)) (upd w_1m1 ((u_5 20) : Int32).toNatClampNeg (u_5 17))) else (f_m_takesBridges_2 f13 n 0 (upd u_10 15 ((u_10 15) + 0)) (upd w_1m1 ((u_5 20) : Int32).toNatClampNeg (u_5 17)))))) : (Int32 × (Nat → Int32) × (Nat → Int32)) ⊕ (Int32 × (Nat → Int32) × (Nat → Int32))) = Sum.inl (r0, r1, r2) := e
        have p_19 := p_takesNumber i_1 _ _ x_17
        obtain ⟨i_20, i_21, i_22, i_23, i_24, i_25, i_26, i_27⟩ := p_19
        have i_20_g := i_20
        obtain ⟨⟨⟨i_20_2a, i_20_2b⟩, ⟨i_20_3a, i_20_3b⟩, ⟨i_20_4a, i_20_4b⟩, ⟨i_20_5a, i_20_5b⟩, ⟨i_20_6a, i_20_6b⟩, ⟨i_20_14a, i_20_14b⟩, ⟨i_20_42a, i_20_42b⟩⟩, ⟨i_20_15a, i_20_15b⟩, ⟨i_20_20a, i_20_20b⟩, ⟨i_20_21a, i_20_21b⟩, ⟨i_20_23a, i_20_23b⟩, ⟨i_20_24a, i_20_24b⟩⟩ := i_20_g
        try simp (disch := omega) only [↓i_in, ↓i_isCouple, ↓i_isBridge, ↓i_isTheme, ↓i_isBarge, i_lt, i_le, i_eq, i_clamp, i_upd, i_m1, Int32.toInt_toInt64, Int32.toInt_add, Int32.toInt_sub, Int32.toInt_mul, bm32, Int32.reduceToInt, Int64.reduceToInt, Nat.reduceLT, Nat.reduceEqDiff, reduceIte, true_or, or_true, true_and, and_true, false_or, or_false, not_true_eq_false, not_false_eq_true, eq_self] at i_27
        by_cases c_28 : r_6 = 0
        · rw [if_pos c_28] at e
          try simp (disch := omega) only [↓i_in, ↓i_isCouple, ↓i_isBridge, ↓i_isTheme, ↓i_isBarge, i_lt, i_le, i_eq, i_clamp, i_upd, i_m1, Int32.toInt_toInt64, Int32.toInt_add, Int32.toInt_sub, Int32.toInt_mul, bm32, Int32.reduceToInt, Int64.reduceToInt, Nat.reduceLT, Nat.reduceEqDiff, reduceIte, true_or, or_true, true_and, and_true, false_or, or_false, not_true_eq_false, not_false_eq_true, eq_self] at c_28
          cases e
        · rw [if_neg c_28] at e
          try simp (disch := omega) only [↓i_in, ↓i_isCouple, ↓i_isBridge, ↓i_isTheme, ↓i_isBarge, i_lt, i_le, i_eq, i_clamp, i_upd, i_m1, Int32.toInt_toInt64, Int32.toInt_add, Int32.toInt_sub, Int32.toInt_mul, bm32, Int32.reduceToInt, Int64.reduceToInt, Nat.reduceLT, Nat.reduceEqDiff, reduceIte, true_or, or_true, true_and, and_true, false_or, or_false, not_true_eq_false, not_false_eq_true, eq_self] at c_28
          generalize x_29 : (f_m_here (upd u_5 20 ((u_5 20) + 1)) f13) = z_30 at e
          obtain ⟨r_11, u_10⟩ := z_30
          replace e : ((if r_11 = 44 then (f_m_takesBridges_2 f13 n 1 (upd u_10 15 ((u_10 15) + 1)) (upd w_1m1 ((u_5 20) : Int32).toNatClampNeg (u_5 17))) else (f_m_takesBridges_2 f13 n 0 (upd u_10 15 ((u_10 15) + 0)) (upd w_1m1 ((u_5 20) : Int32).toNatClampNeg (u_5 17)))) : (Int32 × (Nat → Int32) × (Nat → Int32)) ⊕ (Int32 × (Nat → Int32) × (Nat → Int32))) = Sum.inl (r0, r1, r2) := e
          have p_31 := p_here (PI_u20 i_20 (by first | omega | (simp (disch := omega) only [↓i_in, ↓i_isCouple, ↓i_isBridge, ↓i_isTheme, ↓i_isBarge, i_lt, i_le, i_eq, i_clamp, i_upd, i_m1, Int32.toInt_toInt64, Int32.toInt_add, Int32.toInt_sub, Int32.toInt_mul, bm32, Int32.reduceToInt, Int64.reduceToInt, Nat.reduceLT, Nat.reduceEqDiff, reduceIte, true_or, or_true, true_and, and_true, false_or, or_false, not_true_eq_false, not_false_eq_true, eq_self] <;> omega)) (by first | omega | (simp (disch := omega) only [↓i_in, ↓i_isCouple, ↓i_isBridge, ↓i_isTheme, ↓i_isBarge, i_lt, i_le, i_eq, i_clamp, i_upd, i_m1, Int32.toInt_toInt64, Int32.toInt_add, Int32.toInt_sub, Int32.toInt_mul, bm32, Int32.reduceToInt, Int64.reduceToInt, Nat.reduceLT, Nat.reduceEqDiff, reduceIte, true_or, or_true, true_and, and_true, false_or, or_false, not_true_eq_false, not_false_eq_true, eq_self] <;> omega))) _ _ x_29
          obtain ⟨i_32, i_33, i_34, i_35, i_36, i_37, i_38, i_39⟩ := p_31
          have i_32_g := i_32
          obtain ⟨⟨⟨i_32_2a, i_32_2b⟩, ⟨i_32_3a, i_32_3b⟩, ⟨i_32_4a, i_32_4b⟩, ⟨i_32_5a, i_32_5b⟩, ⟨i_32_6a, i_32_6b⟩, ⟨i_32_14a, i_32_14b⟩, ⟨i_32_42a, i_32_42b⟩⟩, ⟨i_32_15a, i_32_15b⟩, ⟨i_32_20a, i_32_20b⟩, ⟨i_32_21a, i_32_21b⟩, ⟨i_32_23a, i_32_23b⟩, ⟨i_32_24a, i_32_24b⟩⟩ := i_32_g
          try simp (disch := omega) only [↓i_in, ↓i_isCouple, ↓i_isBridge, ↓i_isTheme, ↓i_isBarge, i_lt, i_le, i_eq, i_clamp, i_upd, i_m1, Int32.toInt_toInt64, Int32.toInt_add, Int32.toInt_sub, Int32.toInt_mul, bm32, Int32.reduceToInt, Int64.reduceToInt, Nat.reduceLT, Nat.reduceEqDiff, reduceIte, true_or, or_true, true_and, and_true, false_or, or_false, not_true_eq_false, not_false_eq_true, eq_self] at i_33
          try simp (disch := omega) only [↓i_in, ↓i_isCouple, ↓i_isBridge, ↓i_isTheme, ↓i_isBarge, i_lt, i_le, i_eq, i_clamp, i_upd, i_m1, Int32.toInt_toInt64, Int32.toInt_add, Int32.toInt_sub, Int32.toInt_mul, bm32, Int32.reduceToInt, Int64.reduceToInt, Nat.reduceLT, Nat.reduceEqDiff, reduceIte, true_or, or_true, true_and, and_true, false_or, or_false, not_true_eq_false, not_false_eq_true, eq_self] at i_34
          try simp (disch := omega) only [↓i_in, ↓i_isCouple, ↓i_isBridge, ↓i_isTheme, ↓i_isBarge, i_lt, i_le, i_eq, i_clamp, i_upd, i_m1, Int32.toInt_toInt64, Int32.toInt_add, Int32.toInt_sub, Int32.toInt_mul, bm32, Int32.reduceToInt, Int64.reduceToInt, Nat.reduceLT, Nat.reduceEqDiff, reduceIte, true_or, or_true, true_and, and_true, false_or, or_false, not_true_eq_false, not_false_eq_true, eq_self] at i_35
          try simp (disch := omega) only [↓i_in, ↓i_isCouple, ↓i_isBridge, ↓i_isTheme, ↓i_isBarge, i_lt, i_le, i_eq, i_clamp, i_upd, i_m1, Int32.toInt_toInt64, Int32.toInt_add, Int32.toInt_sub, Int32.toInt_mul, bm32, Int32.reduceToInt, Int64.reduceToInt, Nat.reduceLT, Nat.reduceEqDiff, reduceIte, true_or, or_true, true_and, and_true, false_or, or_false, not_true_eq_false, not_false_eq_true, eq_self] at i_36
          try simp (disch := omega) only [↓i_in, ↓i_isCouple, ↓i_isBridge, ↓i_isTheme, ↓i_isBarge, i_lt, i_le, i_eq, i_clamp, i_upd, i_m1, Int32.toInt_toInt64, Int32.toInt_add, Int32.toInt_sub, Int32.toInt_mul, bm32, Int32.reduceToInt, Int64.reduceToInt, Nat.reduceLT, Nat.reduceEqDiff, reduceIte, true_or, or_true, true_and, and_true, false_or, or_false, not_true_eq_false, not_false_eq_true, eq_self] at i_37
          try simp (disch := omega) only [↓i_in, ↓i_isCouple, ↓i_isBridge, ↓i_isTheme, ↓i_isBarge, i_lt, i_le, i_eq, i_clamp, i_upd, i_m1, Int32.toInt_toInt64, Int32.toInt_add, Int32.toInt_sub, Int32.toInt_mul, bm32, Int32.reduceToInt, Int64.reduceToInt, Nat.reduceLT, Nat.reduceEqDiff, reduceIte, true_or, or_true, true_and, and_true, false_or, or_false, not_true_eq_false, not_false_eq_true, eq_self] at i_38
          by_cases c_40 : r_11 = 44
          · rw [if_pos c_40] at e
            try simp (disch := omega) only [↓i_in, ↓i_isCouple, ↓i_isBridge, ↓i_isTheme, ↓i_isBarge, i_lt, i_le, i_eq, i_clamp, i_upd, i_m1, Int32.toInt_toInt64, Int32.toInt_add, Int32.toInt_sub, Int32.toInt_mul, bm32, Int32.reduceToInt, Int64.reduceToInt, Nat.reduceLT, Nat.reduceEqDiff, reduceIte, true_or, or_true, true_and, and_true, false_or, or_false, not_true_eq_false, not_false_eq_true, eq_self] at c_40
            exact ih 1 (upd u_10 15 ((u_10 15) + 1)) (upd w_1m1 ((u_5 20) : Int32).toNatClampNeg (u_5 17)) (⟨(PI_u15 i_32 (by first | omega | (simp (disch := omega) only [↓i_in, ↓i_isCouple, ↓i_isBridge, ↓i_isTheme, ↓i_isBarge, i_lt, i_le, i_eq, i_clamp, i_upd, i_m1, Int32.toInt_toInt64, Int32.toInt_add, Int32.toInt_sub, Int32.toInt_mul, bm32, Int32.reduceToInt, Int64.reduceToInt, Nat.reduceLT, Nat.reduceEqDiff, reduceIte, true_or, or_true, true_and, and_true, false_or, or_false, not_true_eq_false, not_false_eq_true, eq_self] <;> omega)) (by first | omega | (simp (disch := omega) only [↓i_in, ↓i_isCouple, ↓i_isBridge, ↓i_isTheme, ↓i_isBarge, i_lt, i_le, i_eq, i_clamp, i_upd, i_m1, Int32.toInt_toInt64, Int32.toInt_add, Int32.toInt_sub, Int32.toInt_mul, bm32, Int32.reduceToInt, Int64.reduceToInt, Nat.reduceLT, Nat.reduceEqDiff, reduceIte, true_or, or_true, true_and, and_true, false_or, or_false, not_true_eq_false, not_false_eq_true, eq_self] <;> omega))), (by first | omega | (simp (disch := omega) only [↓i_in, ↓i_isCouple, ↓i_isBridge, ↓i_isTheme, ↓i_isBarge, i_lt, i_le, i_eq, i_clamp, i_upd, i_m1, Int32.toInt_toInt64, Int32.toInt_add, Int32.toInt_sub, Int32.toInt_mul, bm32, Int32.reduceToInt, Int64.reduceToInt, Nat.reduceLT, Nat.reduceEqDiff, reduceIte, true_or, or_true, true_and, and_true, false_or, or_false, not_true_eq_false, not_false_eq_true, eq_self] <;> omega)), (by first | omega | (simp (disch := omega) only [↓i_in, ↓i_isCouple, ↓i_isBridge, ↓i_isTheme, ↓i_isBarge, i_lt, i_le, i_eq, i_clamp, i_upd, i_m1, Int32.toInt_toInt64, Int32.toInt_add, Int32.toInt_sub, Int32.toInt_mul, bm32, Int32.reduceToInt, Int64.reduceToInt, Nat.reduceLT, Nat.reduceEqDiff, reduceIte, true_or, or_true, true_and, and_true, false_or, or_false, not_true_eq_false, not_false_eq_true, eq_self] <;> omega))⟩) _ _ _ e
          · rw [if_neg c_40] at e
            try simp (disch := omega) only [↓i_in, ↓i_isCouple, ↓i_isBridge, ↓i_isTheme, ↓i_isBarge, i_lt, i_le, i_eq, i_clamp, i_upd, i_m1, Int32.toInt_toInt64, Int32.toInt_add, Int32.toInt_sub, Int32.toInt_mul, bm32, Int32.reduceToInt, Int64.reduceToInt, Nat.reduceLT, Nat.reduceEqDiff, reduceIte, true_or, or_true, true_and, and_true, false_or, or_false, not_true_eq_false, not_false_eq_true, eq_self] at c_40
            exact ih 0 (upd u_10 15 ((u_10 15) + 0)) (upd w_1m1 ((u_5 20) : Int32).toNatClampNeg (u_5 17)) (⟨(PI_u15 i_32 (by first | omega | (simp (disch := omega) only [↓i_in, ↓i_isCouple, ↓i_isBridge, ↓i_isTheme, ↓i_isBarge, i_lt, i_le, i_eq, i_clamp, i_upd, i_m1, Int32.toInt_toInt64, Int32.toInt_add, Int32.toInt_sub, Int32.toInt_mul, bm32, Int32.reduceToInt, Int64.reduceToInt, Nat.reduceLT, Nat.reduceEqDiff, reduceIte, true_or, or_true, true_and, and_true, false_or, or_false, not_true_eq_false, not_false_eq_true, eq_self] <;> omega)) (by first | omega | (simp (disch := omega) only [↓i_in, ↓i_isCouple, ↓i_isBridge, ↓i_isTheme, ↓i_isBarge, i_lt, i_le, i_eq, i_clamp, i_upd, i_m1, Int32.toInt_toInt64, Int32.toInt_add, Int32.toInt_sub, Int32.toInt_mul, bm32, Int32.reduceToInt, Int64.reduceToInt, Nat.reduceLT, Nat.reduceEqDiff, reduceIte, true_or, or_true, true_and, and_true, false_or, or_false, not_true_eq_false, not_false_eq_true, eq_self] <;> omega))), (by first | omega | (simp (disch := omega) only [↓i_in, ↓i_isCouple, ↓i_isBridge, ↓i_isTheme, ↓i_isBarge, i_lt, i_le, i_eq, i_clamp, i_upd, i_m1, Int32.toInt_toInt64, Int32.toInt_add, Int32.toInt_sub, Int32.toInt_mul, bm32, Int32.reduceToInt, Int64.reduceToInt, Nat.reduceLT, Nat.reduceEqDiff, reduceIte, true_or, or_true, true_and, and_true, false_or, or_false, not_true_eq_false, not_false_eq_true, eq_self] <;> omega)), (by first | omega | (simp (disch := omega) only [↓i_in, ↓i_isCouple, ↓i_isBridge, ↓i_isTheme, ↓i_isBarge, i_lt, i_le, i_eq, i_clamp, i_upd, i_m1, Int32.toInt_toInt64, Int32.toInt_add, Int32.toInt_sub, Int32.toInt_mul, bm32, Int32.reduceToInt, Int64.reduceToInt, Nat.reduceLT, Nat.reduceEqDiff, reduceIte, true_or, or_true, true_and, and_true, false_or, or_false, not_true_eq_false, not_false_eq_true, eq_self] <;> omega))⟩) _ _ _ e
set_option maxHeartbeats 4000000 in
theorem pr_takesBridges_2 {G : Nat → Int32} {f13 : Nat → Int32} : ∀ (n : Nat) w_1l1 w_1m0 w_1m1, (PI w_1m0 ∧ ((G 15).toInt ≤ (w_1m0 15).toInt) ∧ ((w_1m0 14).toInt = (G 14).toInt)) → ∀ r0 r1 r2, f_m_takesBridges_2 f13 n w_1l1 w_1m0 w_1m1 = Sum.inr (r0, r1, r2) → PI r1 ∧ ((G 15).toInt ≤ (r1 15).toInt) ∧ ((r1 14).toInt = (G 14).toInt) := by
  intro n
  induction n with
  | zero =>
    intro w_1l1 w_1m0 w_1m1 hI r0 r1 r2 e
    replace e : Sum.inl (w_1l1, w_1m0, w_1m1) = Sum.inr (r0, r1, r2) := e
    cases e
  | succ n ih =>
    intro w_1l1 w_1m0 w_1m1 hI r0 r1 r2 e
    rw [f_m_takesBridges_2_s] at e
    have hI0 := hI
    obtain ⟨i_1, i_2, i_3⟩ := hI0
    have i_1_g := i_1
    obtain ⟨⟨⟨i_1_2a, i_1_2b⟩, ⟨i_1_3a, i_1_3b⟩, ⟨i_1_4a, i_1_4b⟩, ⟨i_1_5a, i_1_5b⟩, ⟨i_1_6a, i_1_6b⟩, ⟨i_1_14a, i_1_14b⟩, ⟨i_1_42a, i_1_42b⟩⟩, ⟨i_1_15a, i_1_15b⟩, ⟨i_1_20a, i_1_20b⟩, ⟨i_1_21a, i_1_21b⟩, ⟨i_1_23a, i_1_23b⟩, ⟨i_1_24a, i_1_24b⟩⟩ := i_1_g
    by_cases c_4 : w_1l1 = 0
    · rw [if_pos c_4] at e
      try simp (disch := omega) only [↓i_in, ↓i_isCouple, ↓i_isBridge, ↓i_isTheme, ↓i_isBarge, i_lt, i_le, i_eq, i_clamp, i_upd, i_m1, Int32.toInt_toInt64, Int32.toInt_add, Int32.toInt_sub, Int32.toInt_mul, bm32, Int32.reduceToInt, Int64.reduceToInt, Nat.reduceLT, Nat.reduceEqDiff, reduceIte, true_or, or_true, true_and, and_true, false_or, or_false, not_true_eq_false, not_false_eq_true, eq_self] at c_4
      cases e
    · rw [if_neg c_4] at e
      try simp (disch := omega) only [↓i_in, ↓i_isCouple, ↓i_isBridge, ↓i_isTheme, ↓i_isBarge, i_lt, i_le, i_eq, i_clamp, i_upd, i_m1, Int32.toInt_toInt64, Int32.toInt_add, Int32.toInt_sub, Int32.toInt_mul, bm32, Int32.reduceToInt, Int64.reduceToInt, Nat.reduceLT, Nat.reduceEqDiff, reduceIte, true_or, or_true, true_and, and_true, false_or, or_false, not_true_eq_false, not_false_eq_true, eq_self] at c_4
      by_cases c_5 : (w_1m0 20) = 6
      · rw [if_pos c_5] at e
        try simp (disch := omega) only [↓i_in, ↓i_isCouple, ↓i_isBridge, ↓i_isTheme, ↓i_isBarge, i_lt, i_le, i_eq, i_clamp, i_upd, i_m1, Int32.toInt_toInt64, Int32.toInt_add, Int32.toInt_sub, Int32.toInt_mul, bm32, Int32.reduceToInt, Int64.reduceToInt, Nat.reduceLT, Nat.reduceEqDiff, reduceIte, true_or, or_true, true_and, and_true, false_or, or_false, not_true_eq_false, not_false_eq_true, eq_self] at c_5
        generalize x_6 : (f_m_fails w_1m0 1 (w_1m0 16)) = z_7 at e
        obtain ⟨r_17, u_16⟩ := z_7
        replace e : ((Sum.inr (r_17, u_16, w_1m1)) : (Int32 × (Nat → Int32) × (Nat → Int32)) ⊕ (Int32 × (Nat → Int32) × (Nat → Int32))) = Sum.inr (r0, r1, r2) := e
        have p_8 := p_fails i_1 _ _ x_6
        obtain ⟨i_9, i_10, i_11, i_12, i_13, i_14, i_15, i_16⟩ := p_8
        have i_9_g := i_9
        obtain ⟨⟨⟨i_9_2a, i_9_2b⟩, ⟨i_9_3a, i_9_3b⟩, ⟨i_9_4a, i_9_4b⟩, ⟨i_9_5a, i_9_5b⟩, ⟨i_9_6a, i_9_6b⟩, ⟨i_9_14a, i_9_14b⟩, ⟨i_9_42a, i_9_42b⟩⟩, ⟨i_9_15a, i_9_15b⟩, ⟨i_9_20a, i_9_20b⟩, ⟨i_9_21a, i_9_21b⟩, ⟨i_9_23a, i_9_23b⟩, ⟨i_9_24a, i_9_24b⟩⟩ := i_9_g
        cases e
        exact ⟨i_9, (by first | omega | (simp (disch := omega) only [↓i_in, ↓i_isCouple, ↓i_isBridge, ↓i_isTheme, ↓i_isBarge, i_lt, i_le, i_eq, i_clamp, i_upd, i_m1, Int32.toInt_toInt64, Int32.toInt_add, Int32.toInt_sub, Int32.toInt_mul, bm32, Int32.reduceToInt, Int64.reduceToInt, Nat.reduceLT, Nat.reduceEqDiff, reduceIte, true_or, or_true, true_and, and_true, false_or, or_false, not_true_eq_false, not_false_eq_true, eq_self] <;> omega)), (by first | omega | (simp (disch := omega) only [↓i_in, ↓i_isCouple, ↓i_isBridge, ↓i_isTheme, ↓i_isBarge, i_lt, i_le, i_eq, i_clamp, i_upd, i_m1, Int32.toInt_toInt64, Int32.toInt_add, Int32.toInt_sub, Int32.toInt_mul, bm32, Int32.reduceToInt, Int64.reduceToInt, Nat.reduceLT, Nat.reduceEqDiff, reduceIte, true_or, or_true, true_and, and_true, false_or, or_false, not_true_eq_false, not_false_eq_true, eq_self] <;> omega))⟩
      · rw [if_neg c_5] at e
        try simp (disch := omega) only [↓i_in, ↓i_isCouple, ↓i_isBridge, ↓i_isTheme, ↓i_isBarge, i_lt, i_le, i_eq, i_clamp, i_upd, i_m1, Int32.toInt_toInt64, Int32.toInt_add, Int32.toInt_sub, Int32.toInt_mul, bm32, Int32.reduceToInt, Int64.reduceToInt, Nat.reduceLT, Nat.reduceEqDiff, reduceIte, true_or, or_true, true_and, and_true, false_or, or_false, not_true_eq_false, not_false_eq_true, eq_self] at c_5
        generalize x_17 : (f_m_takesNumber w_1m0 f13 1 60) = z_18 at e
        obtain ⟨r_6, u_5⟩ := z_18
        replace e : ((if r_6 = 0 then (Sum.inr (0, u_5, w_1m1)) else (match (f_m_here (upd u_5 20 ((u_5 20) + 1)) f13) with | (r_11, u_10) => (if r_11 = 44 then (f_m_takesBridges_2 f13 n 1 (upd u_10 15 ((u_10 15) + 1)) (upd w_1m1 ((u_5 20) : Int32).toNatClampNeg (u_5 17))) else (f_m_takesBridges_2 f13 n 0 (upd u_10 15 ((u_10 15) + 0)) (upd w_1m1 ((u_5 20) : Int32).toNatClampNeg (u_5 17)))))) : (Int32 × (Nat → Int32) × (Nat → Int32)) ⊕ (Int32 × (Nat → Int32) × (Nat → Int32))) = Sum.inr (r0, r1, r2) := e
        have p_19 := p_takesNumber i_1 _ _ x_17
        obtain ⟨i_20, i_21, i_22, i_23, i_24, i_25, i_26, i_27⟩ := p_19
        have i_20_g := i_20
        obtain ⟨⟨⟨i_20_2a, i_20_2b⟩, ⟨i_20_3a, i_20_3b⟩, ⟨i_20_4a, i_20_4b⟩, ⟨i_20_5a, i_20_5b⟩, ⟨i_20_6a, i_20_6b⟩, ⟨i_20_14a, i_20_14b⟩, ⟨i_20_42a, i_20_42b⟩⟩, ⟨i_20_15a, i_20_15b⟩, ⟨i_20_20a, i_20_20b⟩, ⟨i_20_21a, i_20_21b⟩, ⟨i_20_23a, i_20_23b⟩, ⟨i_20_24a, i_20_24b⟩⟩ := i_20_g
        try simp (disch := omega) only [↓i_in, ↓i_isCouple, ↓i_isBridge, ↓i_isTheme, ↓i_isBarge, i_lt, i_le, i_eq, i_clamp, i_upd, i_m1, Int32.toInt_toInt64, Int32.toInt_add, Int32.toInt_sub, Int32.toInt_mul, bm32, Int32.reduceToInt, Int64.reduceToInt, Nat.reduceLT, Nat.reduceEqDiff, reduceIte, true_or, or_true, true_and, and_true, false_or, or_false, not_true_eq_false, not_false_eq_true, eq_self] at i_27
        by_cases c_28 : r_6 = 0
        · rw [if_pos c_28] at e
          try simp (disch := omega) only [↓i_in, ↓i_isCouple, ↓i_isBridge, ↓i_isTheme, ↓i_isBarge, i_lt, i_le, i_eq, i_clamp, i_upd, i_m1, Int32.toInt_toInt64, Int32.toInt_add, Int32.toInt_sub, Int32.toInt_mul, bm32, Int32.reduceToInt, Int64.reduceToInt, Nat.reduceLT, Nat.reduceEqDiff, reduceIte, true_or, or_true, true_and, and_true, false_or, or_false, not_true_eq_false, not_false_eq_true, eq_self] at c_28
          cases e
          exact ⟨i_20, (by first | omega | (simp (disch := omega) only [↓i_in, ↓i_isCouple, ↓i_isBridge, ↓i_isTheme, ↓i_isBarge, i_lt, i_le, i_eq, i_clamp, i_upd, i_m1, Int32.toInt_toInt64, Int32.toInt_add, Int32.toInt_sub, Int32.toInt_mul, bm32, Int32.reduceToInt, Int64.reduceToInt, Nat.reduceLT, Nat.reduceEqDiff, reduceIte, true_or, or_true, true_and, and_true, false_or, or_false, not_true_eq_false, not_false_eq_true, eq_self] <;> omega)), (by first | omega | (simp (disch := omega) only [↓i_in, ↓i_isCouple, ↓i_isBridge, ↓i_isTheme, ↓i_isBarge, i_lt, i_le, i_eq, i_clamp, i_upd, i_m1, Int32.toInt_toInt64, Int32.toInt_add, Int32.toInt_sub, Int32.toInt_mul, bm32, Int32.reduceToInt, Int64.reduceToInt, Nat.reduceLT, Nat.reduceEqDiff, reduceIte, true_or, or_true, true_and, and_true, false_or, or_false, not_true_eq_false, not_false_eq_true, eq_self] <;> omega))⟩
        · rw [if_neg c_28] at e
          try simp (disch := omega) only [↓i_in, ↓i_isCouple, ↓i_isBridge, ↓i_isTheme, ↓i_isBarge, i_lt, i_le, i_eq, i_clamp, i_upd, i_m1, Int32.toInt_toInt64, Int32.toInt_add, Int32.toInt_sub, Int32.toInt_mul, bm32, Int32.reduceToInt, Int64.reduceToInt, Nat.reduceLT, Nat.reduceEqDiff, reduceIte, true_or, or_true, true_and, and_true, false_or, or_false, not_true_eq_false, not_false_eq_true, eq_self] at c_28
          generalize x_29 : (f_m_here (upd u_5 20 ((u_5 20) + 1)) f13) = z_30 at e
          obtain ⟨r_11, u_10⟩ := z_30
          replace e : ((if r_11 = 44 then (f_m_takesBridges_2 f13 n 1 (upd u_10 15 ((u_10 15) + 1)) (upd w_1m1 ((u_5 20) : Int32).toNatClampNeg (u_5 17))) else (f_m_takesBridges_2 f13 n 0 (upd u_10 15 ((u_10 15) + 0)) (upd w_1m1 ((u_5 20) : Int32).toNatClampNeg (u_5 17)))) : (Int32 × (Nat → Int32) × (Nat → Int32)) ⊕ (Int32 × (Nat → Int32) × (Nat → Int32))) = Sum.inr (r0, r1, r2) := e
          have p_31 := p_here (PI_u20 i_20 (by first | omega | (simp (disch := omega) only [↓i_in, ↓i_isCouple, ↓i_isBridge, ↓i_isTheme, ↓i_isBarge, i_lt, i_le, i_eq, i_clamp, i_upd, i_m1, Int32.toInt_toInt64, Int32.toInt_add, Int32.toInt_sub, Int32.toInt_mul, bm32, Int32.reduceToInt, Int64.reduceToInt, Nat.reduceLT, Nat.reduceEqDiff, reduceIte, true_or, or_true, true_and, and_true, false_or, or_false, not_true_eq_false, not_false_eq_true, eq_self] <;> omega)) (by first | omega | (simp (disch := omega) only [↓i_in, ↓i_isCouple, ↓i_isBridge, ↓i_isTheme, ↓i_isBarge, i_lt, i_le, i_eq, i_clamp, i_upd, i_m1, Int32.toInt_toInt64, Int32.toInt_add, Int32.toInt_sub, Int32.toInt_mul, bm32, Int32.reduceToInt, Int64.reduceToInt, Nat.reduceLT, Nat.reduceEqDiff, reduceIte, true_or, or_true, true_and, and_true, false_or, or_false, not_true_eq_false, not_false_eq_true, eq_self] <;> omega))) _ _ x_29
          obtain ⟨i_32, i_33, i_34, i_35, i_36, i_37, i_38, i_39⟩ := p_31
          have i_32_g := i_32
          obtain ⟨⟨⟨i_32_2a, i_32_2b⟩, ⟨i_32_3a, i_32_3b⟩, ⟨i_32_4a, i_32_4b⟩, ⟨i_32_5a, i_32_5b⟩, ⟨i_32_6a, i_32_6b⟩, ⟨i_32_14a, i_32_14b⟩, ⟨i_32_42a, i_32_42b⟩⟩, ⟨i_32_15a, i_32_15b⟩, ⟨i_32_20a, i_32_20b⟩, ⟨i_32_21a, i_32_21b⟩, ⟨i_32_23a, i_32_23b⟩, ⟨i_32_24a, i_32_24b⟩⟩ := i_32_g
          try simp (disch := omega) only [↓i_in, ↓i_isCouple, ↓i_isBridge, ↓i_isTheme, ↓i_isBarge, i_lt, i_le, i_eq, i_clamp, i_upd, i_m1, Int32.toInt_toInt64, Int32.toInt_add, Int32.toInt_sub, Int32.toInt_mul, bm32, Int32.reduceToInt, Int64.reduceToInt, Nat.reduceLT, Nat.reduceEqDiff, reduceIte, true_or, or_true, true_and, and_true, false_or, or_false, not_true_eq_false, not_false_eq_true, eq_self] at i_33
          try simp (disch := omega) only [↓i_in, ↓i_isCouple, ↓i_isBridge, ↓i_isTheme, ↓i_isBarge, i_lt, i_le, i_eq, i_clamp, i_upd, i_m1, Int32.toInt_toInt64, Int32.toInt_add, Int32.toInt_sub, Int32.toInt_mul, bm32, Int32.reduceToInt, Int64.reduceToInt, Nat.reduceLT, Nat.reduceEqDiff, reduceIte, true_or, or_true, true_and, and_true, false_or, or_false, not_true_eq_false, not_false_eq_true, eq_self] at i_34
          try simp (disch := omega) only [↓i_in, ↓i_isCouple, ↓i_isBridge, ↓i_isTheme, ↓i_isBarge, i_lt, i_le, i_eq, i_clamp, i_upd, i_m1, Int32.toInt_toInt64, Int32.toInt_add, Int32.toInt_sub, Int32.toInt_mul, bm32, Int32.reduceToInt, Int64.reduceToInt, Nat.reduceLT, Nat.reduceEqDiff, reduceIte, true_or, or_true, true_and, and_true, false_or, or_false, not_true_eq_false, not_false_eq_true, eq_self] at i_35
          try simp (disch := omega) only [↓i_in, ↓i_isCouple, ↓i_isBridge, ↓i_isTheme, ↓i_isBarge, i_lt, i_le, i_eq, i_clamp, i_upd, i_m1, Int32.toInt_toInt64, Int32.toInt_add, Int32.toInt_sub, Int32.toInt_mul, bm32, Int32.reduceToInt, Int64.reduceToInt, Nat.reduceLT, Nat.reduceEqDiff, reduceIte, true_or, or_true, true_and, and_true, false_or, or_false, not_true_eq_false, not_false_eq_true, eq_self] at i_36
          try simp (disch := omega) only [↓i_in, ↓i_isCouple, ↓i_isBridge, ↓i_isTheme, ↓i_isBarge, i_lt, i_le, i_eq, i_clamp, i_upd, i_m1, Int32.toInt_toInt64, Int32.toInt_add, Int32.toInt_sub, Int32.toInt_mul, bm32, Int32.reduceToInt, Int64.reduceToInt, Nat.reduceLT, Nat.reduceEqDiff, reduceIte, true_or, or_true, true_and, and_true, false_or, or_false, not_true_eq_false, not_false_eq_true, eq_self] at i_37
          try simp (disch := omega) only [↓i_in, ↓i_isCouple, ↓i_isBridge, ↓i_isTheme, ↓i_isBarge, i_lt, i_le, i_eq, i_clamp, i_upd, i_m1, Int32.toInt_toInt64, Int32.toInt_add, Int32.toInt_sub, Int32.toInt_mul, bm32, Int32.reduceToInt, Int64.reduceToInt, Nat.reduceLT, Nat.reduceEqDiff, reduceIte, true_or, or_true, true_and, and_true, false_or, or_false, not_true_eq_false, not_false_eq_true, eq_self] at i_38
          by_cases c_40 : r_11 = 44
          · rw [if_pos c_40] at e
            try simp (disch := omega) only [↓i_in, ↓i_isCouple, ↓i_isBridge, ↓i_isTheme, ↓i_isBarge, i_lt, i_le, i_eq, i_clamp, i_upd, i_m1, Int32.toInt_toInt64, Int32.toInt_add, Int32.toInt_sub, Int32.toInt_mul, bm32, Int32.reduceToInt, Int64.reduceToInt, Nat.reduceLT, Nat.reduceEqDiff, reduceIte, true_or, or_true, true_and, and_true, false_or, or_false, not_true_eq_false, not_false_eq_true, eq_self] at c_40
            exact ih 1 (upd u_10 15 ((u_10 15) + 1)) (upd w_1m1 ((u_5 20) : Int32).toNatClampNeg (u_5 17)) (⟨(PI_u15 i_32 (by first | omega | (simp (disch := omega) only [↓i_in, ↓i_isCouple, ↓i_isBridge, ↓i_isTheme, ↓i_isBarge, i_lt, i_le, i_eq, i_clamp, i_upd, i_m1, Int32.toInt_toInt64, Int32.toInt_add, Int32.toInt_sub, Int32.toInt_mul, bm32, Int32.reduceToInt, Int64.reduceToInt, Nat.reduceLT, Nat.reduceEqDiff, reduceIte, true_or, or_true, true_and, and_true, false_or, or_false, not_true_eq_false, not_false_eq_true, eq_self] <;> omega)) (by first | omega | (simp (disch := omega) only [↓i_in, ↓i_isCouple, ↓i_isBridge, ↓i_isTheme, ↓i_isBarge, i_lt, i_le, i_eq, i_clamp, i_upd, i_m1, Int32.toInt_toInt64, Int32.toInt_add, Int32.toInt_sub, Int32.toInt_mul, bm32, Int32.reduceToInt, Int64.reduceToInt, Nat.reduceLT, Nat.reduceEqDiff, reduceIte, true_or, or_true, true_and, and_true, false_or, or_false, not_true_eq_false, not_false_eq_true, eq_self] <;> omega))), (by first | omega | (simp (disch := omega) only [↓i_in, ↓i_isCouple, ↓i_isBridge, ↓i_isTheme, ↓i_isBarge, i_lt, i_le, i_eq, i_clamp, i_upd, i_m1, Int32.toInt_toInt64, Int32.toInt_add, Int32.toInt_sub, Int32.toInt_mul, bm32, Int32.reduceToInt, Int64.reduceToInt, Nat.reduceLT, Nat.reduceEqDiff, reduceIte, true_or, or_true, true_and, and_true, false_or, or_false, not_true_eq_false, not_false_eq_true, eq_self] <;> omega)), (by first | omega | (simp (disch := omega) only [↓i_in, ↓i_isCouple, ↓i_isBridge, ↓i_isTheme, ↓i_isBarge, i_lt, i_le, i_eq, i_clamp, i_upd, i_m1, Int32.toInt_toInt64, Int32.toInt_add, Int32.toInt_sub, Int32.toInt_mul, bm32, Int32.reduceToInt, Int64.reduceToInt, Nat.reduceLT, Nat.reduceEqDiff, reduceIte, true_or, or_true, true_and, and_true, false_or, or_false, not_true_eq_false, not_false_eq_true, eq_self] <;> omega))⟩) _ _ _ e
          · rw [if_neg c_40] at e
            try simp (disch := omega) only [↓i_in, ↓i_isCouple, ↓i_isBridge, ↓i_isTheme, ↓i_isBarge, i_lt, i_le, i_eq, i_clamp, i_upd, i_m1, Int32.toInt_toInt64, Int32.toInt_add, Int32.toInt_sub, Int32.toInt_mul, bm32, Int32.reduceToInt, Int64.reduceToInt, Nat.reduceLT, Nat.reduceEqDiff, reduceIte, true_or, or_true, true_and, and_true, false_or, or_false, not_true_eq_false, not_false_eq_true, eq_self] at c_40
            exact ih 0 (upd u_10 15 ((u_10 15) + 0)) (upd w_1m1 ((u_5 20) : Int32).toNatClampNeg (u_5 17)) (⟨(PI_u15 i_32 (by first | omega | (simp (disch := omega) only [↓i_in, ↓i_isCouple, ↓i_isBridge, ↓i_isTheme, ↓i_isBarge, i_lt, i_le, i_eq, i_clamp, i_upd, i_m1, Int32.toInt_toInt64, Int32.toInt_add, Int32.toInt_sub, Int32.toInt_mul, bm32, Int32.reduceToInt, Int64.reduceToInt, Nat.reduceLT, Nat.reduceEqDiff, reduceIte, true_or, or_true, true_and, and_true, false_or, or_false, not_true_eq_false, not_false_eq_true, eq_self] <;> omega)) (by first | omega | (simp (disch := omega) only [↓i_in, ↓i_isCouple, ↓i_isBridge, ↓i_isTheme, ↓i_isBarge, i_lt, i_le, i_eq, i_clamp, i_upd, i_m1, Int32.toInt_toInt64, Int32.toInt_add, Int32.toInt_sub, Int32.toInt_mul, bm32, Int32.reduceToInt, Int64.reduceToInt, Nat.reduceLT, Nat.reduceEqDiff, reduceIte, true_or, or_true, true_and, and_true, false_or, or_false, not_true_eq_false, not_false_eq_true, eq_self] <;> omega))), (by first | omega | (simp (disch := omega) only [↓i_in, ↓i_isCouple, ↓i_isBridge, ↓i_isTheme, ↓i_isBarge, i_lt, i_le, i_eq, i_clamp, i_upd, i_m1, Int32.toInt_toInt64, Int32.toInt_add, Int32.toInt_sub, Int32.toInt_mul, bm32, Int32.reduceToInt, Int64.reduceToInt, Nat.reduceLT, Nat.reduceEqDiff, reduceIte, true_or, or_true, true_and, and_true, false_or, or_false, not_true_eq_false, not_false_eq_true, eq_self] <;> omega)), (by first | omega | (simp (disch := omega) only [↓i_in, ↓i_isCouple, ↓i_isBridge, ↓i_isTheme, ↓i_isBarge, i_lt, i_le, i_eq, i_clamp, i_upd, i_m1, Int32.toInt_toInt64, Int32.toInt_add, Int32.toInt_sub, Int32.toInt_mul, bm32, Int32.reduceToInt, Int64.reduceToInt, Nat.reduceLT, Nat.reduceEqDiff, reduceIte, true_or, or_true, true_and, and_true, false_or, or_false, not_true_eq_false, not_false_eq_true, eq_self] <;> omega))⟩) _ _ _ e
set_option maxHeartbeats 4000000 in
theorem s_takesBridges {G : Nat → Int32} {f13 : Nat → Int32} {f27 : Nat → Int32} (h_0 : PI G) : S_m_takesBridges G f13 f27 := by
  unfold S_m_takesBridges
  have h_0_g := h_0
  obtain ⟨⟨⟨h_0_2a, h_0_2b⟩, ⟨h_0_3a, h_0_3b⟩, ⟨h_0_4a, h_0_4b⟩, ⟨h_0_5a, h_0_5b⟩, ⟨h_0_6a, h_0_6b⟩, ⟨h_0_14a, h_0_14b⟩, ⟨h_0_42a, h_0_42b⟩⟩, ⟨h_0_15a, h_0_15b⟩, ⟨h_0_20a, h_0_20b⟩, ⟨h_0_21a, h_0_21b⟩, ⟨h_0_23a, h_0_23b⟩, ⟨h_0_24a, h_0_24b⟩⟩ := h_0_g
  refine sl_takesBridges_2 (G := G) ?_ 10 1 G f27 (⟨h_0, (by first | omega | (simp (disch := omega) only [↓i_in, ↓i_isCouple, ↓i_isBridge, ↓i_isTheme, ↓i_isBarge, i_lt, i_le, i_eq, i_clamp, i_upd, i_m1, Int32.toInt_toInt64, Int32.toInt_add, Int32.toInt_sub, Int32.toInt_mul, bm32, Int32.reduceToInt, Int64.reduceToInt, Nat.reduceLT, Nat.reduceEqDiff, reduceIte, true_or, or_true, true_and, and_true, false_or, or_false, not_true_eq_false, not_false_eq_true, eq_self] <;> omega)), (by first | omega | (simp (disch := omega) only [↓i_in, ↓i_isCouple, ↓i_isBridge, ↓i_isTheme, ↓i_isBarge, i_lt, i_le, i_eq, i_clamp, i_upd, i_m1, Int32.toInt_toInt64, Int32.toInt_add, Int32.toInt_sub, Int32.toInt_mul, bm32, Int32.reduceToInt, Int64.reduceToInt, Nat.reduceLT, Nat.reduceEqDiff, reduceIte, true_or, or_true, true_and, and_true, false_or, or_false, not_true_eq_false, not_false_eq_true, eq_self] <;> omega))⟩) (by first | omega | (simp (disch := omega) only [↓i_in, ↓i_isCouple, ↓i_isBridge, ↓i_isTheme, ↓i_isBarge, i_lt, i_le, i_eq, i_clamp, i_upd, i_m1, Int32.toInt_toInt64, Int32.toInt_add, Int32.toInt_sub, Int32.toInt_mul, bm32, Int32.reduceToInt, Int64.reduceToInt, Nat.reduceLT, Nat.reduceEqDiff, reduceIte, true_or, or_true, true_and, and_true, false_or, or_false, not_true_eq_false, not_false_eq_true, eq_self] <;> omega))
  intro w_1l1 w_1m0 w_1m1 i_1
  obtain ⟨i_2, i_3, i_4⟩ := i_1
  have i_2_g := i_2
  obtain ⟨⟨⟨i_2_2a, i_2_2b⟩, ⟨i_2_3a, i_2_3b⟩, ⟨i_2_4a, i_2_4b⟩, ⟨i_2_5a, i_2_5b⟩, ⟨i_2_6a, i_2_6b⟩, ⟨i_2_14a, i_2_14b⟩, ⟨i_2_42a, i_2_42b⟩⟩, ⟨i_2_15a, i_2_15b⟩, ⟨i_2_20a, i_2_20b⟩, ⟨i_2_21a, i_2_21b⟩, ⟨i_2_23a, i_2_23b⟩, ⟨i_2_24a, i_2_24b⟩⟩ := i_2_g
  exact trivial
set_option maxHeartbeats 4000000 in
theorem p_takesBridges {G : Nat → Int32} {f13 : Nat → Int32} {f27 : Nat → Int32} (h_0 : PI G) : ∀ (r : Int32) (u : (Nat → Int32)) (v : (Nat → Int32)), f_m_takesBridges G f13 f27 = (r, u, v) → PI u ∧ ((G 15).toInt ≤ (u 15).toInt) ∧ ((u 14).toInt = (G 14).toInt) := by
  have h_0_g := h_0
  obtain ⟨⟨⟨h_0_2a, h_0_2b⟩, ⟨h_0_3a, h_0_3b⟩, ⟨h_0_4a, h_0_4b⟩, ⟨h_0_5a, h_0_5b⟩, ⟨h_0_6a, h_0_6b⟩, ⟨h_0_14a, h_0_14b⟩, ⟨h_0_42a, h_0_42b⟩⟩, ⟨h_0_15a, h_0_15b⟩, ⟨h_0_20a, h_0_20b⟩, ⟨h_0_21a, h_0_21b⟩, ⟨h_0_23a, h_0_23b⟩, ⟨h_0_24a, h_0_24b⟩⟩ := h_0_g
  intro r u v e
  unfold f_m_takesBridges at e
  generalize x_1 : (f_m_takesBridges_2 f13 10 1 G f27) = z_2 at e
  cases z_2 with
  | inl p_ =>
    obtain ⟨w_1l1, w_1m0, w_1m1⟩ := p_
    replace e : ((1, w_1m0, w_1m1) : Int32 × (Nat → Int32) × (Nat → Int32)) = (r, u, v) := e
    have p_3 := pl_takesBridges_2 (G := G) 10 1 G f27 (⟨h_0, (by first | omega | (simp (disch := omega) only [↓i_in, ↓i_isCouple, ↓i_isBridge, ↓i_isTheme, ↓i_isBarge, i_lt, i_le, i_eq, i_clamp, i_upd, i_m1, Int32.toInt_toInt64, Int32.toInt_add, Int32.toInt_sub, Int32.toInt_mul, bm32, Int32.reduceToInt, Int64.reduceToInt, Nat.reduceLT, Nat.reduceEqDiff, reduceIte, true_or, or_true, true_and, and_true, false_or, or_false, not_true_eq_false, not_false_eq_true, eq_self] <;> omega)), (by first | omega | (simp (disch := omega) only [↓i_in, ↓i_isCouple, ↓i_isBridge, ↓i_isTheme, ↓i_isBarge, i_lt, i_le, i_eq, i_clamp, i_upd, i_m1, Int32.toInt_toInt64, Int32.toInt_add, Int32.toInt_sub, Int32.toInt_mul, bm32, Int32.reduceToInt, Int64.reduceToInt, Nat.reduceLT, Nat.reduceEqDiff, reduceIte, true_or, or_true, true_and, and_true, false_or, or_false, not_true_eq_false, not_false_eq_true, eq_self] <;> omega))⟩) _ _ _ x_1
    obtain ⟨i_4, i_5, i_6⟩ := p_3
    have i_4_g := i_4
    obtain ⟨⟨⟨i_4_2a, i_4_2b⟩, ⟨i_4_3a, i_4_3b⟩, ⟨i_4_4a, i_4_4b⟩, ⟨i_4_5a, i_4_5b⟩, ⟨i_4_6a, i_4_6b⟩, ⟨i_4_14a, i_4_14b⟩, ⟨i_4_42a, i_4_42b⟩⟩, ⟨i_4_15a, i_4_15b⟩, ⟨i_4_20a, i_4_20b⟩, ⟨i_4_21a, i_4_21b⟩, ⟨i_4_23a, i_4_23b⟩, ⟨i_4_24a, i_4_24b⟩⟩ := i_4_g
    cases e
    exact ⟨i_4, (by first | omega | (simp (disch := omega) only [↓i_in, ↓i_isCouple, ↓i_isBridge, ↓i_isTheme, ↓i_isBarge, i_lt, i_le, i_eq, i_clamp, i_upd, i_m1, Int32.toInt_toInt64, Int32.toInt_add, Int32.toInt_sub, Int32.toInt_mul, bm32, Int32.reduceToInt, Int64.reduceToInt, Nat.reduceLT, Nat.reduceEqDiff, reduceIte, true_or, or_true, true_and, and_true, false_or, or_false, not_true_eq_false, not_false_eq_true, eq_self] <;> omega)), (by first | omega | (simp (disch := omega) only [↓i_in, ↓i_isCouple, ↓i_isBridge, ↓i_isTheme, ↓i_isBarge, i_lt, i_le, i_eq, i_clamp, i_upd, i_m1, Int32.toInt_toInt64, Int32.toInt_add, Int32.toInt_sub, Int32.toInt_mul, bm32, Int32.reduceToInt, Int64.reduceToInt, Nat.reduceLT, Nat.reduceEqDiff, reduceIte, true_or, or_true, true_and, and_true, false_or, or_false, not_true_eq_false, not_false_eq_true, eq_self] <;> omega))⟩
  | inr p_ =>
    replace e : p_ = (r, u, v) := e
    subst e
    have p_7 := pr_takesBridges_2 (G := G) 10 1 G f27 (⟨h_0, (by first | omega | (simp (disch := omega) only [↓i_in, ↓i_isCouple, ↓i_isBridge, ↓i_isTheme, ↓i_isBarge, i_lt, i_le, i_eq, i_clamp, i_upd, i_m1, Int32.toInt_toInt64, Int32.toInt_add, Int32.toInt_sub, Int32.toInt_mul, bm32, Int32.reduceToInt, Int64.reduceToInt, Nat.reduceLT, Nat.reduceEqDiff, reduceIte, true_or, or_true, true_and, and_true, false_or, or_false, not_true_eq_false, not_false_eq_true, eq_self] <;> omega)), (by first | omega | (simp (disch := omega) only [↓i_in, ↓i_isCouple, ↓i_isBridge, ↓i_isTheme, ↓i_isBarge, i_lt, i_le, i_eq, i_clamp, i_upd, i_m1, Int32.toInt_toInt64, Int32.toInt_add, Int32.toInt_sub, Int32.toInt_mul, bm32, Int32.reduceToInt, Int64.reduceToInt, Nat.reduceLT, Nat.reduceEqDiff, reduceIte, true_or, or_true, true_and, and_true, false_or, or_false, not_true_eq_false, not_false_eq_true, eq_self] <;> omega))⟩) _ _ _ x_1
    obtain ⟨i_8, i_9, i_10⟩ := p_7
    have i_8_g := i_8
    obtain ⟨⟨⟨i_8_2a, i_8_2b⟩, ⟨i_8_3a, i_8_3b⟩, ⟨i_8_4a, i_8_4b⟩, ⟨i_8_5a, i_8_5b⟩, ⟨i_8_6a, i_8_6b⟩, ⟨i_8_14a, i_8_14b⟩, ⟨i_8_42a, i_8_42b⟩⟩, ⟨i_8_15a, i_8_15b⟩, ⟨i_8_20a, i_8_20b⟩, ⟨i_8_21a, i_8_21b⟩, ⟨i_8_23a, i_8_23b⟩, ⟨i_8_24a, i_8_24b⟩⟩ := i_8_g
    exact ⟨i_8, (by first | omega | (simp (disch := omega) only [↓i_in, ↓i_isCouple, ↓i_isBridge, ↓i_isTheme, ↓i_isBarge, i_lt, i_le, i_eq, i_clamp, i_upd, i_m1, Int32.toInt_toInt64, Int32.toInt_add, Int32.toInt_sub, Int32.toInt_mul, bm32, Int32.reduceToInt, Int64.reduceToInt, Nat.reduceLT, Nat.reduceEqDiff, reduceIte, true_or, or_true, true_and, and_true, false_or, or_false, not_true_eq_false, not_false_eq_true, eq_self] <;> omega)), (by first | omega | (simp (disch := omega) only [↓i_in, ↓i_isCouple, ↓i_isBridge, ↓i_isTheme, ↓i_isBarge, i_lt, i_le, i_eq, i_clamp, i_upd, i_m1, Int32.toInt_toInt64, Int32.toInt_add, Int32.toInt_sub, Int32.toInt_mul, bm32, Int32.reduceToInt, Int64.reduceToInt, Nat.reduceLT, Nat.reduceEqDiff, reduceIte, true_or, or_true, true_and, and_true, false_or, or_false, not_true_eq_false, not_false_eq_true, eq_self] <;> omega))⟩
set_option maxHeartbeats 4000000 in
theorem s_takesThemes {G : Nat → Int32} {f13 : Nat → Int32} (h_0 : PI G) : S_m_takesThemes G f13 := by
  unfold S_m_takesThemes
  have h_0_g := h_0
  obtain ⟨⟨⟨h_0_2a, h_0_2b⟩, ⟨h_0_3a, h_0_3b⟩, ⟨h_0_4a, h_0_4b⟩, ⟨h_0_5a, h_0_5b⟩, ⟨h_0_6a, h_0_6b⟩, ⟨h_0_14a, h_0_14b⟩, ⟨h_0_42a, h_0_42b⟩⟩, ⟨h_0_15a, h_0_15b⟩, ⟨h_0_20a, h_0_20b⟩, ⟨h_0_21a, h_0_21b⟩, ⟨h_0_23a, h_0_23b⟩, ⟨h_0_24a, h_0_24b⟩⟩ := h_0_g
  refine ⟨(s_takesNumber (PI_upd h_0 (by decide))), ?_⟩
  intro r_3 u_2 e_1
  have p_2 := p_takesNumber (PI_upd h_0 (by decide)) _ _ e_1.symm
  obtain ⟨i_3, i_4, i_5, i_6, i_7, i_8, i_9, i_10⟩ := p_2
  have i_3_g := i_3
  obtain ⟨⟨⟨i_3_2a, i_3_2b⟩, ⟨i_3_3a, i_3_3b⟩, ⟨i_3_4a, i_3_4b⟩, ⟨i_3_5a, i_3_5b⟩, ⟨i_3_6a, i_3_6b⟩, ⟨i_3_14a, i_3_14b⟩, ⟨i_3_42a, i_3_42b⟩⟩, ⟨i_3_15a, i_3_15b⟩, ⟨i_3_20a, i_3_20b⟩, ⟨i_3_21a, i_3_21b⟩, ⟨i_3_23a, i_3_23b⟩, ⟨i_3_24a, i_3_24b⟩⟩ := i_3_g
  try simp (disch := omega) only [↓i_in, ↓i_isCouple, ↓i_isBridge, ↓i_isTheme, ↓i_isBarge, i_lt, i_le, i_eq, i_clamp, i_upd, i_m1, Int32.toInt_toInt64, Int32.toInt_add, Int32.toInt_sub, Int32.toInt_mul, bm32, Int32.reduceToInt, Int64.reduceToInt, Nat.reduceLT, Nat.reduceEqDiff, reduceIte, true_or, or_true, true_and, and_true, false_or, or_false, not_true_eq_false, not_false_eq_true, eq_self] at i_4
  try simp (disch := omega) only [↓i_in, ↓i_isCouple, ↓i_isBridge, ↓i_isTheme, ↓i_isBarge, i_lt, i_le, i_eq, i_clamp, i_upd, i_m1, Int32.toInt_toInt64, Int32.toInt_add, Int32.toInt_sub, Int32.toInt_mul, bm32, Int32.reduceToInt, Int64.reduceToInt, Nat.reduceLT, Nat.reduceEqDiff, reduceIte, true_or, or_true, true_and, and_true, false_or, or_false, not_true_eq_false, not_false_eq_true, eq_self] at i_5
  try simp (disch := omega) only [↓i_in, ↓i_isCouple, ↓i_isBridge, ↓i_isTheme, ↓i_isBarge, i_lt, i_le, i_eq, i_clamp, i_upd, i_m1, Int32.toInt_toInt64, Int32.toInt_add, Int32.toInt_sub, Int32.toInt_mul, bm32, Int32.reduceToInt, Int64.reduceToInt, Nat.reduceLT, Nat.reduceEqDiff, reduceIte, true_or, or_true, true_and, and_true, false_or, or_false, not_true_eq_false, not_false_eq_true, eq_self] at i_6
  try simp (disch := omega) only [↓i_in, ↓i_isCouple, ↓i_isBridge, ↓i_isTheme, ↓i_isBarge, i_lt, i_le, i_eq, i_clamp, i_upd, i_m1, Int32.toInt_toInt64, Int32.toInt_add, Int32.toInt_sub, Int32.toInt_mul, bm32, Int32.reduceToInt, Int64.reduceToInt, Nat.reduceLT, Nat.reduceEqDiff, reduceIte, true_or, or_true, true_and, and_true, false_or, or_false, not_true_eq_false, not_false_eq_true, eq_self] at i_7
  try simp (disch := omega) only [↓i_in, ↓i_isCouple, ↓i_isBridge, ↓i_isTheme, ↓i_isBarge, i_lt, i_le, i_eq, i_clamp, i_upd, i_m1, Int32.toInt_toInt64, Int32.toInt_add, Int32.toInt_sub, Int32.toInt_mul, bm32, Int32.reduceToInt, Int64.reduceToInt, Nat.reduceLT, Nat.reduceEqDiff, reduceIte, true_or, or_true, true_and, and_true, false_or, or_false, not_true_eq_false, not_false_eq_true, eq_self] at i_8
  try simp (disch := omega) only [↓i_in, ↓i_isCouple, ↓i_isBridge, ↓i_isTheme, ↓i_isBarge, i_lt, i_le, i_eq, i_clamp, i_upd, i_m1, Int32.toInt_toInt64, Int32.toInt_add, Int32.toInt_sub, Int32.toInt_mul, bm32, Int32.reduceToInt, Int64.reduceToInt, Nat.reduceLT, Nat.reduceEqDiff, reduceIte, true_or, or_true, true_and, and_true, false_or, or_false, not_true_eq_false, not_false_eq_true, eq_self] at i_9
  try simp (disch := omega) only [↓i_in, ↓i_isCouple, ↓i_isBridge, ↓i_isTheme, ↓i_isBarge, i_lt, i_le, i_eq, i_clamp, i_upd, i_m1, Int32.toInt_toInt64, Int32.toInt_add, Int32.toInt_sub, Int32.toInt_mul, bm32, Int32.reduceToInt, Int64.reduceToInt, Nat.reduceLT, Nat.reduceEqDiff, reduceIte, true_or, or_true, true_and, and_true, false_or, or_false, not_true_eq_false, not_false_eq_true, eq_self] at i_10
  refine ⟨fun c_11 => ?_, fun c_11 => ?_⟩
  · exact trivial
  · exact trivial
set_option maxHeartbeats 4000000 in
theorem p_takesThemes {G : Nat → Int32} {f13 : Nat → Int32} (h_0 : PI G) : ∀ (r : Int32) (u : (Nat → Int32)), f_m_takesThemes G f13 = (r, u) → PI u ∧ ((G 15).toInt ≤ (u 15).toInt) ∧ ((u 14).toInt = (G 14).toInt) := by
  have h_0_g := h_0
  obtain ⟨⟨⟨h_0_2a, h_0_2b⟩, ⟨h_0_3a, h_0_3b⟩, ⟨h_0_4a, h_0_4b⟩, ⟨h_0_5a, h_0_5b⟩, ⟨h_0_6a, h_0_6b⟩, ⟨h_0_14a, h_0_14b⟩, ⟨h_0_42a, h_0_42b⟩⟩, ⟨h_0_15a, h_0_15b⟩, ⟨h_0_20a, h_0_20b⟩, ⟨h_0_21a, h_0_21b⟩, ⟨h_0_23a, h_0_23b⟩, ⟨h_0_24a, h_0_24b⟩⟩ := h_0_g
  intro r u e
  unfold f_m_takesThemes at e
  generalize x_1 : (f_m_takesNumber (upd G 22 1) f13 1 5) = z_2 at e
  obtain ⟨r_3, u_2⟩ := z_2
  replace e : ((if r_3 = 0 then (0, u_2) else (1, (upd u_2 21 (u_2 17)))) : Int32 × (Nat → Int32)) = (r, u) := e
  have p_3 := p_takesNumber (PI_upd h_0 (by decide)) _ _ x_1
  obtain ⟨i_4, i_5, i_6, i_7, i_8, i_9, i_10, i_11⟩ := p_3
  have i_4_g := i_4
  obtain ⟨⟨⟨i_4_2a, i_4_2b⟩, ⟨i_4_3a, i_4_3b⟩, ⟨i_4_4a, i_4_4b⟩, ⟨i_4_5a, i_4_5b⟩, ⟨i_4_6a, i_4_6b⟩, ⟨i_4_14a, i_4_14b⟩, ⟨i_4_42a, i_4_42b⟩⟩, ⟨i_4_15a, i_4_15b⟩, ⟨i_4_20a, i_4_20b⟩, ⟨i_4_21a, i_4_21b⟩, ⟨i_4_23a, i_4_23b⟩, ⟨i_4_24a, i_4_24b⟩⟩ := i_4_g
  try simp (disch := omega) only [↓i_in, ↓i_isCouple, ↓i_isBridge, ↓i_isTheme, ↓i_isBarge, i_lt, i_le, i_eq, i_clamp, i_upd, i_m1, Int32.toInt_toInt64, Int32.toInt_add, Int32.toInt_sub, Int32.toInt_mul, bm32, Int32.reduceToInt, Int64.reduceToInt, Nat.reduceLT, Nat.reduceEqDiff, reduceIte, true_or, or_true, true_and, and_true, false_or, or_false, not_true_eq_false, not_false_eq_true, eq_self] at i_5
  try simp (disch := omega) only [↓i_in, ↓i_isCouple, ↓i_isBridge, ↓i_isTheme, ↓i_isBarge, i_lt, i_le, i_eq, i_clamp, i_upd, i_m1, Int32.toInt_toInt64, Int32.toInt_add, Int32.toInt_sub, Int32.toInt_mul, bm32, Int32.reduceToInt, Int64.reduceToInt, Nat.reduceLT, Nat.reduceEqDiff, reduceIte, true_or, or_true, true_and, and_true, false_or, or_false, not_true_eq_false, not_false_eq_true, eq_self] at i_6
  try simp (disch := omega) only [↓i_in, ↓i_isCouple, ↓i_isBridge, ↓i_isTheme, ↓i_isBarge, i_lt, i_le, i_eq, i_clamp, i_upd, i_m1, Int32.toInt_toInt64, Int32.toInt_add, Int32.toInt_sub, Int32.toInt_mul, bm32, Int32.reduceToInt, Int64.reduceToInt, Nat.reduceLT, Nat.reduceEqDiff, reduceIte, true_or, or_true, true_and, and_true, false_or, or_false, not_true_eq_false, not_false_eq_true, eq_self] at i_7
  try simp (disch := omega) only [↓i_in, ↓i_isCouple, ↓i_isBridge, ↓i_isTheme, ↓i_isBarge, i_lt, i_le, i_eq, i_clamp, i_upd, i_m1, Int32.toInt_toInt64, Int32.toInt_add, Int32.toInt_sub, Int32.toInt_mul, bm32, Int32.reduceToInt, Int64.reduceToInt, Nat.reduceLT, Nat.reduceEqDiff, reduceIte, true_or, or_true, true_and, and_true, false_or, or_false, not_true_eq_false, not_false_eq_true, eq_self] at i_8
  try simp (disch := omega) only [↓i_in, ↓i_isCouple, ↓i_isBridge, ↓i_isTheme, ↓i_isBarge, i_lt, i_le, i_eq, i_clamp, i_upd, i_m1, Int32.toInt_toInt64, Int32.toInt_add, Int32.toInt_sub, Int32.toInt_mul, bm32, Int32.reduceToInt, Int64.reduceToInt, Nat.reduceLT, Nat.reduceEqDiff, reduceIte, true_or, or_true, true_and, and_true, false_or, or_false, not_true_eq_false, not_false_eq_true, eq_self] at i_9
  try simp (disch := omega) only [↓i_in, ↓i_isCouple, ↓i_isBridge, ↓i_isTheme, ↓i_isBarge, i_lt, i_le, i_eq, i_clamp, i_upd, i_m1, Int32.toInt_toInt64, Int32.toInt_add, Int32.toInt_sub, Int32.toInt_mul, bm32, Int32.reduceToInt, Int64.reduceToInt, Nat.reduceLT, Nat.reduceEqDiff, reduceIte, true_or, or_true, true_and, and_true, false_or, or_false, not_true_eq_false, not_false_eq_true, eq_self] at i_10
  try simp (disch := omega) only [↓i_in, ↓i_isCouple, ↓i_isBridge, ↓i_isTheme, ↓i_isBarge, i_lt, i_le, i_eq, i_clamp, i_upd, i_m1, Int32.toInt_toInt64, Int32.toInt_add, Int32.toInt_sub, Int32.toInt_mul, bm32, Int32.reduceToInt, Int64.reduceToInt, Nat.reduceLT, Nat.reduceEqDiff, reduceIte, true_or, or_true, true_and, and_true, false_or, or_false, not_true_eq_false, not_false_eq_true, eq_self] at i_11
  by_cases c_12 : r_3 = 0
  · rw [if_pos c_12] at e
    try simp (disch := omega) only [↓i_in, ↓i_isCouple, ↓i_isBridge, ↓i_isTheme, ↓i_isBarge, i_lt, i_le, i_eq, i_clamp, i_upd, i_m1, Int32.toInt_toInt64, Int32.toInt_add, Int32.toInt_sub, Int32.toInt_mul, bm32, Int32.reduceToInt, Int64.reduceToInt, Nat.reduceLT, Nat.reduceEqDiff, reduceIte, true_or, or_true, true_and, and_true, false_or, or_false, not_true_eq_false, not_false_eq_true, eq_self] at c_12
    cases e
    exact ⟨i_4, (by first | omega | (simp (disch := omega) only [↓i_in, ↓i_isCouple, ↓i_isBridge, ↓i_isTheme, ↓i_isBarge, i_lt, i_le, i_eq, i_clamp, i_upd, i_m1, Int32.toInt_toInt64, Int32.toInt_add, Int32.toInt_sub, Int32.toInt_mul, bm32, Int32.reduceToInt, Int64.reduceToInt, Nat.reduceLT, Nat.reduceEqDiff, reduceIte, true_or, or_true, true_and, and_true, false_or, or_false, not_true_eq_false, not_false_eq_true, eq_self] <;> omega)), (by first | omega | (simp (disch := omega) only [↓i_in, ↓i_isCouple, ↓i_isBridge, ↓i_isTheme, ↓i_isBarge, i_lt, i_le, i_eq, i_clamp, i_upd, i_m1, Int32.toInt_toInt64, Int32.toInt_add, Int32.toInt_sub, Int32.toInt_mul, bm32, Int32.reduceToInt, Int64.reduceToInt, Nat.reduceLT, Nat.reduceEqDiff, reduceIte, true_or, or_true, true_and, and_true, false_or, or_false, not_true_eq_false, not_false_eq_true, eq_self] <;> omega))⟩
  · rw [if_neg c_12] at e
    try simp (disch := omega) only [↓i_in, ↓i_isCouple, ↓i_isBridge, ↓i_isTheme, ↓i_isBarge, i_lt, i_le, i_eq, i_clamp, i_upd, i_m1, Int32.toInt_toInt64, Int32.toInt_add, Int32.toInt_sub, Int32.toInt_mul, bm32, Int32.reduceToInt, Int64.reduceToInt, Nat.reduceLT, Nat.reduceEqDiff, reduceIte, true_or, or_true, true_and, and_true, false_or, or_false, not_true_eq_false, not_false_eq_true, eq_self] at c_12
    cases e
    exact ⟨(PI_u21 i_4 (by first | omega | (simp (disch := omega) only [↓i_in, ↓i_isCouple, ↓i_isBridge, ↓i_isTheme, ↓i_isBarge, i_lt, i_le, i_eq, i_clamp, i_upd, i_m1, Int32.toInt_toInt64, Int32.toInt_add, Int32.toInt_sub, Int32.toInt_mul, bm32, Int32.reduceToInt, Int64.reduceToInt, Nat.reduceLT, Nat.reduceEqDiff, reduceIte, true_or, or_true, true_and, and_true, false_or, or_false, not_true_eq_false, not_false_eq_true, eq_self] <;> omega)) (by first | omega | (simp (disch := omega) only [↓i_in, ↓i_isCouple, ↓i_isBridge, ↓i_isTheme, ↓i_isBarge, i_lt, i_le, i_eq, i_clamp, i_upd, i_m1, Int32.toInt_toInt64, Int32.toInt_add, Int32.toInt_sub, Int32.toInt_mul, bm32, Int32.reduceToInt, Int64.reduceToInt, Nat.reduceLT, Nat.reduceEqDiff, reduceIte, true_or, or_true, true_and, and_true, false_or, or_false, not_true_eq_false, not_false_eq_true, eq_self] <;> omega))), (by first | omega | (simp (disch := omega) only [↓i_in, ↓i_isCouple, ↓i_isBridge, ↓i_isTheme, ↓i_isBarge, i_lt, i_le, i_eq, i_clamp, i_upd, i_m1, Int32.toInt_toInt64, Int32.toInt_add, Int32.toInt_sub, Int32.toInt_mul, bm32, Int32.reduceToInt, Int64.reduceToInt, Nat.reduceLT, Nat.reduceEqDiff, reduceIte, true_or, or_true, true_and, and_true, false_or, or_false, not_true_eq_false, not_false_eq_true, eq_self] <;> omega)), (by first | omega | (simp (disch := omega) only [↓i_in, ↓i_isCouple, ↓i_isBridge, ↓i_isTheme, ↓i_isBarge, i_lt, i_le, i_eq, i_clamp, i_upd, i_m1, Int32.toInt_toInt64, Int32.toInt_add, Int32.toInt_sub, Int32.toInt_mul, bm32, Int32.reduceToInt, Int64.reduceToInt, Nat.reduceLT, Nat.reduceEqDiff, reduceIte, true_or, or_true, true_and, and_true, false_or, or_false, not_true_eq_false, not_false_eq_true, eq_self] <;> omega))⟩
set_option maxHeartbeats 4000000 in
theorem s_takesSnow {G : Nat → Int32} {f13 : Nat → Int32} (h_0 : PI G) : S_m_takesSnow G f13 := by
  unfold S_m_takesSnow
  have h_0_g := h_0
  obtain ⟨⟨⟨h_0_2a, h_0_2b⟩, ⟨h_0_3a, h_0_3b⟩, ⟨h_0_4a, h_0_4b⟩, ⟨h_0_5a, h_0_5b⟩, ⟨h_0_6a, h_0_6b⟩, ⟨h_0_14a, h_0_14b⟩, ⟨h_0_42a, h_0_42b⟩⟩, ⟨h_0_15a, h_0_15b⟩, ⟨h_0_20a, h_0_20b⟩, ⟨h_0_21a, h_0_21b⟩, ⟨h_0_23a, h_0_23b⟩, ⟨h_0_24a, h_0_24b⟩⟩ := h_0_g
  refine ⟨(s_takesNumber (PI_upd h_0 (by decide))), ?_⟩
  intro r_3 u_2 e_1
  have p_2 := p_takesNumber (PI_upd h_0 (by decide)) _ _ e_1.symm
  obtain ⟨i_3, i_4, i_5, i_6, i_7, i_8, i_9, i_10⟩ := p_2
  have i_3_g := i_3
  obtain ⟨⟨⟨i_3_2a, i_3_2b⟩, ⟨i_3_3a, i_3_3b⟩, ⟨i_3_4a, i_3_4b⟩, ⟨i_3_5a, i_3_5b⟩, ⟨i_3_6a, i_3_6b⟩, ⟨i_3_14a, i_3_14b⟩, ⟨i_3_42a, i_3_42b⟩⟩, ⟨i_3_15a, i_3_15b⟩, ⟨i_3_20a, i_3_20b⟩, ⟨i_3_21a, i_3_21b⟩, ⟨i_3_23a, i_3_23b⟩, ⟨i_3_24a, i_3_24b⟩⟩ := i_3_g
  try simp (disch := omega) only [↓i_in, ↓i_isCouple, ↓i_isBridge, ↓i_isTheme, ↓i_isBarge, i_lt, i_le, i_eq, i_clamp, i_upd, i_m1, Int32.toInt_toInt64, Int32.toInt_add, Int32.toInt_sub, Int32.toInt_mul, bm32, Int32.reduceToInt, Int64.reduceToInt, Nat.reduceLT, Nat.reduceEqDiff, reduceIte, true_or, or_true, true_and, and_true, false_or, or_false, not_true_eq_false, not_false_eq_true, eq_self] at i_4
  try simp (disch := omega) only [↓i_in, ↓i_isCouple, ↓i_isBridge, ↓i_isTheme, ↓i_isBarge, i_lt, i_le, i_eq, i_clamp, i_upd, i_m1, Int32.toInt_toInt64, Int32.toInt_add, Int32.toInt_sub, Int32.toInt_mul, bm32, Int32.reduceToInt, Int64.reduceToInt, Nat.reduceLT, Nat.reduceEqDiff, reduceIte, true_or, or_true, true_and, and_true, false_or, or_false, not_true_eq_false, not_false_eq_true, eq_self] at i_5
  try simp (disch := omega) only [↓i_in, ↓i_isCouple, ↓i_isBridge, ↓i_isTheme, ↓i_isBarge, i_lt, i_le, i_eq, i_clamp, i_upd, i_m1, Int32.toInt_toInt64, Int32.toInt_add, Int32.toInt_sub, Int32.toInt_mul, bm32, Int32.reduceToInt, Int64.reduceToInt, Nat.reduceLT, Nat.reduceEqDiff, reduceIte, true_or, or_true, true_and, and_true, false_or, or_false, not_true_eq_false, not_false_eq_true, eq_self] at i_6
  try simp (disch := omega) only [↓i_in, ↓i_isCouple, ↓i_isBridge, ↓i_isTheme, ↓i_isBarge, i_lt, i_le, i_eq, i_clamp, i_upd, i_m1, Int32.toInt_toInt64, Int32.toInt_add, Int32.toInt_sub, Int32.toInt_mul, bm32, Int32.reduceToInt, Int64.reduceToInt, Nat.reduceLT, Nat.reduceEqDiff, reduceIte, true_or, or_true, true_and, and_true, false_or, or_false, not_true_eq_false, not_false_eq_true, eq_self] at i_7
  try simp (disch := omega) only [↓i_in, ↓i_isCouple, ↓i_isBridge, ↓i_isTheme, ↓i_isBarge, i_lt, i_le, i_eq, i_clamp, i_upd, i_m1, Int32.toInt_toInt64, Int32.toInt_add, Int32.toInt_sub, Int32.toInt_mul, bm32, Int32.reduceToInt, Int64.reduceToInt, Nat.reduceLT, Nat.reduceEqDiff, reduceIte, true_or, or_true, true_and, and_true, false_or, or_false, not_true_eq_false, not_false_eq_true, eq_self] at i_8
  try simp (disch := omega) only [↓i_in, ↓i_isCouple, ↓i_isBridge, ↓i_isTheme, ↓i_isBarge, i_lt, i_le, i_eq, i_clamp, i_upd, i_m1, Int32.toInt_toInt64, Int32.toInt_add, Int32.toInt_sub, Int32.toInt_mul, bm32, Int32.reduceToInt, Int64.reduceToInt, Nat.reduceLT, Nat.reduceEqDiff, reduceIte, true_or, or_true, true_and, and_true, false_or, or_false, not_true_eq_false, not_false_eq_true, eq_self] at i_9
  try simp (disch := omega) only [↓i_in, ↓i_isCouple, ↓i_isBridge, ↓i_isTheme, ↓i_isBarge, i_lt, i_le, i_eq, i_clamp, i_upd, i_m1, Int32.toInt_toInt64, Int32.toInt_add, Int32.toInt_sub, Int32.toInt_mul, bm32, Int32.reduceToInt, Int64.reduceToInt, Nat.reduceLT, Nat.reduceEqDiff, reduceIte, true_or, or_true, true_and, and_true, false_or, or_false, not_true_eq_false, not_false_eq_true, eq_self] at i_10
  refine ⟨fun c_11 => ?_, fun c_11 => ?_⟩
  · exact trivial
  · exact trivial
set_option maxHeartbeats 4000000 in
theorem p_takesSnow {G : Nat → Int32} {f13 : Nat → Int32} (h_0 : PI G) : ∀ (r : Int32) (u : (Nat → Int32)), f_m_takesSnow G f13 = (r, u) → PI u ∧ ((G 15).toInt ≤ (u 15).toInt) ∧ ((u 14).toInt = (G 14).toInt) := by
  have h_0_g := h_0
  obtain ⟨⟨⟨h_0_2a, h_0_2b⟩, ⟨h_0_3a, h_0_3b⟩, ⟨h_0_4a, h_0_4b⟩, ⟨h_0_5a, h_0_5b⟩, ⟨h_0_6a, h_0_6b⟩, ⟨h_0_14a, h_0_14b⟩, ⟨h_0_42a, h_0_42b⟩⟩, ⟨h_0_15a, h_0_15b⟩, ⟨h_0_20a, h_0_20b⟩, ⟨h_0_21a, h_0_21b⟩, ⟨h_0_23a, h_0_23b⟩, ⟨h_0_24a, h_0_24b⟩⟩ := h_0_g
  intro r u e
  unfold f_m_takesSnow at e
  generalize x_1 : (f_m_takesNumber (upd G 26 1) f13 0 1) = z_2 at e
  obtain ⟨r_3, u_2⟩ := z_2
  replace e : ((if r_3 = 0 then (0, u_2) else (1, (upd u_2 25 (u_2 17)))) : Int32 × (Nat → Int32)) = (r, u) := e
  have p_3 := p_takesNumber (PI_upd h_0 (by decide)) _ _ x_1
  obtain ⟨i_4, i_5, i_6, i_7, i_8, i_9, i_10, i_11⟩ := p_3
  have i_4_g := i_4
  obtain ⟨⟨⟨i_4_2a, i_4_2b⟩, ⟨i_4_3a, i_4_3b⟩, ⟨i_4_4a, i_4_4b⟩, ⟨i_4_5a, i_4_5b⟩, ⟨i_4_6a, i_4_6b⟩, ⟨i_4_14a, i_4_14b⟩, ⟨i_4_42a, i_4_42b⟩⟩, ⟨i_4_15a, i_4_15b⟩, ⟨i_4_20a, i_4_20b⟩, ⟨i_4_21a, i_4_21b⟩, ⟨i_4_23a, i_4_23b⟩, ⟨i_4_24a, i_4_24b⟩⟩ := i_4_g
  try simp (disch := omega) only [↓i_in, ↓i_isCouple, ↓i_isBridge, ↓i_isTheme, ↓i_isBarge, i_lt, i_le, i_eq, i_clamp, i_upd, i_m1, Int32.toInt_toInt64, Int32.toInt_add, Int32.toInt_sub, Int32.toInt_mul, bm32, Int32.reduceToInt, Int64.reduceToInt, Nat.reduceLT, Nat.reduceEqDiff, reduceIte, true_or, or_true, true_and, and_true, false_or, or_false, not_true_eq_false, not_false_eq_true, eq_self] at i_5
  try simp (disch := omega) only [↓i_in, ↓i_isCouple, ↓i_isBridge, ↓i_isTheme, ↓i_isBarge, i_lt, i_le, i_eq, i_clamp, i_upd, i_m1, Int32.toInt_toInt64, Int32.toInt_add, Int32.toInt_sub, Int32.toInt_mul, bm32, Int32.reduceToInt, Int64.reduceToInt, Nat.reduceLT, Nat.reduceEqDiff, reduceIte, true_or, or_true, true_and, and_true, false_or, or_false, not_true_eq_false, not_false_eq_true, eq_self] at i_6
  try simp (disch := omega) only [↓i_in, ↓i_isCouple, ↓i_isBridge, ↓i_isTheme, ↓i_isBarge, i_lt, i_le, i_eq, i_clamp, i_upd, i_m1, Int32.toInt_toInt64, Int32.toInt_add, Int32.toInt_sub, Int32.toInt_mul, bm32, Int32.reduceToInt, Int64.reduceToInt, Nat.reduceLT, Nat.reduceEqDiff, reduceIte, true_or, or_true, true_and, and_true, false_or, or_false, not_true_eq_false, not_false_eq_true, eq_self] at i_7
  try simp (disch := omega) only [↓i_in, ↓i_isCouple, ↓i_isBridge, ↓i_isTheme, ↓i_isBarge, i_lt, i_le, i_eq, i_clamp, i_upd, i_m1, Int32.toInt_toInt64, Int32.toInt_add, Int32.toInt_sub, Int32.toInt_mul, bm32, Int32.reduceToInt, Int64.reduceToInt, Nat.reduceLT, Nat.reduceEqDiff, reduceIte, true_or, or_true, true_and, and_true, false_or, or_false, not_true_eq_false, not_false_eq_true, eq_self] at i_8
  try simp (disch := omega) only [↓i_in, ↓i_isCouple, ↓i_isBridge, ↓i_isTheme, ↓i_isBarge, i_lt, i_le, i_eq, i_clamp, i_upd, i_m1, Int32.toInt_toInt64, Int32.toInt_add, Int32.toInt_sub, Int32.toInt_mul, bm32, Int32.reduceToInt, Int64.reduceToInt, Nat.reduceLT, Nat.reduceEqDiff, reduceIte, true_or, or_true, true_and, and_true, false_or, or_false, not_true_eq_false, not_false_eq_true, eq_self] at i_9
  try simp (disch := omega) only [↓i_in, ↓i_isCouple, ↓i_isBridge, ↓i_isTheme, ↓i_isBarge, i_lt, i_le, i_eq, i_clamp, i_upd, i_m1, Int32.toInt_toInt64, Int32.toInt_add, Int32.toInt_sub, Int32.toInt_mul, bm32, Int32.reduceToInt, Int64.reduceToInt, Nat.reduceLT, Nat.reduceEqDiff, reduceIte, true_or, or_true, true_and, and_true, false_or, or_false, not_true_eq_false, not_false_eq_true, eq_self] at i_10
  try simp (disch := omega) only [↓i_in, ↓i_isCouple, ↓i_isBridge, ↓i_isTheme, ↓i_isBarge, i_lt, i_le, i_eq, i_clamp, i_upd, i_m1, Int32.toInt_toInt64, Int32.toInt_add, Int32.toInt_sub, Int32.toInt_mul, bm32, Int32.reduceToInt, Int64.reduceToInt, Nat.reduceLT, Nat.reduceEqDiff, reduceIte, true_or, or_true, true_and, and_true, false_or, or_false, not_true_eq_false, not_false_eq_true, eq_self] at i_11
  by_cases c_12 : r_3 = 0
  · rw [if_pos c_12] at e
    try simp (disch := omega) only [↓i_in, ↓i_isCouple, ↓i_isBridge, ↓i_isTheme, ↓i_isBarge, i_lt, i_le, i_eq, i_clamp, i_upd, i_m1, Int32.toInt_toInt64, Int32.toInt_add, Int32.toInt_sub, Int32.toInt_mul, bm32, Int32.reduceToInt, Int64.reduceToInt, Nat.reduceLT, Nat.reduceEqDiff, reduceIte, true_or, or_true, true_and, and_true, false_or, or_false, not_true_eq_false, not_false_eq_true, eq_self] at c_12
    cases e
    exact ⟨i_4, (by first | omega | (simp (disch := omega) only [↓i_in, ↓i_isCouple, ↓i_isBridge, ↓i_isTheme, ↓i_isBarge, i_lt, i_le, i_eq, i_clamp, i_upd, i_m1, Int32.toInt_toInt64, Int32.toInt_add, Int32.toInt_sub, Int32.toInt_mul, bm32, Int32.reduceToInt, Int64.reduceToInt, Nat.reduceLT, Nat.reduceEqDiff, reduceIte, true_or, or_true, true_and, and_true, false_or, or_false, not_true_eq_false, not_false_eq_true, eq_self] <;> omega)), (by first | omega | (simp (disch := omega) only [↓i_in, ↓i_isCouple, ↓i_isBridge, ↓i_isTheme, ↓i_isBarge, i_lt, i_le, i_eq, i_clamp, i_upd, i_m1, Int32.toInt_toInt64, Int32.toInt_add, Int32.toInt_sub, Int32.toInt_mul, bm32, Int32.reduceToInt, Int64.reduceToInt, Nat.reduceLT, Nat.reduceEqDiff, reduceIte, true_or, or_true, true_and, and_true, false_or, or_false, not_true_eq_false, not_false_eq_true, eq_self] <;> omega))⟩
  · rw [if_neg c_12] at e
    try simp (disch := omega) only [↓i_in, ↓i_isCouple, ↓i_isBridge, ↓i_isTheme, ↓i_isBarge, i_lt, i_le, i_eq, i_clamp, i_upd, i_m1, Int32.toInt_toInt64, Int32.toInt_add, Int32.toInt_sub, Int32.toInt_mul, bm32, Int32.reduceToInt, Int64.reduceToInt, Nat.reduceLT, Nat.reduceEqDiff, reduceIte, true_or, or_true, true_and, and_true, false_or, or_false, not_true_eq_false, not_false_eq_true, eq_self] at c_12
    cases e
    exact ⟨(PI_upd i_4 (by decide)), (by first | omega | (simp (disch := omega) only [↓i_in, ↓i_isCouple, ↓i_isBridge, ↓i_isTheme, ↓i_isBarge, i_lt, i_le, i_eq, i_clamp, i_upd, i_m1, Int32.toInt_toInt64, Int32.toInt_add, Int32.toInt_sub, Int32.toInt_mul, bm32, Int32.reduceToInt, Int64.reduceToInt, Nat.reduceLT, Nat.reduceEqDiff, reduceIte, true_or, or_true, true_and, and_true, false_or, or_false, not_true_eq_false, not_false_eq_true, eq_self] <;> omega)), (by first | omega | (simp (disch := omega) only [↓i_in, ↓i_isCouple, ↓i_isBridge, ↓i_isTheme, ↓i_isBarge, i_lt, i_le, i_eq, i_clamp, i_upd, i_m1, Int32.toInt_toInt64, Int32.toInt_add, Int32.toInt_sub, Int32.toInt_mul, bm32, Int32.reduceToInt, Int64.reduceToInt, Nat.reduceLT, Nat.reduceEqDiff, reduceIte, true_or, or_true, true_and, and_true, false_or, or_false, not_true_eq_false, not_false_eq_true, eq_self] <;> omega))⟩
set_option maxHeartbeats 4000000 in
theorem sl_takesCouple_27 {G : Nat → Int32} {f13 : Nat → Int32} {K : Int32 → (Nat → Int32) → (Nat → Int32) → (Nat → Int32) → Prop} (hK : ∀ w_6l1 w_6m0 w_6m1 w_6m2, (PI w_6m0 ∧ ((G 15).toInt ≤ (w_6m0 15).toInt) ∧ ((w_6m0 14).toInt = (G 14).toInt) ∧ ((w_6m0 23).toInt < 6) ∧ ((w_6m0 21).toInt = (G 21).toInt) ∧ (0 ≤ w_6l1.toInt) ∧ (w_6l1.toInt ≤ 5)) → K w_6l1 w_6m0 w_6m1 w_6m2) : ∀ (n : Nat) w_6l1 w_6m0 w_6m1 w_6m2, (PI w_6m0 ∧ ((G 15).toInt ≤ (w_6m0 15).toInt) ∧ ((w_6m0 14).toInt = (G 14).toInt) ∧ ((w_6m0 23).toInt < 6) ∧ ((w_6m0 21).toInt = (G 21).toInt) ∧ (0 ≤ w_6l1.toInt) ∧ (w_6l1.toInt ≤ 5)) → (6 - w_6l1.toInt).toNat < n → S_m_takesCouple_27 f13 K n w_6l1 w_6m0 w_6m1 w_6m2 := by
  intro n
  induction n with
  | zero => intro w_6l1 w_6m0 w_6m1 w_6m2 hI hm; exact absurd hm (Nat.not_lt_zero _)
  | succ n ih =>
    intro w_6l1 w_6m0 w_6m1 w_6m2 hI hm
    rw [S_m_takesCouple_27_s]
    have hI0 := hI
    obtain ⟨i_1, i_2, i_3, i_4, i_5, i_6, i_7⟩ := hI0
    have i_1_g := i_1
    obtain ⟨⟨⟨i_1_2a, i_1_2b⟩, ⟨i_1_3a, i_1_3b⟩, ⟨i_1_4a, i_1_4b⟩, ⟨i_1_5a, i_1_5b⟩, ⟨i_1_6a, i_1_6b⟩, ⟨i_1_14a, i_1_14b⟩, ⟨i_1_42a, i_1_42b⟩⟩, ⟨i_1_15a, i_1_15b⟩, ⟨i_1_20a, i_1_20b⟩, ⟨i_1_21a, i_1_21b⟩, ⟨i_1_23a, i_1_23b⟩, ⟨i_1_24a, i_1_24b⟩⟩ := i_1_g
    refine ⟨fun c_8 => ?_, fun c_8 => ?_⟩
    · skip
      try simp (disch := omega) only [↓i_in, ↓i_isCouple, ↓i_isBridge, ↓i_isTheme, ↓i_isBarge, i_lt, i_le, i_eq, i_clamp, i_upd, i_m1, Int32.toInt_toInt64, Int32.toInt_add, Int32.toInt_sub, Int32.toInt_mul, bm32, Int32.reduceToInt, Int64.reduceToInt, Nat.reduceLT, Nat.reduceEqDiff, reduceIte, true_or, or_true, true_and, and_true, false_or, or_false, not_true_eq_false, not_false_eq_true, eq_self] at c_8
      exact hK w_6l1 w_6m0 w_6m1 w_6m2 hI
    · skip
      try simp (disch := omega) only [↓i_in, ↓i_isCouple, ↓i_isBridge, ↓i_isTheme, ↓i_isBarge, i_lt, i_le, i_eq, i_clamp, i_upd, i_m1, Int32.toInt_toInt64, Int32.toInt_add, Int32.toInt_sub, Int32.toInt_mul, bm32, Int32.reduceToInt, Int64.reduceToInt, Nat.reduceLT, Nat.reduceEqDiff, reduceIte, true_or, or_true, true_and, and_true, false_or, or_false, not_true_eq_false, not_false_eq_true, eq_self] at c_8
      refine ⟨fun c_9 => ?_, fun c_9 => ?_⟩
      · skip
        try simp (disch := omega) only [↓i_in, ↓i_isCouple, ↓i_isBridge, ↓i_isTheme, ↓i_isBarge, i_lt, i_le, i_eq, i_clamp, i_upd, i_m1, Int32.toInt_toInt64, Int32.toInt_add, Int32.toInt_sub, Int32.toInt_mul, bm32, Int32.reduceToInt, Int64.reduceToInt, Nat.reduceLT, Nat.reduceEqDiff, reduceIte, true_or, or_true, true_and, and_true, false_or, or_false, not_true_eq_false, not_false_eq_true, eq_self] at c_9
        refine ⟨(s_takesNumber i_1), ?_⟩
        intro r_11 u_10 e_10
        have p_11 := p_takesNumber i_1 _ _ e_10.symm
        obtain ⟨i_12, i_13, i_14, i_15, i_16, i_17, i_18, i_19⟩ := p_11
        have i_12_g := i_12
        obtain ⟨⟨⟨i_12_2a, i_12_2b⟩, ⟨i_12_3a, i_12_3b⟩, ⟨i_12_4a, i_12_4b⟩, ⟨i_12_5a, i_12_5b⟩, ⟨i_12_6a, i_12_6b⟩, ⟨i_12_14a, i_12_14b⟩, ⟨i_12_42a, i_12_42b⟩⟩, ⟨i_12_15a, i_12_15b⟩, ⟨i_12_20a, i_12_20b⟩, ⟨i_12_21a, i_12_21b⟩, ⟨i_12_23a, i_12_23b⟩, ⟨i_12_24a, i_12_24b⟩⟩ := i_12_g
        try simp (disch := omega) only [↓i_in, ↓i_isCouple, ↓i_isBridge, ↓i_isTheme, ↓i_isBarge, i_lt, i_le, i_eq, i_clamp, i_upd, i_m1, Int32.toInt_toInt64, Int32.toInt_add, Int32.toInt_sub, Int32.toInt_mul, bm32, Int32.reduceToInt, Int64.reduceToInt, Nat.reduceLT, Nat.reduceEqDiff, reduceIte, true_or, or_true, true_and, and_true, false_or, or_false, not_true_eq_false, not_false_eq_true, eq_self] at i_19
        refine ⟨fun c_20 => ?_, fun c_20 => ?_⟩
        · exact trivial
        · skip
          try simp (disch := omega) only [↓i_in, ↓i_isCouple, ↓i_isBridge, ↓i_isTheme, ↓i_isBarge, i_lt, i_le, i_eq, i_clamp, i_upd, i_m1, Int32.toInt_toInt64, Int32.toInt_add, Int32.toInt_sub, Int32.toInt_mul, bm32, Int32.reduceToInt, Int64.reduceToInt, Nat.reduceLT, Nat.reduceEqDiff, reduceIte, true_or, or_true, true_and, and_true, false_or, or_false, not_true_eq_false, not_false_eq_true, eq_self] at c_20
          refine ⟨vp_in_iff.mpr (by first | omega | (simp (disch := omega) only [↓i_in, ↓i_isCouple, ↓i_isBridge, ↓i_isTheme, ↓i_isBarge, i_lt, i_le, i_eq, i_clamp, i_upd, i_m1, Int32.toInt_toInt64, Int32.toInt_add, Int32.toInt_sub, Int32.toInt_mul, bm32, Int32.reduceToInt, Int64.reduceToInt, Nat.reduceLT, Nat.reduceEqDiff, reduceIte, true_or, or_true, true_and, and_true, false_or, or_false, not_true_eq_false, not_false_eq_true, eq_self] <;> omega)), ?_⟩
          exact ih (w_6l1 + 1) u_10 w_6m1 (upd w_6m2 (((5 * (u_10 23)) + w_6l1) : Int32).toNatClampNeg (u_10 17)) (⟨i_12, (by first | omega | (simp (disch := omega) only [↓i_in, ↓i_isCouple, ↓i_isBridge, ↓i_isTheme, ↓i_isBarge, i_lt, i_le, i_eq, i_clamp, i_upd, i_m1, Int32.toInt_toInt64, Int32.toInt_add, Int32.toInt_sub, Int32.toInt_mul, bm32, Int32.reduceToInt, Int64.reduceToInt, Nat.reduceLT, Nat.reduceEqDiff, reduceIte, true_or, or_true, true_and, and_true, false_or, or_false, not_true_eq_false, not_false_eq_true, eq_self] <;> omega)), (by first | omega | (simp (disch := omega) only [↓i_in, ↓i_isCouple, ↓i_isBridge, ↓i_isTheme, ↓i_isBarge, i_lt, i_le, i_eq, i_clamp, i_upd, i_m1, Int32.toInt_toInt64, Int32.toInt_add, Int32.toInt_sub, Int32.toInt_mul, bm32, Int32.reduceToInt, Int64.reduceToInt, Nat.reduceLT, Nat.reduceEqDiff, reduceIte, true_or, or_true, true_and, and_true, false_or, or_false, not_true_eq_false, not_false_eq_true, eq_self] <;> omega)), (by first | omega | (simp (disch := omega) only [↓i_in, ↓i_isCouple, ↓i_isBridge, ↓i_isTheme, ↓i_isBarge, i_lt, i_le, i_eq, i_clamp, i_upd, i_m1, Int32.toInt_toInt64, Int32.toInt_add, Int32.toInt_sub, Int32.toInt_mul, bm32, Int32.reduceToInt, Int64.reduceToInt, Nat.reduceLT, Nat.reduceEqDiff, reduceIte, true_or, or_true, true_and, and_true, false_or, or_false, not_true_eq_false, not_false_eq_true, eq_self] <;> omega)), (by first | omega | (simp (disch := omega) only [↓i_in, ↓i_isCouple, ↓i_isBridge, ↓i_isTheme, ↓i_isBarge, i_lt, i_le, i_eq, i_clamp, i_upd, i_m1, Int32.toInt_toInt64, Int32.toInt_add, Int32.toInt_sub, Int32.toInt_mul, bm32, Int32.reduceToInt, Int64.reduceToInt, Nat.reduceLT, Nat.reduceEqDiff, reduceIte, true_or, or_true, true_and, and_true, false_or, or_false, not_true_eq_false, not_false_eq_true, eq_self] <;> omega)), (by first | omega | (simp (disch := omega) only [↓i_in, ↓i_isCouple, ↓i_isBridge, ↓i_isTheme, ↓i_isBarge, i_lt, i_le, i_eq, i_clamp, i_upd, i_m1, Int32.toInt_toInt64, Int32.toInt_add, Int32.toInt_sub, Int32.toInt_mul, bm32, Int32.reduceToInt, Int64.reduceToInt, Nat.reduceLT, Nat.reduceEqDiff, reduceIte, true_or, or_true, true_and, and_true, false_or, or_false, not_true_eq_false, not_false_eq_true, eq_self] <;> omega)), (by first | omega | (simp (disch := omega) only [↓i_in, ↓i_isCouple, ↓i_isBridge, ↓i_isTheme, ↓i_isBarge, i_lt, i_le, i_eq, i_clamp, i_upd, i_m1, Int32.toInt_toInt64, Int32.toInt_add, Int32.toInt_sub, Int32.toInt_mul, bm32, Int32.reduceToInt, Int64.reduceToInt, Nat.reduceLT, Nat.reduceEqDiff, reduceIte, true_or, or_true, true_and, and_true, false_or, or_false, not_true_eq_false, not_false_eq_true, eq_self] <;> omega))⟩) (by first | omega | (simp (disch := omega) only [↓i_in, ↓i_isCouple, ↓i_isBridge, ↓i_isTheme, ↓i_isBarge, i_lt, i_le, i_eq, i_clamp, i_upd, i_m1, Int32.toInt_toInt64, Int32.toInt_add, Int32.toInt_sub, Int32.toInt_mul, bm32, Int32.reduceToInt, Int64.reduceToInt, Nat.reduceLT, Nat.reduceEqDiff, reduceIte, true_or, or_true, true_and, and_true, false_or, or_false, not_true_eq_false, not_false_eq_true, eq_self] <;> omega))
      · skip
        try simp (disch := omega) only [↓i_in, ↓i_isCouple, ↓i_isBridge, ↓i_isTheme, ↓i_isBarge, i_lt, i_le, i_eq, i_clamp, i_upd, i_m1, Int32.toInt_toInt64, Int32.toInt_add, Int32.toInt_sub, Int32.toInt_mul, bm32, Int32.reduceToInt, Int64.reduceToInt, Nat.reduceLT, Nat.reduceEqDiff, reduceIte, true_or, or_true, true_and, and_true, false_or, or_false, not_true_eq_false, not_false_eq_true, eq_self] at c_9
        refine ⟨(s_takes i_1 (by first | omega | (simp (disch := omega) only [↓i_in, ↓i_isCouple, ↓i_isBridge, ↓i_isTheme, ↓i_isBarge, i_lt, i_le, i_eq, i_clamp, i_upd, i_m1, Int32.toInt_toInt64, Int32.toInt_add, Int32.toInt_sub, Int32.toInt_mul, bm32, Int32.reduceToInt, Int64.reduceToInt, Nat.reduceLT, Nat.reduceEqDiff, reduceIte, true_or, or_true, true_and, and_true, false_or, or_false, not_true_eq_false, not_false_eq_true, eq_self] <;> omega))), ?_⟩
        intro r_16 u_15 e_21
        have p_22 := p_takes i_1 (by first | omega | (simp (disch := omega) only [↓i_in, ↓i_isCouple, ↓i_isBridge, ↓i_isTheme, ↓i_isBarge, i_lt, i_le, i_eq, i_clamp, i_upd, i_m1, Int32.toInt_toInt64, Int32.toInt_add, Int32.toInt_sub, Int32.toInt_mul, bm32, Int32.reduceToInt, Int64.reduceToInt, Nat.reduceLT, Nat.reduceEqDiff, reduceIte, true_or, or_true, true_and, and_true, false_or, or_false, not_true_eq_false, not_false_eq_true, eq_self] <;> omega)) _ _ e_21.symm
        obtain ⟨i_23, i_24, i_25, i_26, i_27, i_28, i_29⟩ := p_22
        have i_23_g := i_23
        obtain ⟨⟨⟨i_23_2a, i_23_2b⟩, ⟨i_23_3a, i_23_3b⟩, ⟨i_23_4a, i_23_4b⟩, ⟨i_23_5a, i_23_5b⟩, ⟨i_23_6a, i_23_6b⟩, ⟨i_23_14a, i_23_14b⟩, ⟨i_23_42a, i_23_42b⟩⟩, ⟨i_23_15a, i_23_15b⟩, ⟨i_23_20a, i_23_20b⟩, ⟨i_23_21a, i_23_21b⟩, ⟨i_23_23a, i_23_23b⟩, ⟨i_23_24a, i_23_24b⟩⟩ := i_23_g
        refine ⟨fun c_30 => ?_, fun c_30 => ?_⟩
        · exact trivial
        · skip
          try simp (disch := omega) only [↓i_in, ↓i_isCouple, ↓i_isBridge, ↓i_isTheme, ↓i_isBarge, i_lt, i_le, i_eq, i_clamp, i_upd, i_m1, Int32.toInt_toInt64, Int32.toInt_add, Int32.toInt_sub, Int32.toInt_mul, bm32, Int32.reduceToInt, Int64.reduceToInt, Nat.reduceLT, Nat.reduceEqDiff, reduceIte, true_or, or_true, true_and, and_true, false_or, or_false, not_true_eq_false, not_false_eq_true, eq_self] at c_30
          refine ⟨(s_takesNumber i_23), ?_⟩
          intro r_20 u_19 e_31
          have p_32 := p_takesNumber i_23 _ _ e_31.symm
          obtain ⟨i_33, i_34, i_35, i_36, i_37, i_38, i_39, i_40⟩ := p_32
          have i_33_g := i_33
          obtain ⟨⟨⟨i_33_2a, i_33_2b⟩, ⟨i_33_3a, i_33_3b⟩, ⟨i_33_4a, i_33_4b⟩, ⟨i_33_5a, i_33_5b⟩, ⟨i_33_6a, i_33_6b⟩, ⟨i_33_14a, i_33_14b⟩, ⟨i_33_42a, i_33_42b⟩⟩, ⟨i_33_15a, i_33_15b⟩, ⟨i_33_20a, i_33_20b⟩, ⟨i_33_21a, i_33_21b⟩, ⟨i_33_23a, i_33_23b⟩, ⟨i_33_24a, i_33_24b⟩⟩ := i_33_g
          try simp (disch := omega) only [↓i_in, ↓i_isCouple, ↓i_isBridge, ↓i_isTheme, ↓i_isBarge, i_lt, i_le, i_eq, i_clamp, i_upd, i_m1, Int32.toInt_toInt64, Int32.toInt_add, Int32.toInt_sub, Int32.toInt_mul, bm32, Int32.reduceToInt, Int64.reduceToInt, Nat.reduceLT, Nat.reduceEqDiff, reduceIte, true_or, or_true, true_and, and_true, false_or, or_false, not_true_eq_false, not_false_eq_true, eq_self] at i_40
          refine ⟨fun c_41 => ?_, fun c_41 => ?_⟩
          · exact trivial
          · skip
            try simp (disch := omega) only [↓i_in, ↓i_isCouple, ↓i_isBridge, ↓i_isTheme, ↓i_isBarge, i_lt, i_le, i_eq, i_clamp, i_upd, i_m1, Int32.toInt_toInt64, Int32.toInt_add, Int32.toInt_sub, Int32.toInt_mul, bm32, Int32.reduceToInt, Int64.reduceToInt, Nat.reduceLT, Nat.reduceEqDiff, reduceIte, true_or, or_true, true_and, and_true, false_or, or_false, not_true_eq_false, not_false_eq_true, eq_self] at c_41
            refine ⟨vp_in_iff.mpr (by first | omega | (simp (disch := omega) only [↓i_in, ↓i_isCouple, ↓i_isBridge, ↓i_isTheme, ↓i_isBarge, i_lt, i_le, i_eq, i_clamp, i_upd, i_m1, Int32.toInt_toInt64, Int32.toInt_add, Int32.toInt_sub, Int32.toInt_mul, bm32, Int32.reduceToInt, Int64.reduceToInt, Nat.reduceLT, Nat.reduceEqDiff, reduceIte, true_or, or_true, true_and, and_true, false_or, or_false, not_true_eq_false, not_false_eq_true, eq_self] <;> omega)), ?_⟩
            exact ih (w_6l1 + 1) u_19 w_6m1 (upd w_6m2 (((5 * (u_19 23)) + w_6l1) : Int32).toNatClampNeg (u_19 17)) (⟨i_33, (by first | omega | (simp (disch := omega) only [↓i_in, ↓i_isCouple, ↓i_isBridge, ↓i_isTheme, ↓i_isBarge, i_lt, i_le, i_eq, i_clamp, i_upd, i_m1, Int32.toInt_toInt64, Int32.toInt_add, Int32.toInt_sub, Int32.toInt_mul, bm32, Int32.reduceToInt, Int64.reduceToInt, Nat.reduceLT, Nat.reduceEqDiff, reduceIte, true_or, or_true, true_and, and_true, false_or, or_false, not_true_eq_false, not_false_eq_true, eq_self] <;> omega)), (by first | omega | (simp (disch := omega) only [↓i_in, ↓i_isCouple, ↓i_isBridge, ↓i_isTheme, ↓i_isBarge, i_lt, i_le, i_eq, i_clamp, i_upd, i_m1, Int32.toInt_toInt64, Int32.toInt_add, Int32.toInt_sub, Int32.toInt_mul, bm32, Int32.reduceToInt, Int64.reduceToInt, Nat.reduceLT, Nat.reduceEqDiff, reduceIte, true_or, or_true, true_and, and_true, false_or, or_false, not_true_eq_false, not_false_eq_true, eq_self] <;> omega)), (by first | omega | (simp (disch := omega) only [↓i_in, ↓i_isCouple, ↓i_isBridge, ↓i_isTheme, ↓i_isBarge, i_lt, i_le, i_eq, i_clamp, i_upd, i_m1, Int32.toInt_toInt64, Int32.toInt_add, Int32.toInt_sub, Int32.toInt_mul, bm32, Int32.reduceToInt, Int64.reduceToInt, Nat.reduceLT, Nat.reduceEqDiff, reduceIte, true_or, or_true, true_and, and_true, false_or, or_false, not_true_eq_false, not_false_eq_true, eq_self] <;> omega)), (by first | omega | (simp (disch := omega) only [↓i_in, ↓i_isCouple, ↓i_isBridge, ↓i_isTheme, ↓i_isBarge, i_lt, i_le, i_eq, i_clamp, i_upd, i_m1, Int32.toInt_toInt64, Int32.toInt_add, Int32.toInt_sub, Int32.toInt_mul, bm32, Int32.reduceToInt, Int64.reduceToInt, Nat.reduceLT, Nat.reduceEqDiff, reduceIte, true_or, or_true, true_and, and_true, false_or, or_false, not_true_eq_false, not_false_eq_true, eq_self] <;> omega)), (by first | omega | (simp (disch := omega) only [↓i_in, ↓i_isCouple, ↓i_isBridge, ↓i_isTheme, ↓i_isBarge, i_lt, i_le, i_eq, i_clamp, i_upd, i_m1, Int32.toInt_toInt64, Int32.toInt_add, Int32.toInt_sub, Int32.toInt_mul, bm32, Int32.reduceToInt, Int64.reduceToInt, Nat.reduceLT, Nat.reduceEqDiff, reduceIte, true_or, or_true, true_and, and_true, false_or, or_false, not_true_eq_false, not_false_eq_true, eq_self] <;> omega)), (by first | omega | (simp (disch := omega) only [↓i_in, ↓i_isCouple, ↓i_isBridge, ↓i_isTheme, ↓i_isBarge, i_lt, i_le, i_eq, i_clamp, i_upd, i_m1, Int32.toInt_toInt64, Int32.toInt_add, Int32.toInt_sub, Int32.toInt_mul, bm32, Int32.reduceToInt, Int64.reduceToInt, Nat.reduceLT, Nat.reduceEqDiff, reduceIte, true_or, or_true, true_and, and_true, false_or, or_false, not_true_eq_false, not_false_eq_true, eq_self] <;> omega))⟩) (by first | omega | (simp (disch := omega) only [↓i_in, ↓i_isCouple, ↓i_isBridge, ↓i_isTheme, ↓i_isBarge, i_lt, i_le, i_eq, i_clamp, i_upd, i_m1, Int32.toInt_toInt64, Int32.toInt_add, Int32.toInt_sub, Int32.toInt_mul, bm32, Int32.reduceToInt, Int64.reduceToInt, Nat.reduceLT, Nat.reduceEqDiff, reduceIte, true_or, or_true, true_and, and_true, false_or, or_false, not_true_eq_false, not_false_eq_true, eq_self] <;> omega))
set_option maxHeartbeats 4000000 in
theorem pl_takesCouple_27 {G : Nat → Int32} {f13 : Nat → Int32} : ∀ (n : Nat) w_6l1 w_6m0 w_6m1 w_6m2, (PI w_6m0 ∧ ((G 15).toInt ≤ (w_6m0 15).toInt) ∧ ((w_6m0 14).toInt = (G 14).toInt) ∧ ((w_6m0 23).toInt < 6) ∧ ((w_6m0 21).toInt = (G 21).toInt) ∧ (0 ≤ w_6l1.toInt) ∧ (w_6l1.toInt ≤ 5)) → ∀ r0 r1 r2 r3, f_m_takesCouple_27 f13 n w_6l1 w_6m0 w_6m1 w_6m2 = Sum.inl (r0, r1, r2, r3) → PI r1 ∧ ((G 15).toInt ≤ (r1 15).toInt) ∧ ((r1 14).toInt = (G 14).toInt) ∧ ((r1 23).toInt < 6) ∧ ((r1 21).toInt = (G 21).toInt) ∧ (0 ≤ r0.toInt) ∧ (r0.toInt ≤ 5) := by
  intro n
  induction n with
  | zero =>
    intro w_6l1 w_6m0 w_6m1 w_6m2 hI r0 r1 r2 r3 e
    replace e : Sum.inl (w_6l1, w_6m0, w_6m1, w_6m2) = Sum.inl (r0, r1, r2, r3) := e
    cases e
    exact hI
  | succ n ih =>
    intro w_6l1 w_6m0 w_6m1 w_6m2 hI r0 r1 r2 r3 e
    rw [f_m_takesCouple_27_s] at e
    have hI0 := hI
    obtain ⟨i_1, i_2, i_3, i_4, i_5, i_6, i_7⟩ := hI0
    have i_1_g := i_1
    obtain ⟨⟨⟨i_1_2a, i_1_2b⟩, ⟨i_1_3a, i_1_3b⟩, ⟨i_1_4a, i_1_4b⟩, ⟨i_1_5a, i_1_5b⟩, ⟨i_1_6a, i_1_6b⟩, ⟨i_1_14a, i_1_14b⟩, ⟨i_1_42a, i_1_42b⟩⟩, ⟨i_1_15a, i_1_15b⟩, ⟨i_1_20a, i_1_20b⟩, ⟨i_1_21a, i_1_21b⟩, ⟨i_1_23a, i_1_23b⟩, ⟨i_1_24a, i_1_24b⟩⟩ := i_1_g
    by_cases c_8 : (w_6m0 21) ≤ w_6l1
    · rw [if_pos c_8] at e
      try simp (disch := omega) only [↓i_in, ↓i_isCouple, ↓i_isBridge, ↓i_isTheme, ↓i_isBarge, i_lt, i_le, i_eq, i_clamp, i_upd, i_m1, Int32.toInt_toInt64, Int32.toInt_add, Int32.toInt_sub, Int32.toInt_mul, bm32, Int32.reduceToInt, Int64.reduceToInt, Nat.reduceLT, Nat.reduceEqDiff, reduceIte, true_or, or_true, true_and, and_true, false_or, or_false, not_true_eq_false, not_false_eq_true, eq_self] at c_8
      cases e
      exact hI
    · rw [if_neg c_8] at e
      try simp (disch := omega) only [↓i_in, ↓i_isCouple, ↓i_isBridge, ↓i_isTheme, ↓i_isBarge, i_lt, i_le, i_eq, i_clamp, i_upd, i_m1, Int32.toInt_toInt64, Int32.toInt_add, Int32.toInt_sub, Int32.toInt_mul, bm32, Int32.reduceToInt, Int64.reduceToInt, Nat.reduceLT, Nat.reduceEqDiff, reduceIte, true_or, or_true, true_and, and_true, false_or, or_false, not_true_eq_false, not_false_eq_true, eq_self] at c_8
      by_cases c_9 : w_6l1 ≤ 0
      · rw [if_pos c_9] at e
        try simp (disch := omega) only [↓i_in, ↓i_isCouple, ↓i_isBridge, ↓i_isTheme, ↓i_isBarge, i_lt, i_le, i_eq, i_clamp, i_upd, i_m1, Int32.toInt_toInt64, Int32.toInt_add, Int32.toInt_sub, Int32.toInt_mul, bm32, Int32.reduceToInt, Int64.reduceToInt, Nat.reduceLT, Nat.reduceEqDiff, reduceIte, true_or, or_true, true_and, and_true, false_or, or_false, not_true_eq_false, not_false_eq_true, eq_self] at c_9
        generalize x_10 : (f_m_takesNumber w_6m0 f13 0 9) = z_11 at e
        obtain ⟨r_11, u_10⟩ := z_11
        replace e : ((if r_11 = 0 then (Sum.inr (0, u_10, w_6m1, w_6m2)) else (f_m_takesCouple_27 f13 n (w_6l1 + 1) u_10 w_6m1 (upd w_6m2 (((5 * (u_10 23)) + w_6l1) : Int32).toNatClampNeg (u_10 17)))) : (Int32 × (Nat → Int32) × (Nat → Int32) × (Nat → Int32)) ⊕ (Int32 × (Nat → Int32) × (Nat → Int32) × (Nat → Int32))) = Sum.inl (r0, r1, r2, r3) := e
        have p_12 := p_takesNumber i_1 _ _ x_10
        obtain ⟨i_13, i_14, i_15, i_16, i_17, i_18, i_19, i_20⟩ := p_12
        have i_13_g := i_13
        obtain ⟨⟨⟨i_13_2a, i_13_2b⟩, ⟨i_13_3a, i_13_3b⟩, ⟨i_13_4a, i_13_4b⟩, ⟨i_13_5a, i_13_5b⟩, ⟨i_13_6a, i_13_6b⟩, ⟨i_13_14a, i_13_14b⟩, ⟨i_13_42a, i_13_42b⟩⟩, ⟨i_13_15a, i_13_15b⟩, ⟨i_13_20a, i_13_20b⟩, ⟨i_13_21a, i_13_21b⟩, ⟨i_13_23a, i_13_23b⟩, ⟨i_13_24a, i_13_24b⟩⟩ := i_13_g
        try simp (disch := omega) only [↓i_in, ↓i_isCouple, ↓i_isBridge, ↓i_isTheme, ↓i_isBarge, i_lt, i_le, i_eq, i_clamp, i_upd, i_m1, Int32.toInt_toInt64, Int32.toInt_add, Int32.toInt_sub, Int32.toInt_mul, bm32, Int32.reduceToInt, Int64.reduceToInt, Nat.reduceLT, Nat.reduceEqDiff, reduceIte, true_or, or_true, true_and, and_true, false_or, or_false, not_true_eq_false, not_false_eq_true, eq_self] at i_20
        by_cases c_21 : r_11 = 0
        · rw [if_pos c_21] at e
          try simp (disch := omega) only [↓i_in, ↓i_isCouple, ↓i_isBridge, ↓i_isTheme, ↓i_isBarge, i_lt, i_le, i_eq, i_clamp, i_upd, i_m1, Int32.toInt_toInt64, Int32.toInt_add, Int32.toInt_sub, Int32.toInt_mul, bm32, Int32.reduceToInt, Int64.reduceToInt, Nat.reduceLT, Nat.reduceEqDiff, reduceIte, true_or, or_true, true_and, and_true, false_or, or_false, not_true_eq_false, not_false_eq_true, eq_self] at c_21
          cases e
        · rw [if_neg c_21] at e
          try simp (disch := omega) only [↓i_in, ↓i_isCouple, ↓i_isBridge, ↓i_isTheme, ↓i_isBarge, i_lt, i_le, i_eq, i_clamp, i_upd, i_m1, Int32.toInt_toInt64, Int32.toInt_add, Int32.toInt_sub, Int32.toInt_mul, bm32, Int32.reduceToInt, Int64.reduceToInt, Nat.reduceLT, Nat.reduceEqDiff, reduceIte, true_or, or_true, true_and, and_true, false_or, or_false, not_true_eq_false, not_false_eq_true, eq_self] at c_21
          exact ih (w_6l1 + 1) u_10 w_6m1 (upd w_6m2 (((5 * (u_10 23)) + w_6l1) : Int32).toNatClampNeg (u_10 17)) (⟨i_13, (by first | omega | (simp (disch := omega) only [↓i_in, ↓i_isCouple, ↓i_isBridge, ↓i_isTheme, ↓i_isBarge, i_lt, i_le, i_eq, i_clamp, i_upd, i_m1, Int32.toInt_toInt64, Int32.toInt_add, Int32.toInt_sub, Int32.toInt_mul, bm32, Int32.reduceToInt, Int64.reduceToInt, Nat.reduceLT, Nat.reduceEqDiff, reduceIte, true_or, or_true, true_and, and_true, false_or, or_false, not_true_eq_false, not_false_eq_true, eq_self] <;> omega)), (by first | omega | (simp (disch := omega) only [↓i_in, ↓i_isCouple, ↓i_isBridge, ↓i_isTheme, ↓i_isBarge, i_lt, i_le, i_eq, i_clamp, i_upd, i_m1, Int32.toInt_toInt64, Int32.toInt_add, Int32.toInt_sub, Int32.toInt_mul, bm32, Int32.reduceToInt, Int64.reduceToInt, Nat.reduceLT, Nat.reduceEqDiff, reduceIte, true_or, or_true, true_and, and_true, false_or, or_false, not_true_eq_false, not_false_eq_true, eq_self] <;> omega)), (by first | omega | (simp (disch := omega) only [↓i_in, ↓i_isCouple, ↓i_isBridge, ↓i_isTheme, ↓i_isBarge, i_lt, i_le, i_eq, i_clamp, i_upd, i_m1, Int32.toInt_toInt64, Int32.toInt_add, Int32.toInt_sub, Int32.toInt_mul, bm32, Int32.reduceToInt, Int64.reduceToInt, Nat.reduceLT, Nat.reduceEqDiff, reduceIte, true_or, or_true, true_and, and_true, false_or, or_false, not_true_eq_false, not_false_eq_true, eq_self] <;> omega)), (by first | omega | (simp (disch := omega) only [↓i_in, ↓i_isCouple, ↓i_isBridge, ↓i_isTheme, ↓i_isBarge, i_lt, i_le, i_eq, i_clamp, i_upd, i_m1, Int32.toInt_toInt64, Int32.toInt_add, Int32.toInt_sub, Int32.toInt_mul, bm32, Int32.reduceToInt, Int64.reduceToInt, Nat.reduceLT, Nat.reduceEqDiff, reduceIte, true_or, or_true, true_and, and_true, false_or, or_false, not_true_eq_false, not_false_eq_true, eq_self] <;> omega)), (by first | omega | (simp (disch := omega) only [↓i_in, ↓i_isCouple, ↓i_isBridge, ↓i_isTheme, ↓i_isBarge, i_lt, i_le, i_eq, i_clamp, i_upd, i_m1, Int32.toInt_toInt64, Int32.toInt_add, Int32.toInt_sub, Int32.toInt_mul, bm32, Int32.reduceToInt, Int64.reduceToInt, Nat.reduceLT, Nat.reduceEqDiff, reduceIte, true_or, or_true, true_and, and_true, false_or, or_false, not_true_eq_false, not_false_eq_true, eq_self] <;> omega)), (by first | omega | (simp (disch := omega) only [↓i_in, ↓i_isCouple, ↓i_isBridge, ↓i_isTheme, ↓i_isBarge, i_lt, i_le, i_eq, i_clamp, i_upd, i_m1, Int32.toInt_toInt64, Int32.toInt_add, Int32.toInt_sub, Int32.toInt_mul, bm32, Int32.reduceToInt, Int64.reduceToInt, Nat.reduceLT, Nat.reduceEqDiff, reduceIte, true_or, or_true, true_and, and_true, false_or, or_false, not_true_eq_false, not_false_eq_true, eq_self] <;> omega))⟩) _ _ _ _ e
      · rw [if_neg c_9] at e
        try simp (disch := omega) only [↓i_in, ↓i_isCouple, ↓i_isBridge, ↓i_isTheme, ↓i_isBarge, i_lt, i_le, i_eq, i_clamp, i_upd, i_m1, Int32.toInt_toInt64, Int32.toInt_add, Int32.toInt_sub, Int32.toInt_mul, bm32, Int32.reduceToInt, Int64.reduceToInt, Nat.reduceLT, Nat.reduceEqDiff, reduceIte, true_or, or_true, true_and, and_true, false_or, or_false, not_true_eq_false, not_false_eq_true, eq_self] at c_9
        generalize x_22 : (f_m_takes w_6m0 f13 44) = z_23 at e
        obtain ⟨r_16, u_15⟩ := z_23
        replace e : ((if r_16 = 0 then (Sum.inr (0, u_15, w_6m1, w_6m2)) else (match (f_m_takesNumber u_15 f13 0 9) with | (r_20, u_19) => (if r_20 = 0 then (Sum.inr (0, u_19, w_6m1, w_6m2)) else (f_m_takesCouple_27 f13 n (w_6l1 + 1) u_19 w_6m1 (upd w_6m2 (((5 * (u_19 23)) + w_6l1) : Int32).toNatClampNeg (u_19 17)))))) : (Int32 × (Nat → Int32) × (Nat → Int32) × (Nat → Int32)) ⊕ (Int32 × (Nat → Int32) × (Nat → Int32) × (Nat → Int32))) = Sum.inl (r0, r1, r2, r3) := e
        have p_24 := p_takes i_1 (by first | omega | (simp (disch := omega) only [↓i_in, ↓i_isCouple, ↓i_isBridge, ↓i_isTheme, ↓i_isBarge, i_lt, i_le, i_eq, i_clamp, i_upd, i_m1, Int32.toInt_toInt64, Int32.toInt_add, Int32.toInt_sub, Int32.toInt_mul, bm32, Int32.reduceToInt, Int64.reduceToInt, Nat.reduceLT, Nat.reduceEqDiff, reduceIte, true_or, or_true, true_and, and_true, false_or, or_false, not_true_eq_false, not_false_eq_true, eq_self] <;> omega)) _ _ x_22
        obtain ⟨i_25, i_26, i_27, i_28, i_29, i_30, i_31⟩ := p_24
        have i_25_g := i_25
        obtain ⟨⟨⟨i_25_2a, i_25_2b⟩, ⟨i_25_3a, i_25_3b⟩, ⟨i_25_4a, i_25_4b⟩, ⟨i_25_5a, i_25_5b⟩, ⟨i_25_6a, i_25_6b⟩, ⟨i_25_14a, i_25_14b⟩, ⟨i_25_42a, i_25_42b⟩⟩, ⟨i_25_15a, i_25_15b⟩, ⟨i_25_20a, i_25_20b⟩, ⟨i_25_21a, i_25_21b⟩, ⟨i_25_23a, i_25_23b⟩, ⟨i_25_24a, i_25_24b⟩⟩ := i_25_g
        by_cases c_32 : r_16 = 0
        · rw [if_pos c_32] at e
          try simp (disch := omega) only [↓i_in, ↓i_isCouple, ↓i_isBridge, ↓i_isTheme, ↓i_isBarge, i_lt, i_le, i_eq, i_clamp, i_upd, i_m1, Int32.toInt_toInt64, Int32.toInt_add, Int32.toInt_sub, Int32.toInt_mul, bm32, Int32.reduceToInt, Int64.reduceToInt, Nat.reduceLT, Nat.reduceEqDiff, reduceIte, true_or, or_true, true_and, and_true, false_or, or_false, not_true_eq_false, not_false_eq_true, eq_self] at c_32
          cases e
        · rw [if_neg c_32] at e
          try simp (disch := omega) only [↓i_in, ↓i_isCouple, ↓i_isBridge, ↓i_isTheme, ↓i_isBarge, i_lt, i_le, i_eq, i_clamp, i_upd, i_m1, Int32.toInt_toInt64, Int32.toInt_add, Int32.toInt_sub, Int32.toInt_mul, bm32, Int32.reduceToInt, Int64.reduceToInt, Nat.reduceLT, Nat.reduceEqDiff, reduceIte, true_or, or_true, true_and, and_true, false_or, or_false, not_true_eq_false, not_false_eq_true, eq_self] at c_32
          generalize x_33 : (f_m_takesNumber u_15 f13 0 9) = z_34 at e
          obtain ⟨r_20, u_19⟩ := z_34
          replace e : ((if r_20 = 0 then (Sum.inr (0, u_19, w_6m1, w_6m2)) else (f_m_takesCouple_27 f13 n (w_6l1 + 1) u_19 w_6m1 (upd w_6m2 (((5 * (u_19 23)) + w_6l1) : Int32).toNatClampNeg (u_19 17)))) : (Int32 × (Nat → Int32) × (Nat → Int32) × (Nat → Int32)) ⊕ (Int32 × (Nat → Int32) × (Nat → Int32) × (Nat → Int32))) = Sum.inl (r0, r1, r2, r3) := e
          have p_35 := p_takesNumber i_25 _ _ x_33
          obtain ⟨i_36, i_37, i_38, i_39, i_40, i_41, i_42, i_43⟩ := p_35
          have i_36_g := i_36
          obtain ⟨⟨⟨i_36_2a, i_36_2b⟩, ⟨i_36_3a, i_36_3b⟩, ⟨i_36_4a, i_36_4b⟩, ⟨i_36_5a, i_36_5b⟩, ⟨i_36_6a, i_36_6b⟩, ⟨i_36_14a, i_36_14b⟩, ⟨i_36_42a, i_36_42b⟩⟩, ⟨i_36_15a, i_36_15b⟩, ⟨i_36_20a, i_36_20b⟩, ⟨i_36_21a, i_36_21b⟩, ⟨i_36_23a, i_36_23b⟩, ⟨i_36_24a, i_36_24b⟩⟩ := i_36_g
          try simp (disch := omega) only [↓i_in, ↓i_isCouple, ↓i_isBridge, ↓i_isTheme, ↓i_isBarge, i_lt, i_le, i_eq, i_clamp, i_upd, i_m1, Int32.toInt_toInt64, Int32.toInt_add, Int32.toInt_sub, Int32.toInt_mul, bm32, Int32.reduceToInt, Int64.reduceToInt, Nat.reduceLT, Nat.reduceEqDiff, reduceIte, true_or, or_true, true_and, and_true, false_or, or_false, not_true_eq_false, not_false_eq_true, eq_self] at i_43
          by_cases c_44 : r_20 = 0
          · rw [if_pos c_44] at e
            try simp (disch := omega) only [↓i_in, ↓i_isCouple, ↓i_isBridge, ↓i_isTheme, ↓i_isBarge, i_lt, i_le, i_eq, i_clamp, i_upd, i_m1, Int32.toInt_toInt64, Int32.toInt_add, Int32.toInt_sub, Int32.toInt_mul, bm32, Int32.reduceToInt, Int64.reduceToInt, Nat.reduceLT, Nat.reduceEqDiff, reduceIte, true_or, or_true, true_and, and_true, false_or, or_false, not_true_eq_false, not_false_eq_true, eq_self] at c_44
            cases e
          · rw [if_neg c_44] at e
            try simp (disch := omega) only [↓i_in, ↓i_isCouple, ↓i_isBridge, ↓i_isTheme, ↓i_isBarge, i_lt, i_le, i_eq, i_clamp, i_upd, i_m1, Int32.toInt_toInt64, Int32.toInt_add, Int32.toInt_sub, Int32.toInt_mul, bm32, Int32.reduceToInt, Int64.reduceToInt, Nat.reduceLT, Nat.reduceEqDiff, reduceIte, true_or, or_true, true_and, and_true, false_or, or_false, not_true_eq_false, not_false_eq_true, eq_self] at c_44
            exact ih (w_6l1 + 1) u_19 w_6m1 (upd w_6m2 (((5 * (u_19 23)) + w_6l1) : Int32).toNatClampNeg (u_19 17)) (⟨i_36, (by first | omega | (simp (disch := omega) only [↓i_in, ↓i_isCouple, ↓i_isBridge, ↓i_isTheme, ↓i_isBarge, i_lt, i_le, i_eq, i_clamp, i_upd, i_m1, Int32.toInt_toInt64, Int32.toInt_add, Int32.toInt_sub, Int32.toInt_mul, bm32, Int32.reduceToInt, Int64.reduceToInt, Nat.reduceLT, Nat.reduceEqDiff, reduceIte, true_or, or_true, true_and, and_true, false_or, or_false, not_true_eq_false, not_false_eq_true, eq_self] <;> omega)), (by first | omega | (simp (disch := omega) only [↓i_in, ↓i_isCouple, ↓i_isBridge, ↓i_isTheme, ↓i_isBarge, i_lt, i_le, i_eq, i_clamp, i_upd, i_m1, Int32.toInt_toInt64, Int32.toInt_add, Int32.toInt_sub, Int32.toInt_mul, bm32, Int32.reduceToInt, Int64.reduceToInt, Nat.reduceLT, Nat.reduceEqDiff, reduceIte, true_or, or_true, true_and, and_true, false_or, or_false, not_true_eq_false, not_false_eq_true, eq_self] <;> omega)), (by first | omega | (simp (disch := omega) only [↓i_in, ↓i_isCouple, ↓i_isBridge, ↓i_isTheme, ↓i_isBarge, i_lt, i_le, i_eq, i_clamp, i_upd, i_m1, Int32.toInt_toInt64, Int32.toInt_add, Int32.toInt_sub, Int32.toInt_mul, bm32, Int32.reduceToInt, Int64.reduceToInt, Nat.reduceLT, Nat.reduceEqDiff, reduceIte, true_or, or_true, true_and, and_true, false_or, or_false, not_true_eq_false, not_false_eq_true, eq_self] <;> omega)), (by first | omega | (simp (disch := omega) only [↓i_in, ↓i_isCouple, ↓i_isBridge, ↓i_isTheme, ↓i_isBarge, i_lt, i_le, i_eq, i_clamp, i_upd, i_m1, Int32.toInt_toInt64, Int32.toInt_add, Int32.toInt_sub, Int32.toInt_mul, bm32, Int32.reduceToInt, Int64.reduceToInt, Nat.reduceLT, Nat.reduceEqDiff, reduceIte, true_or, or_true, true_and, and_true, false_or, or_false, not_true_eq_false, not_false_eq_true, eq_self] <;> omega)), (by first | omega | (simp (disch := omega) only [↓i_in, ↓i_isCouple, ↓i_isBridge, ↓i_isTheme, ↓i_isBarge, i_lt, i_le, i_eq, i_clamp, i_upd, i_m1, Int32.toInt_toInt64, Int32.toInt_add, Int32.toInt_sub, Int32.toInt_mul, bm32, Int32.reduceToInt, Int64.reduceToInt, Nat.reduceLT, Nat.reduceEqDiff, reduceIte, true_or, or_true, true_and, and_true, false_or, or_false, not_true_eq_false, not_false_eq_true, eq_self] <;> omega)), (by first | omega | (simp (disch := omega) only [↓i_in, ↓i_isCouple, ↓i_isBridge, ↓i_isTheme, ↓i_isBarge, i_lt, i_le, i_eq, i_clamp, i_upd, i_m1, Int32.toInt_toInt64, Int32.toInt_add, Int32.toInt_sub, Int32.toInt_mul, bm32, Int32.reduceToInt, Int64.reduceToInt, Nat.reduceLT, Nat.reduceEqDiff, reduceIte, true_or, or_true, true_and, and_true, false_or, or_false, not_true_eq_false, not_false_eq_true, eq_self] <;> omega))⟩) _ _ _ _ e
set_option maxHeartbeats 4000000 in
theorem pr_takesCouple_27 {G : Nat → Int32} {f13 : Nat → Int32} : ∀ (n : Nat) w_6l1 w_6m0 w_6m1 w_6m2, (PI w_6m0 ∧ ((G 15).toInt ≤ (w_6m0 15).toInt) ∧ ((w_6m0 14).toInt = (G 14).toInt) ∧ ((w_6m0 23).toInt < 6) ∧ ((w_6m0 21).toInt = (G 21).toInt) ∧ (0 ≤ w_6l1.toInt) ∧ (w_6l1.toInt ≤ 5)) → ∀ r0 r1 r2 r3, f_m_takesCouple_27 f13 n w_6l1 w_6m0 w_6m1 w_6m2 = Sum.inr (r0, r1, r2, r3) → PI r1 ∧ ((G 15).toInt ≤ (r1 15).toInt) ∧ ((r1 14).toInt = (G 14).toInt) := by
  intro n
  induction n with
  | zero =>
    intro w_6l1 w_6m0 w_6m1 w_6m2 hI r0 r1 r2 r3 e
    replace e : Sum.inl (w_6l1, w_6m0, w_6m1, w_6m2) = Sum.inr (r0, r1, r2, r3) := e
    cases e
  | succ n ih =>
    intro w_6l1 w_6m0 w_6m1 w_6m2 hI r0 r1 r2 r3 e
    rw [f_m_takesCouple_27_s] at e
    have hI0 := hI
    obtain ⟨i_1, i_2, i_3, i_4, i_5, i_6, i_7⟩ := hI0
    have i_1_g := i_1
    obtain ⟨⟨⟨i_1_2a, i_1_2b⟩, ⟨i_1_3a, i_1_3b⟩, ⟨i_1_4a, i_1_4b⟩, ⟨i_1_5a, i_1_5b⟩, ⟨i_1_6a, i_1_6b⟩, ⟨i_1_14a, i_1_14b⟩, ⟨i_1_42a, i_1_42b⟩⟩, ⟨i_1_15a, i_1_15b⟩, ⟨i_1_20a, i_1_20b⟩, ⟨i_1_21a, i_1_21b⟩, ⟨i_1_23a, i_1_23b⟩, ⟨i_1_24a, i_1_24b⟩⟩ := i_1_g
    by_cases c_8 : (w_6m0 21) ≤ w_6l1
    · rw [if_pos c_8] at e
      try simp (disch := omega) only [↓i_in, ↓i_isCouple, ↓i_isBridge, ↓i_isTheme, ↓i_isBarge, i_lt, i_le, i_eq, i_clamp, i_upd, i_m1, Int32.toInt_toInt64, Int32.toInt_add, Int32.toInt_sub, Int32.toInt_mul, bm32, Int32.reduceToInt, Int64.reduceToInt, Nat.reduceLT, Nat.reduceEqDiff, reduceIte, true_or, or_true, true_and, and_true, false_or, or_false, not_true_eq_false, not_false_eq_true, eq_self] at c_8
      cases e
    · rw [if_neg c_8] at e
      try simp (disch := omega) only [↓i_in, ↓i_isCouple, ↓i_isBridge, ↓i_isTheme, ↓i_isBarge, i_lt, i_le, i_eq, i_clamp, i_upd, i_m1, Int32.toInt_toInt64, Int32.toInt_add, Int32.toInt_sub, Int32.toInt_mul, bm32, Int32.reduceToInt, Int64.reduceToInt, Nat.reduceLT, Nat.reduceEqDiff, reduceIte, true_or, or_true, true_and, and_true, false_or, or_false, not_true_eq_false, not_false_eq_true, eq_self] at c_8
      by_cases c_9 : w_6l1 ≤ 0
      · rw [if_pos c_9] at e
        try simp (disch := omega) only [↓i_in, ↓i_isCouple, ↓i_isBridge, ↓i_isTheme, ↓i_isBarge, i_lt, i_le, i_eq, i_clamp, i_upd, i_m1, Int32.toInt_toInt64, Int32.toInt_add, Int32.toInt_sub, Int32.toInt_mul, bm32, Int32.reduceToInt, Int64.reduceToInt, Nat.reduceLT, Nat.reduceEqDiff, reduceIte, true_or, or_true, true_and, and_true, false_or, or_false, not_true_eq_false, not_false_eq_true, eq_self] at c_9
        generalize x_10 : (f_m_takesNumber w_6m0 f13 0 9) = z_11 at e
        obtain ⟨r_11, u_10⟩ := z_11
        replace e : ((if r_11 = 0 then (Sum.inr (0, u_10, w_6m1, w_6m2)) else (f_m_takesCouple_27 f13 n (w_6l1 + 1) u_10 w_6m1 (upd w_6m2 (((5 * (u_10 23)) + w_6l1) : Int32).toNatClampNeg (u_10 17)))) : (Int32 × (Nat → Int32) × (Nat → Int32) × (Nat → Int32)) ⊕ (Int32 × (Nat → Int32) × (Nat → Int32) × (Nat → Int32))) = Sum.inr (r0, r1, r2, r3) := e
        have p_12 := p_takesNumber i_1 _ _ x_10
        obtain ⟨i_13, i_14, i_15, i_16, i_17, i_18, i_19, i_20⟩ := p_12
        have i_13_g := i_13
        obtain ⟨⟨⟨i_13_2a, i_13_2b⟩, ⟨i_13_3a, i_13_3b⟩, ⟨i_13_4a, i_13_4b⟩, ⟨i_13_5a, i_13_5b⟩, ⟨i_13_6a, i_13_6b⟩, ⟨i_13_14a, i_13_14b⟩, ⟨i_13_42a, i_13_42b⟩⟩, ⟨i_13_15a, i_13_15b⟩, ⟨i_13_20a, i_13_20b⟩, ⟨i_13_21a, i_13_21b⟩, ⟨i_13_23a, i_13_23b⟩, ⟨i_13_24a, i_13_24b⟩⟩ := i_13_g
        try simp (disch := omega) only [↓i_in, ↓i_isCouple, ↓i_isBridge, ↓i_isTheme, ↓i_isBarge, i_lt, i_le, i_eq, i_clamp, i_upd, i_m1, Int32.toInt_toInt64, Int32.toInt_add, Int32.toInt_sub, Int32.toInt_mul, bm32, Int32.reduceToInt, Int64.reduceToInt, Nat.reduceLT, Nat.reduceEqDiff, reduceIte, true_or, or_true, true_and, and_true, false_or, or_false, not_true_eq_false, not_false_eq_true, eq_self] at i_20
        by_cases c_21 : r_11 = 0
        · rw [if_pos c_21] at e
          try simp (disch := omega) only [↓i_in, ↓i_isCouple, ↓i_isBridge, ↓i_isTheme, ↓i_isBarge, i_lt, i_le, i_eq, i_clamp, i_upd, i_m1, Int32.toInt_toInt64, Int32.toInt_add, Int32.toInt_sub, Int32.toInt_mul, bm32, Int32.reduceToInt, Int64.reduceToInt, Nat.reduceLT, Nat.reduceEqDiff, reduceIte, true_or, or_true, true_and, and_true, false_or, or_false, not_true_eq_false, not_false_eq_true, eq_self] at c_21
          cases e
          exact ⟨i_13, (by first | omega | (simp (disch := omega) only [↓i_in, ↓i_isCouple, ↓i_isBridge, ↓i_isTheme, ↓i_isBarge, i_lt, i_le, i_eq, i_clamp, i_upd, i_m1, Int32.toInt_toInt64, Int32.toInt_add, Int32.toInt_sub, Int32.toInt_mul, bm32, Int32.reduceToInt, Int64.reduceToInt, Nat.reduceLT, Nat.reduceEqDiff, reduceIte, true_or, or_true, true_and, and_true, false_or, or_false, not_true_eq_false, not_false_eq_true, eq_self] <;> omega)), (by first | omega | (simp (disch := omega) only [↓i_in, ↓i_isCouple, ↓i_isBridge, ↓i_isTheme, ↓i_isBarge, i_lt, i_le, i_eq, i_clamp, i_upd, i_m1, Int32.toInt_toInt64, Int32.toInt_add, Int32.toInt_sub, Int32.toInt_mul, bm32, Int32.reduceToInt, Int64.reduceToInt, Nat.reduceLT, Nat.reduceEqDiff, reduceIte, true_or, or_true, true_and, and_true, false_or, or_false, not_true_eq_false, not_false_eq_true, eq_self] <;> omega))⟩
        · rw [if_neg c_21] at e
          try simp (disch := omega) only [↓i_in, ↓i_isCouple, ↓i_isBridge, ↓i_isTheme, ↓i_isBarge, i_lt, i_le, i_eq, i_clamp, i_upd, i_m1, Int32.toInt_toInt64, Int32.toInt_add, Int32.toInt_sub, Int32.toInt_mul, bm32, Int32.reduceToInt, Int64.reduceToInt, Nat.reduceLT, Nat.reduceEqDiff, reduceIte, true_or, or_true, true_and, and_true, false_or, or_false, not_true_eq_false, not_false_eq_true, eq_self] at c_21
          exact ih (w_6l1 + 1) u_10 w_6m1 (upd w_6m2 (((5 * (u_10 23)) + w_6l1) : Int32).toNatClampNeg (u_10 17)) (⟨i_13, (by first | omega | (simp (disch := omega) only [↓i_in, ↓i_isCouple, ↓i_isBridge, ↓i_isTheme, ↓i_isBarge, i_lt, i_le, i_eq, i_clamp, i_upd, i_m1, Int32.toInt_toInt64, Int32.toInt_add, Int32.toInt_sub, Int32.toInt_mul, bm32, Int32.reduceToInt, Int64.reduceToInt, Nat.reduceLT, Nat.reduceEqDiff, reduceIte, true_or, or_true, true_and, and_true, false_or, or_false, not_true_eq_false, not_false_eq_true, eq_self] <;> omega)), (by first | omega | (simp (disch := omega) only [↓i_in, ↓i_isCouple, ↓i_isBridge, ↓i_isTheme, ↓i_isBarge, i_lt, i_le, i_eq, i_clamp, i_upd, i_m1, Int32.toInt_toInt64, Int32.toInt_add, Int32.toInt_sub, Int32.toInt_mul, bm32, Int32.reduceToInt, Int64.reduceToInt, Nat.reduceLT, Nat.reduceEqDiff, reduceIte, true_or, or_true, true_and, and_true, false_or, or_false, not_true_eq_false, not_false_eq_true, eq_self] <;> omega)), (by first | omega | (simp (disch := omega) only [↓i_in, ↓i_isCouple, ↓i_isBridge, ↓i_isTheme, ↓i_isBarge, i_lt, i_le, i_eq, i_clamp, i_upd, i_m1, Int32.toInt_toInt64, Int32.toInt_add, Int32.toInt_sub, Int32.toInt_mul, bm32, Int32.reduceToInt, Int64.reduceToInt, Nat.reduceLT, Nat.reduceEqDiff, reduceIte, true_or, or_true, true_and, and_true, false_or, or_false, not_true_eq_false, not_false_eq_true, eq_self] <;> omega)), (by first | omega | (simp (disch := omega) only [↓i_in, ↓i_isCouple, ↓i_isBridge, ↓i_isTheme, ↓i_isBarge, i_lt, i_le, i_eq, i_clamp, i_upd, i_m1, Int32.toInt_toInt64, Int32.toInt_add, Int32.toInt_sub, Int32.toInt_mul, bm32, Int32.reduceToInt, Int64.reduceToInt, Nat.reduceLT, Nat.reduceEqDiff, reduceIte, true_or, or_true, true_and, and_true, false_or, or_false, not_true_eq_false, not_false_eq_true, eq_self] <;> omega)), (by first | omega | (simp (disch := omega) only [↓i_in, ↓i_isCouple, ↓i_isBridge, ↓i_isTheme, ↓i_isBarge, i_lt, i_le, i_eq, i_clamp, i_upd, i_m1, Int32.toInt_toInt64, Int32.toInt_add, Int32.toInt_sub, Int32.toInt_mul, bm32, Int32.reduceToInt, Int64.reduceToInt, Nat.reduceLT, Nat.reduceEqDiff, reduceIte, true_or, or_true, true_and, and_true, false_or, or_false, not_true_eq_false, not_false_eq_true, eq_self] <;> omega)), (by first | omega | (simp (disch := omega) only [↓i_in, ↓i_isCouple, ↓i_isBridge, ↓i_isTheme, ↓i_isBarge, i_lt, i_le, i_eq, i_clamp, i_upd, i_m1, Int32.toInt_toInt64, Int32.toInt_add, Int32.toInt_sub, Int32.toInt_mul, bm32, Int32.reduceToInt, Int64.reduceToInt, Nat.reduceLT, Nat.reduceEqDiff, reduceIte, true_or, or_true, true_and, and_true, false_or, or_false, not_true_eq_false, not_false_eq_true, eq_self] <;> omega))⟩) _ _ _ _ e
      · rw [if_neg c_9] at e
        try simp (disch := omega) only [↓i_in, ↓i_isCouple, ↓i_isBridge, ↓i_isTheme, ↓i_isBarge, i_lt, i_le, i_eq, i_clamp, i_upd, i_m1, Int32.toInt_toInt64, Int32.toInt_add, Int32.toInt_sub, Int32.toInt_mul, bm32, Int32.reduceToInt, Int64.reduceToInt, Nat.reduceLT, Nat.reduceEqDiff, reduceIte, true_or, or_true, true_and, and_true, false_or, or_false, not_true_eq_false, not_false_eq_true, eq_self] at c_9
        generalize x_22 : (f_m_takes w_6m0 f13 44) = z_23 at e
        obtain ⟨r_16, u_15⟩ := z_23
        replace e : ((if r_16 = 0 then (Sum.inr (0, u_15, w_6m1, w_6m2)) else (match (f_m_takesNumber u_15 f13 0 9) with | (r_20, u_19) => (if r_20 = 0 then (Sum.inr (0, u_19, w_6m1, w_6m2)) else (f_m_takesCouple_27 f13 n (w_6l1 + 1) u_19 w_6m1 (upd w_6m2 (((5 * (u_19 23)) + w_6l1) : Int32).toNatClampNeg (u_19 17)))))) : (Int32 × (Nat → Int32) × (Nat → Int32) × (Nat → Int32)) ⊕ (Int32 × (Nat → Int32) × (Nat → Int32) × (Nat → Int32))) = Sum.inr (r0, r1, r2, r3) := e
        have p_24 := p_takes i_1 (by first | omega | (simp (disch := omega) only [↓i_in, ↓i_isCouple, ↓i_isBridge, ↓i_isTheme, ↓i_isBarge, i_lt, i_le, i_eq, i_clamp, i_upd, i_m1, Int32.toInt_toInt64, Int32.toInt_add, Int32.toInt_sub, Int32.toInt_mul, bm32, Int32.reduceToInt, Int64.reduceToInt, Nat.reduceLT, Nat.reduceEqDiff, reduceIte, true_or, or_true, true_and, and_true, false_or, or_false, not_true_eq_false, not_false_eq_true, eq_self] <;> omega)) _ _ x_22
        obtain ⟨i_25, i_26, i_27, i_28, i_29, i_30, i_31⟩ := p_24
        have i_25_g := i_25
        obtain ⟨⟨⟨i_25_2a, i_25_2b⟩, ⟨i_25_3a, i_25_3b⟩, ⟨i_25_4a, i_25_4b⟩, ⟨i_25_5a, i_25_5b⟩, ⟨i_25_6a, i_25_6b⟩, ⟨i_25_14a, i_25_14b⟩, ⟨i_25_42a, i_25_42b⟩⟩, ⟨i_25_15a, i_25_15b⟩, ⟨i_25_20a, i_25_20b⟩, ⟨i_25_21a, i_25_21b⟩, ⟨i_25_23a, i_25_23b⟩, ⟨i_25_24a, i_25_24b⟩⟩ := i_25_g
        by_cases c_32 : r_16 = 0
        · rw [if_pos c_32] at e
          try simp (disch := omega) only [↓i_in, ↓i_isCouple, ↓i_isBridge, ↓i_isTheme, ↓i_isBarge, i_lt, i_le, i_eq, i_clamp, i_upd, i_m1, Int32.toInt_toInt64, Int32.toInt_add, Int32.toInt_sub, Int32.toInt_mul, bm32, Int32.reduceToInt, Int64.reduceToInt, Nat.reduceLT, Nat.reduceEqDiff, reduceIte, true_or, or_true, true_and, and_true, false_or, or_false, not_true_eq_false, not_false_eq_true, eq_self] at c_32
          cases e
          exact ⟨i_25, (by first | omega | (simp (disch := omega) only [↓i_in, ↓i_isCouple, ↓i_isBridge, ↓i_isTheme, ↓i_isBarge, i_lt, i_le, i_eq, i_clamp, i_upd, i_m1, Int32.toInt_toInt64, Int32.toInt_add, Int32.toInt_sub, Int32.toInt_mul, bm32, Int32.reduceToInt, Int64.reduceToInt, Nat.reduceLT, Nat.reduceEqDiff, reduceIte, true_or, or_true, true_and, and_true, false_or, or_false, not_true_eq_false, not_false_eq_true, eq_self] <;> omega)), (by first | omega | (simp (disch := omega) only [↓i_in, ↓i_isCouple, ↓i_isBridge, ↓i_isTheme, ↓i_isBarge, i_lt, i_le, i_eq, i_clamp, i_upd, i_m1, Int32.toInt_toInt64, Int32.toInt_add, Int32.toInt_sub, Int32.toInt_mul, bm32, Int32.reduceToInt, Int64.reduceToInt, Nat.reduceLT, Nat.reduceEqDiff, reduceIte, true_or, or_true, true_and, and_true, false_or, or_false, not_true_eq_false, not_false_eq_true, eq_self] <;> omega))⟩
        · rw [if_neg c_32] at e
          try simp (disch := omega) only [↓i_in, ↓i_isCouple, ↓i_isBridge, ↓i_isTheme, ↓i_isBarge, i_lt, i_le, i_eq, i_clamp, i_upd, i_m1, Int32.toInt_toInt64, Int32.toInt_add, Int32.toInt_sub, Int32.toInt_mul, bm32, Int32.reduceToInt, Int64.reduceToInt, Nat.reduceLT, Nat.reduceEqDiff, reduceIte, true_or, or_true, true_and, and_true, false_or, or_false, not_true_eq_false, not_false_eq_true, eq_self] at c_32
          generalize x_33 : (f_m_takesNumber u_15 f13 0 9) = z_34 at e
          obtain ⟨r_20, u_19⟩ := z_34
          replace e : ((if r_20 = 0 then (Sum.inr (0, u_19, w_6m1, w_6m2)) else (f_m_takesCouple_27 f13 n (w_6l1 + 1) u_19 w_6m1 (upd w_6m2 (((5 * (u_19 23)) + w_6l1) : Int32).toNatClampNeg (u_19 17)))) : (Int32 × (Nat → Int32) × (Nat → Int32) × (Nat → Int32)) ⊕ (Int32 × (Nat → Int32) × (Nat → Int32) × (Nat → Int32))) = Sum.inr (r0, r1, r2, r3) := e
          have p_35 := p_takesNumber i_25 _ _ x_33
          obtain ⟨i_36, i_37, i_38, i_39, i_40, i_41, i_42, i_43⟩ := p_35
          have i_36_g := i_36
          obtain ⟨⟨⟨i_36_2a, i_36_2b⟩, ⟨i_36_3a, i_36_3b⟩, ⟨i_36_4a, i_36_4b⟩, ⟨i_36_5a, i_36_5b⟩, ⟨i_36_6a, i_36_6b⟩, ⟨i_36_14a, i_36_14b⟩, ⟨i_36_42a, i_36_42b⟩⟩, ⟨i_36_15a, i_36_15b⟩, ⟨i_36_20a, i_36_20b⟩, ⟨i_36_21a, i_36_21b⟩, ⟨i_36_23a, i_36_23b⟩, ⟨i_36_24a, i_36_24b⟩⟩ := i_36_g
          try simp (disch := omega) only [↓i_in, ↓i_isCouple, ↓i_isBridge, ↓i_isTheme, ↓i_isBarge, i_lt, i_le, i_eq, i_clamp, i_upd, i_m1, Int32.toInt_toInt64, Int32.toInt_add, Int32.toInt_sub, Int32.toInt_mul, bm32, Int32.reduceToInt, Int64.reduceToInt, Nat.reduceLT, Nat.reduceEqDiff, reduceIte, true_or, or_true, true_and, and_true, false_or, or_false, not_true_eq_false, not_false_eq_true, eq_self] at i_43
          by_cases c_44 : r_20 = 0
          · rw [if_pos c_44] at e
            try simp (disch := omega) only [↓i_in, ↓i_isCouple, ↓i_isBridge, ↓i_isTheme, ↓i_isBarge, i_lt, i_le, i_eq, i_clamp, i_upd, i_m1, Int32.toInt_toInt64, Int32.toInt_add, Int32.toInt_sub, Int32.toInt_mul, bm32, Int32.reduceToInt, Int64.reduceToInt, Nat.reduceLT, Nat.reduceEqDiff, reduceIte, true_or, or_true, true_and, and_true, false_or, or_false, not_true_eq_false, not_false_eq_true, eq_self] at c_44
            cases e
            exact ⟨i_36, (by first | omega | (simp (disch := omega) only [↓i_in, ↓i_isCouple, ↓i_isBridge, ↓i_isTheme, ↓i_isBarge, i_lt, i_le, i_eq, i_clamp, i_upd, i_m1, Int32.toInt_toInt64, Int32.toInt_add, Int32.toInt_sub, Int32.toInt_mul, bm32, Int32.reduceToInt, Int64.reduceToInt, Nat.reduceLT, Nat.reduceEqDiff, reduceIte, true_or, or_true, true_and, and_true, false_or, or_false, not_true_eq_false, not_false_eq_true, eq_self] <;> omega)), (by first | omega | (simp (disch := omega) only [↓i_in, ↓i_isCouple, ↓i_isBridge, ↓i_isTheme, ↓i_isBarge, i_lt, i_le, i_eq, i_clamp, i_upd, i_m1, Int32.toInt_toInt64, Int32.toInt_add, Int32.toInt_sub, Int32.toInt_mul, bm32, Int32.reduceToInt, Int64.reduceToInt, Nat.reduceLT, Nat.reduceEqDiff, reduceIte, true_or, or_true, true_and, and_true, false_or, or_false, not_true_eq_false, not_false_eq_true, eq_self] <;> omega))⟩
          · rw [if_neg c_44] at e
            try simp (disch := omega) only [↓i_in, ↓i_isCouple, ↓i_isBridge, ↓i_isTheme, ↓i_isBarge, i_lt, i_le, i_eq, i_clamp, i_upd, i_m1, Int32.toInt_toInt64, Int32.toInt_add, Int32.toInt_sub, Int32.toInt_mul, bm32, Int32.reduceToInt, Int64.reduceToInt, Nat.reduceLT, Nat.reduceEqDiff, reduceIte, true_or, or_true, true_and, and_true, false_or, or_false, not_true_eq_false, not_false_eq_true, eq_self] at c_44
            exact ih (w_6l1 + 1) u_19 w_6m1 (upd w_6m2 (((5 * (u_19 23)) + w_6l1) : Int32).toNatClampNeg (u_19 17)) (⟨i_36, (by first | omega | (simp (disch := omega) only [↓i_in, ↓i_isCouple, ↓i_isBridge, ↓i_isTheme, ↓i_isBarge, i_lt, i_le, i_eq, i_clamp, i_upd, i_m1, Int32.toInt_toInt64, Int32.toInt_add, Int32.toInt_sub, Int32.toInt_mul, bm32, Int32.reduceToInt, Int64.reduceToInt, Nat.reduceLT, Nat.reduceEqDiff, reduceIte, true_or, or_true, true_and, and_true, false_or, or_false, not_true_eq_false, not_false_eq_true, eq_self] <;> omega)), (by first | omega | (simp (disch := omega) only [↓i_in, ↓i_isCouple, ↓i_isBridge, ↓i_isTheme, ↓i_isBarge, i_lt, i_le, i_eq, i_clamp, i_upd, i_m1, Int32.toInt_toInt64, Int32.toInt_add, Int32.toInt_sub, Int32.toInt_mul, bm32, Int32.reduceToInt, Int64.reduceToInt, Nat.reduceLT, Nat.reduceEqDiff, reduceIte, true_or, or_true, true_and, and_true, false_or, or_false, not_true_eq_false, not_false_eq_true, eq_self] <;> omega)), (by first | omega | (simp (disch := omega) only [↓i_in, ↓i_isCouple, ↓i_isBridge, ↓i_isTheme, ↓i_isBarge, i_lt, i_le, i_eq, i_clamp, i_upd, i_m1, Int32.toInt_toInt64, Int32.toInt_add, Int32.toInt_sub, Int32.toInt_mul, bm32, Int32.reduceToInt, Int64.reduceToInt, Nat.reduceLT, Nat.reduceEqDiff, reduceIte, true_or, or_true, true_and, and_true, false_or, or_false, not_true_eq_false, not_false_eq_true, eq_self] <;> omega)), (by first | omega | (simp (disch := omega) only [↓i_in, ↓i_isCouple, ↓i_isBridge, ↓i_isTheme, ↓i_isBarge, i_lt, i_le, i_eq, i_clamp, i_upd, i_m1, Int32.toInt_toInt64, Int32.toInt_add, Int32.toInt_sub, Int32.toInt_mul, bm32, Int32.reduceToInt, Int64.reduceToInt, Nat.reduceLT, Nat.reduceEqDiff, reduceIte, true_or, or_true, true_and, and_true, false_or, or_false, not_true_eq_false, not_false_eq_true, eq_self] <;> omega)), (by first | omega | (simp (disch := omega) only [↓i_in, ↓i_isCouple, ↓i_isBridge, ↓i_isTheme, ↓i_isBarge, i_lt, i_le, i_eq, i_clamp, i_upd, i_m1, Int32.toInt_toInt64, Int32.toInt_add, Int32.toInt_sub, Int32.toInt_mul, bm32, Int32.reduceToInt, Int64.reduceToInt, Nat.reduceLT, Nat.reduceEqDiff, reduceIte, true_or, or_true, true_and, and_true, false_or, or_false, not_true_eq_false, not_false_eq_true, eq_self] <;> omega)), (by first | omega | (simp (disch := omega) only [↓i_in, ↓i_isCouple, ↓i_isBridge, ↓i_isTheme, ↓i_isBarge, i_lt, i_le, i_eq, i_clamp, i_upd, i_m1, Int32.toInt_toInt64, Int32.toInt_add, Int32.toInt_sub, Int32.toInt_mul, bm32, Int32.reduceToInt, Int64.reduceToInt, Nat.reduceLT, Nat.reduceEqDiff, reduceIte, true_or, or_true, true_and, and_true, false_or, or_false, not_true_eq_false, not_false_eq_true, eq_self] <;> omega))⟩) _ _ _ _ e
set_option maxHeartbeats 4000000 in
theorem s_takesCouple {G : Nat → Int32} {f13 : Nat → Int32} {f28 : Nat → Int32} {f29 : Nat → Int32} (h_0 : PI G) (h_1 : (G 23).toInt < 6) : S_m_takesCouple G f13 f28 f29 := by
  unfold S_m_takesCouple
  have h_0_g := h_0
  obtain ⟨⟨⟨h_0_2a, h_0_2b⟩, ⟨h_0_3a, h_0_3b⟩, ⟨h_0_4a, h_0_4b⟩, ⟨h_0_5a, h_0_5b⟩, ⟨h_0_6a, h_0_6b⟩, ⟨h_0_14a, h_0_14b⟩, ⟨h_0_42a, h_0_42b⟩⟩, ⟨h_0_15a, h_0_15b⟩, ⟨h_0_20a, h_0_20b⟩, ⟨h_0_21a, h_0_21b⟩, ⟨h_0_23a, h_0_23b⟩, ⟨h_0_24a, h_0_24b⟩⟩ := h_0_g
  refine ⟨(s_takesNumber h_0), ?_⟩
  intro r_3 u_2 e_1
  have p_2 := p_takesNumber h_0 _ _ e_1.symm
  obtain ⟨i_3, i_4, i_5, i_6, i_7, i_8, i_9, i_10⟩ := p_2
  have i_3_g := i_3
  obtain ⟨⟨⟨i_3_2a, i_3_2b⟩, ⟨i_3_3a, i_3_3b⟩, ⟨i_3_4a, i_3_4b⟩, ⟨i_3_5a, i_3_5b⟩, ⟨i_3_6a, i_3_6b⟩, ⟨i_3_14a, i_3_14b⟩, ⟨i_3_42a, i_3_42b⟩⟩, ⟨i_3_15a, i_3_15b⟩, ⟨i_3_20a, i_3_20b⟩, ⟨i_3_21a, i_3_21b⟩, ⟨i_3_23a, i_3_23b⟩, ⟨i_3_24a, i_3_24b⟩⟩ := i_3_g
  try simp (disch := omega) only [↓i_in, ↓i_isCouple, ↓i_isBridge, ↓i_isTheme, ↓i_isBarge, i_lt, i_le, i_eq, i_clamp, i_upd, i_m1, Int32.toInt_toInt64, Int32.toInt_add, Int32.toInt_sub, Int32.toInt_mul, bm32, Int32.reduceToInt, Int64.reduceToInt, Nat.reduceLT, Nat.reduceEqDiff, reduceIte, true_or, or_true, true_and, and_true, false_or, or_false, not_true_eq_false, not_false_eq_true, eq_self] at i_10
  refine ⟨fun c_11 => ?_, fun c_11 => ?_⟩
  · exact trivial
  · skip
    try simp (disch := omega) only [↓i_in, ↓i_isCouple, ↓i_isBridge, ↓i_isTheme, ↓i_isBarge, i_lt, i_le, i_eq, i_clamp, i_upd, i_m1, Int32.toInt_toInt64, Int32.toInt_add, Int32.toInt_sub, Int32.toInt_mul, bm32, Int32.reduceToInt, Int64.reduceToInt, Nat.reduceLT, Nat.reduceEqDiff, reduceIte, true_or, or_true, true_and, and_true, false_or, or_false, not_true_eq_false, not_false_eq_true, eq_self] at c_11
    refine ⟨vp_in_iff.mpr (by first | omega | (simp (disch := omega) only [↓i_in, ↓i_isCouple, ↓i_isBridge, ↓i_isTheme, ↓i_isBarge, i_lt, i_le, i_eq, i_clamp, i_upd, i_m1, Int32.toInt_toInt64, Int32.toInt_add, Int32.toInt_sub, Int32.toInt_mul, bm32, Int32.reduceToInt, Int64.reduceToInt, Nat.reduceLT, Nat.reduceEqDiff, reduceIte, true_or, or_true, true_and, and_true, false_or, or_false, not_true_eq_false, not_false_eq_true, eq_self] <;> omega)), ?_⟩
    refine sl_takesCouple_27 (G := u_2) ?_ 10 0 u_2 (upd f28 ((u_2 23) : Int32).toNatClampNeg (u_2 17)) f29 (⟨i_3, (by first | omega | (simp (disch := omega) only [↓i_in, ↓i_isCouple, ↓i_isBridge, ↓i_isTheme, ↓i_isBarge, i_lt, i_le, i_eq, i_clamp, i_upd, i_m1, Int32.toInt_toInt64, Int32.toInt_add, Int32.toInt_sub, Int32.toInt_mul, bm32, Int32.reduceToInt, Int64.reduceToInt, Nat.reduceLT, Nat.reduceEqDiff, reduceIte, true_or, or_true, true_and, and_true, false_or, or_false, not_true_eq_false, not_false_eq_true, eq_self] <;> omega)), (by first | omega | (simp (disch := omega) only [↓i_in, ↓i_isCouple, ↓i_isBridge, ↓i_isTheme, ↓i_isBarge, i_lt, i_le, i_eq, i_clamp, i_upd, i_m1, Int32.toInt_toInt64, Int32.toInt_add, Int32.toInt_sub, Int32.toInt_mul, bm32, Int32.reduceToInt, Int64.reduceToInt, Nat.reduceLT, Nat.reduceEqDiff, reduceIte, true_or, or_true, true_and, and_true, false_or, or_false, not_true_eq_false, not_false_eq_true, eq_self] <;> omega)), (by first | omega | (simp (disch := omega) only [↓i_in, ↓i_isCouple, ↓i_isBridge, ↓i_isTheme, ↓i_isBarge, i_lt, i_le, i_eq, i_clamp, i_upd, i_m1, Int32.toInt_toInt64, Int32.toInt_add, Int32.toInt_sub, Int32.toInt_mul, bm32, Int32.reduceToInt, Int64.reduceToInt, Nat.reduceLT, Nat.reduceEqDiff, reduceIte, true_or, or_true, true_and, and_true, false_or, or_false, not_true_eq_false, not_false_eq_true, eq_self] <;> omega)), (by first | omega | (simp (disch := omega) only [↓i_in, ↓i_isCouple, ↓i_isBridge, ↓i_isTheme, ↓i_isBarge, i_lt, i_le, i_eq, i_clamp, i_upd, i_m1, Int32.toInt_toInt64, Int32.toInt_add, Int32.toInt_sub, Int32.toInt_mul, bm32, Int32.reduceToInt, Int64.reduceToInt, Nat.reduceLT, Nat.reduceEqDiff, reduceIte, true_or, or_true, true_and, and_true, false_or, or_false, not_true_eq_false, not_false_eq_true, eq_self] <;> omega)), (by first | omega | (simp (disch := omega) only [↓i_in, ↓i_isCouple, ↓i_isBridge, ↓i_isTheme, ↓i_isBarge, i_lt, i_le, i_eq, i_clamp, i_upd, i_m1, Int32.toInt_toInt64, Int32.toInt_add, Int32.toInt_sub, Int32.toInt_mul, bm32, Int32.reduceToInt, Int64.reduceToInt, Nat.reduceLT, Nat.reduceEqDiff, reduceIte, true_or, or_true, true_and, and_true, false_or, or_false, not_true_eq_false, not_false_eq_true, eq_self] <;> omega)), (by first | omega | (simp (disch := omega) only [↓i_in, ↓i_isCouple, ↓i_isBridge, ↓i_isTheme, ↓i_isBarge, i_lt, i_le, i_eq, i_clamp, i_upd, i_m1, Int32.toInt_toInt64, Int32.toInt_add, Int32.toInt_sub, Int32.toInt_mul, bm32, Int32.reduceToInt, Int64.reduceToInt, Nat.reduceLT, Nat.reduceEqDiff, reduceIte, true_or, or_true, true_and, and_true, false_or, or_false, not_true_eq_false, not_false_eq_true, eq_self] <;> omega))⟩) (by first | omega | (simp (disch := omega) only [↓i_in, ↓i_isCouple, ↓i_isBridge, ↓i_isTheme, ↓i_isBarge, i_lt, i_le, i_eq, i_clamp, i_upd, i_m1, Int32.toInt_toInt64, Int32.toInt_add, Int32.toInt_sub, Int32.toInt_mul, bm32, Int32.reduceToInt, Int64.reduceToInt, Nat.reduceLT, Nat.reduceEqDiff, reduceIte, true_or, or_true, true_and, and_true, false_or, or_false, not_true_eq_false, not_false_eq_true, eq_self] <;> omega))
    intro w_6l1 w_6m0 w_6m1 w_6m2 i_12
    obtain ⟨i_13, i_14, i_15, i_16, i_17, i_18, i_19⟩ := i_12
    have i_13_g := i_13
    obtain ⟨⟨⟨i_13_2a, i_13_2b⟩, ⟨i_13_3a, i_13_3b⟩, ⟨i_13_4a, i_13_4b⟩, ⟨i_13_5a, i_13_5b⟩, ⟨i_13_6a, i_13_6b⟩, ⟨i_13_14a, i_13_14b⟩, ⟨i_13_42a, i_13_42b⟩⟩, ⟨i_13_15a, i_13_15b⟩, ⟨i_13_20a, i_13_20b⟩, ⟨i_13_21a, i_13_21b⟩, ⟨i_13_23a, i_13_23b⟩, ⟨i_13_24a, i_13_24b⟩⟩ := i_13_g
    exact trivial
set_option maxHeartbeats 4000000 in
theorem p_takesCouple {G : Nat → Int32} {f13 : Nat → Int32} {f28 : Nat → Int32} {f29 : Nat → Int32} (h_0 : PI G) (h_1 : (G 23).toInt < 6) : ∀ (r : Int32) (u : (Nat → Int32)) (v : (Nat → Int32)) (w : (Nat → Int32)), f_m_takesCouple G f13 f28 f29 = (r, u, v, w) → PI u ∧ ((G 15).toInt ≤ (u 15).toInt) ∧ ((u 14).toInt = (G 14).toInt) := by
  have h_0_g := h_0
  obtain ⟨⟨⟨h_0_2a, h_0_2b⟩, ⟨h_0_3a, h_0_3b⟩, ⟨h_0_4a, h_0_4b⟩, ⟨h_0_5a, h_0_5b⟩, ⟨h_0_6a, h_0_6b⟩, ⟨h_0_14a, h_0_14b⟩, ⟨h_0_42a, h_0_42b⟩⟩, ⟨h_0_15a, h_0_15b⟩, ⟨h_0_20a, h_0_20b⟩, ⟨h_0_21a, h_0_21b⟩, ⟨h_0_23a, h_0_23b⟩, ⟨h_0_24a, h_0_24b⟩⟩ := h_0_g
  intro r u v w e
  unfold f_m_takesCouple at e
  generalize x_1 : (f_m_takesNumber G f13 0 99) = z_2 at e
  obtain ⟨r_3, u_2⟩ := z_2
  replace e : ((if r_3 = 0 then (0, u_2, f28, f29) else (match ((f_m_takesCouple_27 f13 10 0 u_2 (upd f28 ((u_2 23) : Int32).toNatClampNeg (u_2 17)) f29) : (Int32 × (Nat → Int32) × (Nat → Int32) × (Nat → Int32)) ⊕ (Int32 × (Nat → Int32) × (Nat → Int32) × (Nat → Int32))) with | Sum.inl (w_6l1, w_6m0, w_6m1, w_6m2) => (1, (upd w_6m0 23 ((w_6m0 23) + 1)), w_6m1, w_6m2) | Sum.inr o => o)) : Int32 × (Nat → Int32) × (Nat → Int32) × (Nat → Int32)) = (r, u, v, w) := e
  have p_3 := p_takesNumber h_0 _ _ x_1
  obtain ⟨i_4, i_5, i_6, i_7, i_8, i_9, i_10, i_11⟩ := p_3
  have i_4_g := i_4
  obtain ⟨⟨⟨i_4_2a, i_4_2b⟩, ⟨i_4_3a, i_4_3b⟩, ⟨i_4_4a, i_4_4b⟩, ⟨i_4_5a, i_4_5b⟩, ⟨i_4_6a, i_4_6b⟩, ⟨i_4_14a, i_4_14b⟩, ⟨i_4_42a, i_4_42b⟩⟩, ⟨i_4_15a, i_4_15b⟩, ⟨i_4_20a, i_4_20b⟩, ⟨i_4_21a, i_4_21b⟩, ⟨i_4_23a, i_4_23b⟩, ⟨i_4_24a, i_4_24b⟩⟩ := i_4_g
  try simp (disch := omega) only [↓i_in, ↓i_isCouple, ↓i_isBridge, ↓i_isTheme, ↓i_isBarge, i_lt, i_le, i_eq, i_clamp, i_upd, i_m1, Int32.toInt_toInt64, Int32.toInt_add, Int32.toInt_sub, Int32.toInt_mul, bm32, Int32.reduceToInt, Int64.reduceToInt, Nat.reduceLT, Nat.reduceEqDiff, reduceIte, true_or, or_true, true_and, and_true, false_or, or_false, not_true_eq_false, not_false_eq_true, eq_self] at i_11
  by_cases c_12 : r_3 = 0
  · rw [if_pos c_12] at e
    try simp (disch := omega) only [↓i_in, ↓i_isCouple, ↓i_isBridge, ↓i_isTheme, ↓i_isBarge, i_lt, i_le, i_eq, i_clamp, i_upd, i_m1, Int32.toInt_toInt64, Int32.toInt_add, Int32.toInt_sub, Int32.toInt_mul, bm32, Int32.reduceToInt, Int64.reduceToInt, Nat.reduceLT, Nat.reduceEqDiff, reduceIte, true_or, or_true, true_and, and_true, false_or, or_false, not_true_eq_false, not_false_eq_true, eq_self] at c_12
    cases e
    exact ⟨i_4, (by first | omega | (simp (disch := omega) only [↓i_in, ↓i_isCouple, ↓i_isBridge, ↓i_isTheme, ↓i_isBarge, i_lt, i_le, i_eq, i_clamp, i_upd, i_m1, Int32.toInt_toInt64, Int32.toInt_add, Int32.toInt_sub, Int32.toInt_mul, bm32, Int32.reduceToInt, Int64.reduceToInt, Nat.reduceLT, Nat.reduceEqDiff, reduceIte, true_or, or_true, true_and, and_true, false_or, or_false, not_true_eq_false, not_false_eq_true, eq_self] <;> omega)), (by first | omega | (simp (disch := omega) only [↓i_in, ↓i_isCouple, ↓i_isBridge, ↓i_isTheme, ↓i_isBarge, i_lt, i_le, i_eq, i_clamp, i_upd, i_m1, Int32.toInt_toInt64, Int32.toInt_add, Int32.toInt_sub, Int32.toInt_mul, bm32, Int32.reduceToInt, Int64.reduceToInt, Nat.reduceLT, Nat.reduceEqDiff, reduceIte, true_or, or_true, true_and, and_true, false_or, or_false, not_true_eq_false, not_false_eq_true, eq_self] <;> omega))⟩
  · rw [if_neg c_12] at e
    try simp (disch := omega) only [↓i_in, ↓i_isCouple, ↓i_isBridge, ↓i_isTheme, ↓i_isBarge, i_lt, i_le, i_eq, i_clamp, i_upd, i_m1, Int32.toInt_toInt64, Int32.toInt_add, Int32.toInt_sub, Int32.toInt_mul, bm32, Int32.reduceToInt, Int64.reduceToInt, Nat.reduceLT, Nat.reduceEqDiff, reduceIte, true_or, or_true, true_and, and_true, false_or, or_false, not_true_eq_false, not_false_eq_true, eq_self] at c_12
    generalize x_13 : (f_m_takesCouple_27 f13 10 0 u_2 (upd f28 ((u_2 23) : Int32).toNatClampNeg (u_2 17)) f29) = z_14 at e
    cases z_14 with
    | inl p_ =>
      obtain ⟨w_6l1, w_6m0, w_6m1, w_6m2⟩ := p_
      replace e : ((1, (upd w_6m0 23 ((w_6m0 23) + 1)), w_6m1, w_6m2) : Int32 × (Nat → Int32) × (Nat → Int32) × (Nat → Int32)) = (r, u, v, w) := e
      have p_15 := pl_takesCouple_27 (G := u_2) 10 0 u_2 (upd f28 ((u_2 23) : Int32).toNatClampNeg (u_2 17)) f29 (⟨i_4, (by first | omega | (simp (disch := omega) only [↓i_in, ↓i_isCouple, ↓i_isBridge, ↓i_isTheme, ↓i_isBarge, i_lt, i_le, i_eq, i_clamp, i_upd, i_m1, Int32.toInt_toInt64, Int32.toInt_add, Int32.toInt_sub, Int32.toInt_mul, bm32, Int32.reduceToInt, Int64.reduceToInt, Nat.reduceLT, Nat.reduceEqDiff, reduceIte, true_or, or_true, true_and, and_true, false_or, or_false, not_true_eq_false, not_false_eq_true, eq_self] <;> omega)), (by first | omega | (simp (disch := omega) only [↓i_in, ↓i_isCouple, ↓i_isBridge, ↓i_isTheme, ↓i_isBarge, i_lt, i_le, i_eq, i_clamp, i_upd, i_m1, Int32.toInt_toInt64, Int32.toInt_add, Int32.toInt_sub, Int32.toInt_mul, bm32, Int32.reduceToInt, Int64.reduceToInt, Nat.reduceLT, Nat.reduceEqDiff, reduceIte, true_or, or_true, true_and, and_true, false_or, or_false, not_true_eq_false, not_false_eq_true, eq_self] <;> omega)), (by first | omega | (simp (disch := omega) only [↓i_in, ↓i_isCouple, ↓i_isBridge, ↓i_isTheme, ↓i_isBarge, i_lt, i_le, i_eq, i_clamp, i_upd, i_m1, Int32.toInt_toInt64, Int32.toInt_add, Int32.toInt_sub, Int32.toInt_mul, bm32, Int32.reduceToInt, Int64.reduceToInt, Nat.reduceLT, Nat.reduceEqDiff, reduceIte, true_or, or_true, true_and, and_true, false_or, or_false, not_true_eq_false, not_false_eq_true, eq_self] <;> omega)), (by first | omega | (simp (disch := omega) only [↓i_in, ↓i_isCouple, ↓i_isBridge, ↓i_isTheme, ↓i_isBarge, i_lt, i_le, i_eq, i_clamp, i_upd, i_m1, Int32.toInt_toInt64, Int32.toInt_add, Int32.toInt_sub, Int32.toInt_mul, bm32, Int32.reduceToInt, Int64.reduceToInt, Nat.reduceLT, Nat.reduceEqDiff, reduceIte, true_or, or_true, true_and, and_true, false_or, or_false, not_true_eq_false, not_false_eq_true, eq_self] <;> omega)), (by first | omega | (simp (disch := omega) only [↓i_in, ↓i_isCouple, ↓i_isBridge, ↓i_isTheme, ↓i_isBarge, i_lt, i_le, i_eq, i_clamp, i_upd, i_m1, Int32.toInt_toInt64, Int32.toInt_add, Int32.toInt_sub, Int32.toInt_mul, bm32, Int32.reduceToInt, Int64.reduceToInt, Nat.reduceLT, Nat.reduceEqDiff, reduceIte, true_or, or_true, true_and, and_true, false_or, or_false, not_true_eq_false, not_false_eq_true, eq_self] <;> omega)), (by first | omega | (simp (disch := omega) only [↓i_in, ↓i_isCouple, ↓i_isBridge, ↓i_isTheme, ↓i_isBarge, i_lt, i_le, i_eq, i_clamp, i_upd, i_m1, Int32.toInt_toInt64, Int32.toInt_add, Int32.toInt_sub, Int32.toInt_mul, bm32, Int32.reduceToInt, Int64.reduceToInt, Nat.reduceLT, Nat.reduceEqDiff, reduceIte, true_or, or_true, true_and, and_true, false_or, or_false, not_true_eq_false, not_false_eq_true, eq_self] <;> omega))⟩) _ _ _ _ x_13
      obtain ⟨i_16, i_17, i_18, i_19, i_20, i_21, i_22⟩ := p_15
      have i_16_g := i_16
      obtain ⟨⟨⟨i_16_2a, i_16_2b⟩, ⟨i_16_3a, i_16_3b⟩, ⟨i_16_4a, i_16_4b⟩, ⟨i_16_5a, i_16_5b⟩, ⟨i_16_6a, i_16_6b⟩, ⟨i_16_14a, i_16_14b⟩, ⟨i_16_42a, i_16_42b⟩⟩, ⟨i_16_15a, i_16_15b⟩, ⟨i_16_20a, i_16_20b⟩, ⟨i_16_21a, i_16_21b⟩, ⟨i_16_23a, i_16_23b⟩, ⟨i_16_24a, i_16_24b⟩⟩ := i_16_g
      cases e
      exact ⟨(PI_u23 i_16 (by first | omega | (simp (disch := omega) only [↓i_in, ↓i_isCouple, ↓i_isBridge, ↓i_isTheme, ↓i_isBarge, i_lt, i_le, i_eq, i_clamp, i_upd, i_m1, Int32.toInt_toInt64, Int32.toInt_add, Int32.toInt_sub, Int32.toInt_mul, bm32, Int32.reduceToInt, Int64.reduceToInt, Nat.reduceLT, Nat.reduceEqDiff, reduceIte, true_or, or_true, true_and, and_true, false_or, or_false, not_true_eq_false, not_false_eq_true, eq_self] <;> omega)) (by first | omega | (simp (disch := omega) only [↓i_in, ↓i_isCouple, ↓i_isBridge, ↓i_isTheme, ↓i_isBarge, i_lt, i_le, i_eq, i_clamp, i_upd, i_m1, Int32.toInt_toInt64, Int32.toInt_add, Int32.toInt_sub, Int32.toInt_mul, bm32, Int32.reduceToInt, Int64.reduceToInt, Nat.reduceLT, Nat.reduceEqDiff, reduceIte, true_or, or_true, true_and, and_true, false_or, or_false, not_true_eq_false, not_false_eq_true, eq_self] <;> omega))), (by first | omega | (simp (disch := omega) only [↓i_in, ↓i_isCouple, ↓i_isBridge, ↓i_isTheme, ↓i_isBarge, i_lt, i_le, i_eq, i_clamp, i_upd, i_m1, Int32.toInt_toInt64, Int32.toInt_add, Int32.toInt_sub, Int32.toInt_mul, bm32, Int32.reduceToInt, Int64.reduceToInt, Nat.reduceLT, Nat.reduceEqDiff, reduceIte, true_or, or_true, true_and, and_true, false_or, or_false, not_true_eq_false, not_false_eq_true, eq_self] <;> omega)), (by first | omega | (simp (disch := omega) only [↓i_in, ↓i_isCouple, ↓i_isBridge, ↓i_isTheme, ↓i_isBarge, i_lt, i_le, i_eq, i_clamp, i_upd, i_m1, Int32.toInt_toInt64, Int32.toInt_add, Int32.toInt_sub, Int32.toInt_mul, bm32, Int32.reduceToInt, Int64.reduceToInt, Nat.reduceLT, Nat.reduceEqDiff, reduceIte, true_or, or_true, true_and, and_true, false_or, or_false, not_true_eq_false, not_false_eq_true, eq_self] <;> omega))⟩
    | inr p_ =>
      replace e : p_ = (r, u, v, w) := e
      subst e
      have p_23 := pr_takesCouple_27 (G := u_2) 10 0 u_2 (upd f28 ((u_2 23) : Int32).toNatClampNeg (u_2 17)) f29 (⟨i_4, (by first | omega | (simp (disch := omega) only [↓i_in, ↓i_isCouple, ↓i_isBridge, ↓i_isTheme, ↓i_isBarge, i_lt, i_le, i_eq, i_clamp, i_upd, i_m1, Int32.toInt_toInt64, Int32.toInt_add, Int32.toInt_sub, Int32.toInt_mul, bm32, Int32.reduceToInt, Int64.reduceToInt, Nat.reduceLT, Nat.reduceEqDiff, reduceIte, true_or, or_true, true_and, and_true, false_or, or_false, not_true_eq_false, not_false_eq_true, eq_self] <;> omega)), (by first | omega | (simp (disch := omega) only [↓i_in, ↓i_isCouple, ↓i_isBridge, ↓i_isTheme, ↓i_isBarge, i_lt, i_le, i_eq, i_clamp, i_upd, i_m1, Int32.toInt_toInt64, Int32.toInt_add, Int32.toInt_sub, Int32.toInt_mul, bm32, Int32.reduceToInt, Int64.reduceToInt, Nat.reduceLT, Nat.reduceEqDiff, reduceIte, true_or, or_true, true_and, and_true, false_or, or_false, not_true_eq_false, not_false_eq_true, eq_self] <;> omega)), (by first | omega | (simp (disch := omega) only [↓i_in, ↓i_isCouple, ↓i_isBridge, ↓i_isTheme, ↓i_isBarge, i_lt, i_le, i_eq, i_clamp, i_upd, i_m1, Int32.toInt_toInt64, Int32.toInt_add, Int32.toInt_sub, Int32.toInt_mul, bm32, Int32.reduceToInt, Int64.reduceToInt, Nat.reduceLT, Nat.reduceEqDiff, reduceIte, true_or, or_true, true_and, and_true, false_or, or_false, not_true_eq_false, not_false_eq_true, eq_self] <;> omega)), (by first | omega | (simp (disch := omega) only [↓i_in, ↓i_isCouple, ↓i_isBridge, ↓i_isTheme, ↓i_isBarge, i_lt, i_le, i_eq, i_clamp, i_upd, i_m1, Int32.toInt_toInt64, Int32.toInt_add, Int32.toInt_sub, Int32.toInt_mul, bm32, Int32.reduceToInt, Int64.reduceToInt, Nat.reduceLT, Nat.reduceEqDiff, reduceIte, true_or, or_true, true_and, and_true, false_or, or_false, not_true_eq_false, not_false_eq_true, eq_self] <;> omega)), (by first | omega | (simp (disch := omega) only [↓i_in, ↓i_isCouple, ↓i_isBridge, ↓i_isTheme, ↓i_isBarge, i_lt, i_le, i_eq, i_clamp, i_upd, i_m1, Int32.toInt_toInt64, Int32.toInt_add, Int32.toInt_sub, Int32.toInt_mul, bm32, Int32.reduceToInt, Int64.reduceToInt, Nat.reduceLT, Nat.reduceEqDiff, reduceIte, true_or, or_true, true_and, and_true, false_or, or_false, not_true_eq_false, not_false_eq_true, eq_self] <;> omega)), (by first | omega | (simp (disch := omega) only [↓i_in, ↓i_isCouple, ↓i_isBridge, ↓i_isTheme, ↓i_isBarge, i_lt, i_le, i_eq, i_clamp, i_upd, i_m1, Int32.toInt_toInt64, Int32.toInt_add, Int32.toInt_sub, Int32.toInt_mul, bm32, Int32.reduceToInt, Int64.reduceToInt, Nat.reduceLT, Nat.reduceEqDiff, reduceIte, true_or, or_true, true_and, and_true, false_or, or_false, not_true_eq_false, not_false_eq_true, eq_self] <;> omega))⟩) _ _ _ _ x_13
      obtain ⟨i_24, i_25, i_26⟩ := p_23
      have i_24_g := i_24
      obtain ⟨⟨⟨i_24_2a, i_24_2b⟩, ⟨i_24_3a, i_24_3b⟩, ⟨i_24_4a, i_24_4b⟩, ⟨i_24_5a, i_24_5b⟩, ⟨i_24_6a, i_24_6b⟩, ⟨i_24_14a, i_24_14b⟩, ⟨i_24_42a, i_24_42b⟩⟩, ⟨i_24_15a, i_24_15b⟩, ⟨i_24_20a, i_24_20b⟩, ⟨i_24_21a, i_24_21b⟩, ⟨i_24_23a, i_24_23b⟩, ⟨i_24_24a, i_24_24b⟩⟩ := i_24_g
      exact ⟨i_24, (by first | omega | (simp (disch := omega) only [↓i_in, ↓i_isCouple, ↓i_isBridge, ↓i_isTheme, ↓i_isBarge, i_lt, i_le, i_eq, i_clamp, i_upd, i_m1, Int32.toInt_toInt64, Int32.toInt_add, Int32.toInt_sub, Int32.toInt_mul, bm32, Int32.reduceToInt, Int64.reduceToInt, Nat.reduceLT, Nat.reduceEqDiff, reduceIte, true_or, or_true, true_and, and_true, false_or, or_false, not_true_eq_false, not_false_eq_true, eq_self] <;> omega)), (by first | omega | (simp (disch := omega) only [↓i_in, ↓i_isCouple, ↓i_isBridge, ↓i_isTheme, ↓i_isBarge, i_lt, i_le, i_eq, i_clamp, i_upd, i_m1, Int32.toInt_toInt64, Int32.toInt_add, Int32.toInt_sub, Int32.toInt_mul, bm32, Int32.reduceToInt, Int64.reduceToInt, Nat.reduceLT, Nat.reduceEqDiff, reduceIte, true_or, or_true, true_and, and_true, false_or, or_false, not_true_eq_false, not_false_eq_true, eq_self] <;> omega))⟩
set_option maxHeartbeats 4000000 in
theorem s_takesBarge {G : Nat → Int32} {f13 : Nat → Int32} {f30 : Nat → Int32} {f31 : Nat → Int32} (h_0 : PI G) (h_1 : (G 24).toInt < 7) : S_m_takesBarge G f13 f30 f31 := by
  unfold S_m_takesBarge
  have h_0_g := h_0
  obtain ⟨⟨⟨h_0_2a, h_0_2b⟩, ⟨h_0_3a, h_0_3b⟩, ⟨h_0_4a, h_0_4b⟩, ⟨h_0_5a, h_0_5b⟩, ⟨h_0_6a, h_0_6b⟩, ⟨h_0_14a, h_0_14b⟩, ⟨h_0_42a, h_0_42b⟩⟩, ⟨h_0_15a, h_0_15b⟩, ⟨h_0_20a, h_0_20b⟩, ⟨h_0_21a, h_0_21b⟩, ⟨h_0_23a, h_0_23b⟩, ⟨h_0_24a, h_0_24b⟩⟩ := h_0_g
  refine ⟨(s_takesNumber h_0), ?_⟩
  intro r_3 u_2 e_1
  have p_2 := p_takesNumber h_0 _ _ e_1.symm
  obtain ⟨i_3, i_4, i_5, i_6, i_7, i_8, i_9, i_10⟩ := p_2
  have i_3_g := i_3
  obtain ⟨⟨⟨i_3_2a, i_3_2b⟩, ⟨i_3_3a, i_3_3b⟩, ⟨i_3_4a, i_3_4b⟩, ⟨i_3_5a, i_3_5b⟩, ⟨i_3_6a, i_3_6b⟩, ⟨i_3_14a, i_3_14b⟩, ⟨i_3_42a, i_3_42b⟩⟩, ⟨i_3_15a, i_3_15b⟩, ⟨i_3_20a, i_3_20b⟩, ⟨i_3_21a, i_3_21b⟩, ⟨i_3_23a, i_3_23b⟩, ⟨i_3_24a, i_3_24b⟩⟩ := i_3_g
  try simp (disch := omega) only [↓i_in, ↓i_isCouple, ↓i_isBridge, ↓i_isTheme, ↓i_isBarge, i_lt, i_le, i_eq, i_clamp, i_upd, i_m1, Int32.toInt_toInt64, Int32.toInt_add, Int32.toInt_sub, Int32.toInt_mul, bm32, Int32.reduceToInt, Int64.reduceToInt, Nat.reduceLT, Nat.reduceEqDiff, reduceIte, true_or, or_true, true_and, and_true, false_or, or_false, not_true_eq_false, not_false_eq_true, eq_self] at i_10
  refine ⟨fun c_11 => ?_, fun c_11 => ?_⟩
  · exact trivial
  · skip
    try simp (disch := omega) only [↓i_in, ↓i_isCouple, ↓i_isBridge, ↓i_isTheme, ↓i_isBarge, i_lt, i_le, i_eq, i_clamp, i_upd, i_m1, Int32.toInt_toInt64, Int32.toInt_add, Int32.toInt_sub, Int32.toInt_mul, bm32, Int32.reduceToInt, Int64.reduceToInt, Nat.reduceLT, Nat.reduceEqDiff, reduceIte, true_or, or_true, true_and, and_true, false_or, or_false, not_true_eq_false, not_false_eq_true, eq_self] at c_11
    refine ⟨vp_in_iff.mpr (by first | omega | (simp (disch := omega) only [↓i_in, ↓i_isCouple, ↓i_isBridge, ↓i_isTheme, ↓i_isBarge, i_lt, i_le, i_eq, i_clamp, i_upd, i_m1, Int32.toInt_toInt64, Int32.toInt_add, Int32.toInt_sub, Int32.toInt_mul, bm32, Int32.reduceToInt, Int64.reduceToInt, Nat.reduceLT, Nat.reduceEqDiff, reduceIte, true_or, or_true, true_and, and_true, false_or, or_false, not_true_eq_false, not_false_eq_true, eq_self] <;> omega)), ?_⟩
    refine ⟨(s_takesNumber i_3), ?_⟩
    intro r_8 u_7 e_12
    have p_13 := p_takesNumber i_3 _ _ e_12.symm
    obtain ⟨i_14, i_15, i_16, i_17, i_18, i_19, i_20, i_21⟩ := p_13
    have i_14_g := i_14
    obtain ⟨⟨⟨i_14_2a, i_14_2b⟩, ⟨i_14_3a, i_14_3b⟩, ⟨i_14_4a, i_14_4b⟩, ⟨i_14_5a, i_14_5b⟩, ⟨i_14_6a, i_14_6b⟩, ⟨i_14_14a, i_14_14b⟩, ⟨i_14_42a, i_14_42b⟩⟩, ⟨i_14_15a, i_14_15b⟩, ⟨i_14_20a, i_14_20b⟩, ⟨i_14_21a, i_14_21b⟩, ⟨i_14_23a, i_14_23b⟩, ⟨i_14_24a, i_14_24b⟩⟩ := i_14_g
    try simp (disch := omega) only [↓i_in, ↓i_isCouple, ↓i_isBridge, ↓i_isTheme, ↓i_isBarge, i_lt, i_le, i_eq, i_clamp, i_upd, i_m1, Int32.toInt_toInt64, Int32.toInt_add, Int32.toInt_sub, Int32.toInt_mul, bm32, Int32.reduceToInt, Int64.reduceToInt, Nat.reduceLT, Nat.reduceEqDiff, reduceIte, true_or, or_true, true_and, and_true, false_or, or_false, not_true_eq_false, not_false_eq_true, eq_self] at i_21
    refine ⟨fun c_22 => ?_, fun c_22 => ?_⟩
    · exact trivial
    · skip
      try simp (disch := omega) only [↓i_in, ↓i_isCouple, ↓i_isBridge, ↓i_isTheme, ↓i_isBarge, i_lt, i_le, i_eq, i_clamp, i_upd, i_m1, Int32.toInt_toInt64, Int32.toInt_add, Int32.toInt_sub, Int32.toInt_mul, bm32, Int32.reduceToInt, Int64.reduceToInt, Nat.reduceLT, Nat.reduceEqDiff, reduceIte, true_or, or_true, true_and, and_true, false_or, or_false, not_true_eq_false, not_false_eq_true, eq_self] at c_22
      refine ⟨vp_in_iff.mpr (by first | omega | (simp (disch := omega) only [↓i_in, ↓i_isCouple, ↓i_isBridge, ↓i_isTheme, ↓i_isBarge, i_lt, i_le, i_eq, i_clamp, i_upd, i_m1, Int32.toInt_toInt64, Int32.toInt_add, Int32.toInt_sub, Int32.toInt_mul, bm32, Int32.reduceToInt, Int64.reduceToInt, Nat.reduceLT, Nat.reduceEqDiff, reduceIte, true_or, or_true, true_and, and_true, false_or, or_false, not_true_eq_false, not_false_eq_true, eq_self] <;> omega)), ?_⟩
      exact trivial
set_option maxHeartbeats 4000000 in
theorem p_takesBarge {G : Nat → Int32} {f13 : Nat → Int32} {f30 : Nat → Int32} {f31 : Nat → Int32} (h_0 : PI G) (h_1 : (G 24).toInt < 7) (h_2 : RI f30) : ∀ (r : Int32) (u : (Nat → Int32)) (v : (Nat → Int32)) (w : (Nat → Int32)), f_m_takesBarge G f13 f30 f31 = (r, u, v, w) → PI u ∧ ((G 15).toInt ≤ (u 15).toInt) ∧ ((u 14).toInt = (G 14).toInt) ∧ RI v := by
  have h_0_g := h_0
  obtain ⟨⟨⟨h_0_2a, h_0_2b⟩, ⟨h_0_3a, h_0_3b⟩, ⟨h_0_4a, h_0_4b⟩, ⟨h_0_5a, h_0_5b⟩, ⟨h_0_6a, h_0_6b⟩, ⟨h_0_14a, h_0_14b⟩, ⟨h_0_42a, h_0_42b⟩⟩, ⟨h_0_15a, h_0_15b⟩, ⟨h_0_20a, h_0_20b⟩, ⟨h_0_21a, h_0_21b⟩, ⟨h_0_23a, h_0_23b⟩, ⟨h_0_24a, h_0_24b⟩⟩ := h_0_g
  intro r u v w e
  unfold f_m_takesBarge at e
  generalize x_1 : (f_m_takesNumber G f13 0 ((G 20) - 1)) = z_2 at e
  obtain ⟨r_3, u_2⟩ := z_2
  replace e : ((if r_3 = 0 then (0, u_2, f30, f31) else (match (f_m_takesNumber u_2 f13 1 300) with | (r_8, u_7) => (if r_8 = 0 then (0, u_7, (upd f30 ((u_2 24) : Int32).toNatClampNeg (u_2 17)), f31) else (1, (upd u_7 24 ((u_7 24) + 1)), (upd f30 ((u_2 24) : Int32).toNatClampNeg (u_2 17)), (upd f31 ((u_7 24) : Int32).toNatClampNeg (u_7 17)))))) : Int32 × (Nat → Int32) × (Nat → Int32) × (Nat → Int32)) = (r, u, v, w) := e
  have p_3 := p_takesNumber h_0 _ _ x_1
  obtain ⟨i_4, i_5, i_6, i_7, i_8, i_9, i_10, i_11⟩ := p_3
  have i_4_g := i_4
  obtain ⟨⟨⟨i_4_2a, i_4_2b⟩, ⟨i_4_3a, i_4_3b⟩, ⟨i_4_4a, i_4_4b⟩, ⟨i_4_5a, i_4_5b⟩, ⟨i_4_6a, i_4_6b⟩, ⟨i_4_14a, i_4_14b⟩, ⟨i_4_42a, i_4_42b⟩⟩, ⟨i_4_15a, i_4_15b⟩, ⟨i_4_20a, i_4_20b⟩, ⟨i_4_21a, i_4_21b⟩, ⟨i_4_23a, i_4_23b⟩, ⟨i_4_24a, i_4_24b⟩⟩ := i_4_g
  try simp (disch := omega) only [↓i_in, ↓i_isCouple, ↓i_isBridge, ↓i_isTheme, ↓i_isBarge, i_lt, i_le, i_eq, i_clamp, i_upd, i_m1, Int32.toInt_toInt64, Int32.toInt_add, Int32.toInt_sub, Int32.toInt_mul, bm32, Int32.reduceToInt, Int64.reduceToInt, Nat.reduceLT, Nat.reduceEqDiff, reduceIte, true_or, or_true, true_and, and_true, false_or, or_false, not_true_eq_false, not_false_eq_true, eq_self] at i_11
  by_cases c_12 : r_3 = 0
  · rw [if_pos c_12] at e
    try simp (disch := omega) only [↓i_in, ↓i_isCouple, ↓i_isBridge, ↓i_isTheme, ↓i_isBarge, i_lt, i_le, i_eq, i_clamp, i_upd, i_m1, Int32.toInt_toInt64, Int32.toInt_add, Int32.toInt_sub, Int32.toInt_mul, bm32, Int32.reduceToInt, Int64.reduceToInt, Nat.reduceLT, Nat.reduceEqDiff, reduceIte, true_or, or_true, true_and, and_true, false_or, or_false, not_true_eq_false, not_false_eq_true, eq_self] at c_12
    cases e
    exact ⟨i_4, (by first | omega | (simp (disch := omega) only [↓i_in, ↓i_isCouple, ↓i_isBridge, ↓i_isTheme, ↓i_isBarge, i_lt, i_le, i_eq, i_clamp, i_upd, i_m1, Int32.toInt_toInt64, Int32.toInt_add, Int32.toInt_sub, Int32.toInt_mul, bm32, Int32.reduceToInt, Int64.reduceToInt, Nat.reduceLT, Nat.reduceEqDiff, reduceIte, true_or, or_true, true_and, and_true, false_or, or_false, not_true_eq_false, not_false_eq_true, eq_self] <;> omega)), (by first | omega | (simp (disch := omega) only [↓i_in, ↓i_isCouple, ↓i_isBridge, ↓i_isTheme, ↓i_isBarge, i_lt, i_le, i_eq, i_clamp, i_upd, i_m1, Int32.toInt_toInt64, Int32.toInt_add, Int32.toInt_sub, Int32.toInt_mul, bm32, Int32.reduceToInt, Int64.reduceToInt, Nat.reduceLT, Nat.reduceEqDiff, reduceIte, true_or, or_true, true_and, and_true, false_or, or_false, not_true_eq_false, not_false_eq_true, eq_self] <;> omega)), h_2⟩
  · rw [if_neg c_12] at e
    try simp (disch := omega) only [↓i_in, ↓i_isCouple, ↓i_isBridge, ↓i_isTheme, ↓i_isBarge, i_lt, i_le, i_eq, i_clamp, i_upd, i_m1, Int32.toInt_toInt64, Int32.toInt_add, Int32.toInt_sub, Int32.toInt_mul, bm32, Int32.reduceToInt, Int64.reduceToInt, Nat.reduceLT, Nat.reduceEqDiff, reduceIte, true_or, or_true, true_and, and_true, false_or, or_false, not_true_eq_false, not_false_eq_true, eq_self] at c_12
    generalize x_13 : (f_m_takesNumber u_2 f13 1 300) = z_14 at e
    obtain ⟨r_8, u_7⟩ := z_14
    replace e : ((if r_8 = 0 then (0, u_7, (upd f30 ((u_2 24) : Int32).toNatClampNeg (u_2 17)), f31) else (1, (upd u_7 24 ((u_7 24) + 1)), (upd f30 ((u_2 24) : Int32).toNatClampNeg (u_2 17)), (upd f31 ((u_7 24) : Int32).toNatClampNeg (u_7 17)))) : Int32 × (Nat → Int32) × (Nat → Int32) × (Nat → Int32)) = (r, u, v, w) := e
    have p_15 := p_takesNumber i_4 _ _ x_13
    obtain ⟨i_16, i_17, i_18, i_19, i_20, i_21, i_22, i_23⟩ := p_15
    have i_16_g := i_16
    obtain ⟨⟨⟨i_16_2a, i_16_2b⟩, ⟨i_16_3a, i_16_3b⟩, ⟨i_16_4a, i_16_4b⟩, ⟨i_16_5a, i_16_5b⟩, ⟨i_16_6a, i_16_6b⟩, ⟨i_16_14a, i_16_14b⟩, ⟨i_16_42a, i_16_42b⟩⟩, ⟨i_16_15a, i_16_15b⟩, ⟨i_16_20a, i_16_20b⟩, ⟨i_16_21a, i_16_21b⟩, ⟨i_16_23a, i_16_23b⟩, ⟨i_16_24a, i_16_24b⟩⟩ := i_16_g
    try simp (disch := omega) only [↓i_in, ↓i_isCouple, ↓i_isBridge, ↓i_isTheme, ↓i_isBarge, i_lt, i_le, i_eq, i_clamp, i_upd, i_m1, Int32.toInt_toInt64, Int32.toInt_add, Int32.toInt_sub, Int32.toInt_mul, bm32, Int32.reduceToInt, Int64.reduceToInt, Nat.reduceLT, Nat.reduceEqDiff, reduceIte, true_or, or_true, true_and, and_true, false_or, or_false, not_true_eq_false, not_false_eq_true, eq_self] at i_23
    by_cases c_24 : r_8 = 0
    · rw [if_pos c_24] at e
      try simp (disch := omega) only [↓i_in, ↓i_isCouple, ↓i_isBridge, ↓i_isTheme, ↓i_isBarge, i_lt, i_le, i_eq, i_clamp, i_upd, i_m1, Int32.toInt_toInt64, Int32.toInt_add, Int32.toInt_sub, Int32.toInt_mul, bm32, Int32.reduceToInt, Int64.reduceToInt, Nat.reduceLT, Nat.reduceEqDiff, reduceIte, true_or, or_true, true_and, and_true, false_or, or_false, not_true_eq_false, not_false_eq_true, eq_self] at c_24
      cases e
      exact ⟨i_16, (by first | omega | (simp (disch := omega) only [↓i_in, ↓i_isCouple, ↓i_isBridge, ↓i_isTheme, ↓i_isBarge, i_lt, i_le, i_eq, i_clamp, i_upd, i_m1, Int32.toInt_toInt64, Int32.toInt_add, Int32.toInt_sub, Int32.toInt_mul, bm32, Int32.reduceToInt, Int64.reduceToInt, Nat.reduceLT, Nat.reduceEqDiff, reduceIte, true_or, or_true, true_and, and_true, false_or, or_false, not_true_eq_false, not_false_eq_true, eq_self] <;> omega)), (by first | omega | (simp (disch := omega) only [↓i_in, ↓i_isCouple, ↓i_isBridge, ↓i_isTheme, ↓i_isBarge, i_lt, i_le, i_eq, i_clamp, i_upd, i_m1, Int32.toInt_toInt64, Int32.toInt_add, Int32.toInt_sub, Int32.toInt_mul, bm32, Int32.reduceToInt, Int64.reduceToInt, Nat.reduceLT, Nat.reduceEqDiff, reduceIte, true_or, or_true, true_and, and_true, false_or, or_false, not_true_eq_false, not_false_eq_true, eq_self] <;> omega)), (RI_upd h_2 (by first | omega | (simp (disch := omega) only [↓i_in, ↓i_isCouple, ↓i_isBridge, ↓i_isTheme, ↓i_isBarge, i_lt, i_le, i_eq, i_clamp, i_upd, i_m1, Int32.toInt_toInt64, Int32.toInt_add, Int32.toInt_sub, Int32.toInt_mul, bm32, Int32.reduceToInt, Int64.reduceToInt, Nat.reduceLT, Nat.reduceEqDiff, reduceIte, true_or, or_true, true_and, and_true, false_or, or_false, not_true_eq_false, not_false_eq_true, eq_self] <;> omega)) (by first | omega | (simp (disch := omega) only [↓i_in, ↓i_isCouple, ↓i_isBridge, ↓i_isTheme, ↓i_isBarge, i_lt, i_le, i_eq, i_clamp, i_upd, i_m1, Int32.toInt_toInt64, Int32.toInt_add, Int32.toInt_sub, Int32.toInt_mul, bm32, Int32.reduceToInt, Int64.reduceToInt, Nat.reduceLT, Nat.reduceEqDiff, reduceIte, true_or, or_true, true_and, and_true, false_or, or_false, not_true_eq_false, not_false_eq_true, eq_self] <;> omega)))⟩
    · rw [if_neg c_24] at e
      try simp (disch := omega) only [↓i_in, ↓i_isCouple, ↓i_isBridge, ↓i_isTheme, ↓i_isBarge, i_lt, i_le, i_eq, i_clamp, i_upd, i_m1, Int32.toInt_toInt64, Int32.toInt_add, Int32.toInt_sub, Int32.toInt_mul, bm32, Int32.reduceToInt, Int64.reduceToInt, Nat.reduceLT, Nat.reduceEqDiff, reduceIte, true_or, or_true, true_and, and_true, false_or, or_false, not_true_eq_false, not_false_eq_true, eq_self] at c_24
      cases e
      exact ⟨(PI_u24 i_16 (by first | omega | (simp (disch := omega) only [↓i_in, ↓i_isCouple, ↓i_isBridge, ↓i_isTheme, ↓i_isBarge, i_lt, i_le, i_eq, i_clamp, i_upd, i_m1, Int32.toInt_toInt64, Int32.toInt_add, Int32.toInt_sub, Int32.toInt_mul, bm32, Int32.reduceToInt, Int64.reduceToInt, Nat.reduceLT, Nat.reduceEqDiff, reduceIte, true_or, or_true, true_and, and_true, false_or, or_false, not_true_eq_false, not_false_eq_true, eq_self] <;> omega)) (by first | omega | (simp (disch := omega) only [↓i_in, ↓i_isCouple, ↓i_isBridge, ↓i_isTheme, ↓i_isBarge, i_lt, i_le, i_eq, i_clamp, i_upd, i_m1, Int32.toInt_toInt64, Int32.toInt_add, Int32.toInt_sub, Int32.toInt_mul, bm32, Int32.reduceToInt, Int64.reduceToInt, Nat.reduceLT, Nat.reduceEqDiff, reduceIte, true_or, or_true, true_and, and_true, false_or, or_false, not_true_eq_false, not_false_eq_true, eq_self] <;> omega))), (by first | omega | (simp (disch := omega) only [↓i_in, ↓i_isCouple, ↓i_isBridge, ↓i_isTheme, ↓i_isBarge, i_lt, i_le, i_eq, i_clamp, i_upd, i_m1, Int32.toInt_toInt64, Int32.toInt_add, Int32.toInt_sub, Int32.toInt_mul, bm32, Int32.reduceToInt, Int64.reduceToInt, Nat.reduceLT, Nat.reduceEqDiff, reduceIte, true_or, or_true, true_and, and_true, false_or, or_false, not_true_eq_false, not_false_eq_true, eq_self] <;> omega)), (by first | omega | (simp (disch := omega) only [↓i_in, ↓i_isCouple, ↓i_isBridge, ↓i_isTheme, ↓i_isBarge, i_lt, i_le, i_eq, i_clamp, i_upd, i_m1, Int32.toInt_toInt64, Int32.toInt_add, Int32.toInt_sub, Int32.toInt_mul, bm32, Int32.reduceToInt, Int64.reduceToInt, Nat.reduceLT, Nat.reduceEqDiff, reduceIte, true_or, or_true, true_and, and_true, false_or, or_false, not_true_eq_false, not_false_eq_true, eq_self] <;> omega)), (RI_upd h_2 (by first | omega | (simp (disch := omega) only [↓i_in, ↓i_isCouple, ↓i_isBridge, ↓i_isTheme, ↓i_isBarge, i_lt, i_le, i_eq, i_clamp, i_upd, i_m1, Int32.toInt_toInt64, Int32.toInt_add, Int32.toInt_sub, Int32.toInt_mul, bm32, Int32.reduceToInt, Int64.reduceToInt, Nat.reduceLT, Nat.reduceEqDiff, reduceIte, true_or, or_true, true_and, and_true, false_or, or_false, not_true_eq_false, not_false_eq_true, eq_self] <;> omega)) (by first | omega | (simp (disch := omega) only [↓i_in, ↓i_isCouple, ↓i_isBridge, ↓i_isTheme, ↓i_isBarge, i_lt, i_le, i_eq, i_clamp, i_upd, i_m1, Int32.toInt_toInt64, Int32.toInt_add, Int32.toInt_sub, Int32.toInt_mul, bm32, Int32.reduceToInt, Int64.reduceToInt, Nat.reduceLT, Nat.reduceEqDiff, reduceIte, true_or, or_true, true_and, and_true, false_or, or_false, not_true_eq_false, not_false_eq_true, eq_self] <;> omega)))⟩
end
section
set_option maxHeartbeats 4000000 in
theorem s_takesClause {G : Nat → Int32} {f13 : Nat → Int32} {f27 : Nat → Int32} {f28 : Nat → Int32} {f29 : Nat → Int32} {f30 : Nat → Int32} {f31 : Nat → Int32} (h_0 : PI G) (h_1 : RI f30) : S_m_takesClause G f13 f27 f28 f29 f30 f31 := by
  unfold S_m_takesClause
  have h_0_g := h_0
  obtain ⟨⟨⟨h_0_2a, h_0_2b⟩, ⟨h_0_3a, h_0_3b⟩, ⟨h_0_4a, h_0_4b⟩, ⟨h_0_5a, h_0_5b⟩, ⟨h_0_6a, h_0_6b⟩, ⟨h_0_14a, h_0_14b⟩, ⟨h_0_42a, h_0_42b⟩⟩, ⟨h_0_15a, h_0_15b⟩, ⟨h_0_20a, h_0_20b⟩, ⟨h_0_21a, h_0_21b⟩, ⟨h_0_23a, h_0_23b⟩, ⟨h_0_24a, h_0_24b⟩⟩ := h_0_g
  refine ⟨(s_here h_0), ?_⟩
  intro r_3 u_2 e_1
  have p_2 := p_here h_0 _ _ e_1.symm
  obtain ⟨i_3, i_4, i_5, i_6, i_7, i_8, i_9, i_10⟩ := p_2
  have i_3_g := i_3
  obtain ⟨⟨⟨i_3_2a, i_3_2b⟩, ⟨i_3_3a, i_3_3b⟩, ⟨i_3_4a, i_3_4b⟩, ⟨i_3_5a, i_3_5b⟩, ⟨i_3_6a, i_3_6b⟩, ⟨i_3_14a, i_3_14b⟩, ⟨i_3_42a, i_3_42b⟩⟩, ⟨i_3_15a, i_3_15b⟩, ⟨i_3_20a, i_3_20b⟩, ⟨i_3_21a, i_3_21b⟩, ⟨i_3_23a, i_3_23b⟩, ⟨i_3_24a, i_3_24b⟩⟩ := i_3_g
  refine ⟨fun c_11 => ?_, fun c_11 => ?_⟩
  · skip
    try simp (disch := omega) only [↓i_in, ↓i_isCouple, ↓i_isBridge, ↓i_isTheme, ↓i_isBarge, i_lt, i_le, i_eq, i_clamp, i_upd, i_m1, Int32.toInt_toInt64, Int32.toInt_add, Int32.toInt_sub, Int32.toInt_mul, bm32, Int32.reduceToInt, Int64.reduceToInt, Nat.reduceLT, Nat.reduceEqDiff, reduceIte, true_or, or_true, true_and, and_true, false_or, or_false, not_true_eq_false, not_false_eq_true, eq_self] at c_11
    refine ⟨fun c_12 => ?_, fun c_12 => ?_⟩
    · skip
      try simp (disch := omega) only [↓i_in, ↓i_isCouple, ↓i_isBridge, ↓i_isTheme, ↓i_isBarge, i_lt, i_le, i_eq, i_clamp, i_upd, i_m1, Int32.toInt_toInt64, Int32.toInt_add, Int32.toInt_sub, Int32.toInt_mul, bm32, Int32.reduceToInt, Int64.reduceToInt, Nat.reduceLT, Nat.reduceEqDiff, reduceIte, true_or, or_true, true_and, and_true, false_or, or_false, not_true_eq_false, not_false_eq_true, eq_self] at c_12
      refine ⟨(s_takesBridges (PI_u15 i_3 (by first | omega | (simp (disch := omega) only [↓i_in, ↓i_isCouple, ↓i_isBridge, ↓i_isTheme, ↓i_isBarge, i_lt, i_le, i_eq, i_clamp, i_upd, i_m1, Int32.toInt_toInt64, Int32.toInt_add, Int32.toInt_sub, Int32.toInt_mul, bm32, Int32.reduceToInt, Int64.reduceToInt, Nat.reduceLT, Nat.reduceEqDiff, reduceIte, true_or, or_true, true_and, and_true, false_or, or_false, not_true_eq_false, not_false_eq_true, eq_self] <;> omega)) (by first | omega | (simp (disch := omega) only [↓i_in, ↓i_isCouple, ↓i_isBridge, ↓i_isTheme, ↓i_isBarge, i_lt, i_le, i_eq, i_clamp, i_upd, i_m1, Int32.toInt_toInt64, Int32.toInt_add, Int32.toInt_sub, Int32.toInt_mul, bm32, Int32.reduceToInt, Int64.reduceToInt, Nat.reduceLT, Nat.reduceEqDiff, reduceIte, true_or, or_true, true_and, and_true, false_or, or_false, not_true_eq_false, not_false_eq_true, eq_self] <;> omega)))), ?_⟩
      intro r_11 o_12 o_13 e_13
      have p_14 := p_takesBridges (PI_u15 i_3 (by first | omega | (simp (disch := omega) only [↓i_in, ↓i_isCouple, ↓i_isBridge, ↓i_isTheme, ↓i_isBarge, i_lt, i_le, i_eq, i_clamp, i_upd, i_m1, Int32.toInt_toInt64, Int32.toInt_add, Int32.toInt_sub, Int32.toInt_mul, bm32, Int32.reduceToInt, Int64.reduceToInt, Nat.reduceLT, Nat.reduceEqDiff, reduceIte, true_or, or_true, true_and, and_true, false_or, or_false, not_true_eq_false, not_false_eq_true, eq_self] <;> omega)) (by first | omega | (simp (disch := omega) only [↓i_in, ↓i_isCouple, ↓i_isBridge, ↓i_isTheme, ↓i_isBarge, i_lt, i_le, i_eq, i_clamp, i_upd, i_m1, Int32.toInt_toInt64, Int32.toInt_add, Int32.toInt_sub, Int32.toInt_mul, bm32, Int32.reduceToInt, Int64.reduceToInt, Nat.reduceLT, Nat.reduceEqDiff, reduceIte, true_or, or_true, true_and, and_true, false_or, or_false, not_true_eq_false, not_false_eq_true, eq_self] <;> omega))) _ _ _ e_13.symm
      obtain ⟨i_15, i_16, i_17⟩ := p_14
      have i_15_g := i_15
      obtain ⟨⟨⟨i_15_2a, i_15_2b⟩, ⟨i_15_3a, i_15_3b⟩, ⟨i_15_4a, i_15_4b⟩, ⟨i_15_5a, i_15_5b⟩, ⟨i_15_6a, i_15_6b⟩, ⟨i_15_14a, i_15_14b⟩, ⟨i_15_42a, i_15_42b⟩⟩, ⟨i_15_15a, i_15_15b⟩, ⟨i_15_20a, i_15_20b⟩, ⟨i_15_21a, i_15_21b⟩, ⟨i_15_23a, i_15_23b⟩, ⟨i_15_24a, i_15_24b⟩⟩ := i_15_g
      try simp (disch := omega) only [↓i_in, ↓i_isCouple, ↓i_isBridge, ↓i_isTheme, ↓i_isBarge, i_lt, i_le, i_eq, i_clamp, i_upd, i_m1, Int32.toInt_toInt64, Int32.toInt_add, Int32.toInt_sub, Int32.toInt_mul, bm32, Int32.reduceToInt, Int64.reduceToInt, Nat.reduceLT, Nat.reduceEqDiff, reduceIte, true_or, or_true, true_and, and_true, false_or, or_false, not_true_eq_false, not_false_eq_true, eq_self] at i_16
      try simp (disch := omega) only [↓i_in, ↓i_isCouple, ↓i_isBridge, ↓i_isTheme, ↓i_isBarge, i_lt, i_le, i_eq, i_clamp, i_upd, i_m1, Int32.toInt_toInt64, Int32.toInt_add, Int32.toInt_sub, Int32.toInt_mul, bm32, Int32.reduceToInt, Int64.reduceToInt, Nat.reduceLT, Nat.reduceEqDiff, reduceIte, true_or, or_true, true_and, and_true, false_or, or_false, not_true_eq_false, not_false_eq_true, eq_self] at i_17
      refine ⟨fun c_18 => ?_, fun c_18 => ?_⟩
      · exact trivial
      · skip
        try simp (disch := omega) only [↓i_in, ↓i_isCouple, ↓i_isBridge, ↓i_isTheme, ↓i_isBarge, i_lt, i_le, i_eq, i_clamp, i_upd, i_m1, Int32.toInt_toInt64, Int32.toInt_add, Int32.toInt_sub, Int32.toInt_mul, bm32, Int32.reduceToInt, Int64.reduceToInt, Nat.reduceLT, Nat.reduceEqDiff, reduceIte, true_or, or_true, true_and, and_true, false_or, or_false, not_true_eq_false, not_false_eq_true, eq_self] at c_18
        refine ⟨(s_takes i_15 (by first | omega | (simp (disch := omega) only [↓i_in, ↓i_isCouple, ↓i_isBridge, ↓i_isTheme, ↓i_isBarge, i_lt, i_le, i_eq, i_clamp, i_upd, i_m1, Int32.toInt_toInt64, Int32.toInt_add, Int32.toInt_sub, Int32.toInt_mul, bm32, Int32.reduceToInt, Int64.reduceToInt, Nat.reduceLT, Nat.reduceEqDiff, reduceIte, true_or, or_true, true_and, and_true, false_or, or_false, not_true_eq_false, not_false_eq_true, eq_self] <;> omega))), ?_⟩
        intro r_17 u_16 e_19
        have p_20 := p_takes i_15 (by first | omega | (simp (disch := omega) only [↓i_in, ↓i_isCouple, ↓i_isBridge, ↓i_isTheme, ↓i_isBarge, i_lt, i_le, i_eq, i_clamp, i_upd, i_m1, Int32.toInt_toInt64, Int32.toInt_add, Int32.toInt_sub, Int32.toInt_mul, bm32, Int32.reduceToInt, Int64.reduceToInt, Nat.reduceLT, Nat.reduceEqDiff, reduceIte, true_or, or_true, true_and, and_true, false_or, or_false, not_true_eq_false, not_false_eq_true, eq_self] <;> omega)) _ _ e_19.symm
        obtain ⟨i_21, i_22, i_23, i_24, i_25, i_26, i_27⟩ := p_20
        have i_21_g := i_21
        obtain ⟨⟨⟨i_21_2a, i_21_2b⟩, ⟨i_21_3a, i_21_3b⟩, ⟨i_21_4a, i_21_4b⟩, ⟨i_21_5a, i_21_5b⟩, ⟨i_21_6a, i_21_6b⟩, ⟨i_21_14a, i_21_14b⟩, ⟨i_21_42a, i_21_42b⟩⟩, ⟨i_21_15a, i_21_15b⟩, ⟨i_21_20a, i_21_20b⟩, ⟨i_21_21a, i_21_21b⟩, ⟨i_21_23a, i_21_23b⟩, ⟨i_21_24a, i_21_24b⟩⟩ := i_21_g
        refine ⟨fun c_28 => ?_, fun c_28 => ?_⟩
        · exact trivial
        · exact trivial
    · skip
      try simp (disch := omega) only [↓i_in, ↓i_isCouple, ↓i_isBridge, ↓i_isTheme, ↓i_isBarge, i_lt, i_le, i_eq, i_clamp, i_upd, i_m1, Int32.toInt_toInt64, Int32.toInt_add, Int32.toInt_sub, Int32.toInt_mul, bm32, Int32.reduceToInt, Int64.reduceToInt, Nat.reduceLT, Nat.reduceEqDiff, reduceIte, true_or, or_true, true_and, and_true, false_or, or_false, not_true_eq_false, not_false_eq_true, eq_self] at c_12
      refine ⟨s_fails, ?_⟩
      intro r_22 u_21 e_29
      have p_30 := p_fails i_3 _ _ e_29.symm
      obtain ⟨i_31, i_32, i_33, i_34, i_35, i_36, i_37, i_38⟩ := p_30
      have i_31_g := i_31
      obtain ⟨⟨⟨i_31_2a, i_31_2b⟩, ⟨i_31_3a, i_31_3b⟩, ⟨i_31_4a, i_31_4b⟩, ⟨i_31_5a, i_31_5b⟩, ⟨i_31_6a, i_31_6b⟩, ⟨i_31_14a, i_31_14b⟩, ⟨i_31_42a, i_31_42b⟩⟩, ⟨i_31_15a, i_31_15b⟩, ⟨i_31_20a, i_31_20b⟩, ⟨i_31_21a, i_31_21b⟩, ⟨i_31_23a, i_31_23b⟩, ⟨i_31_24a, i_31_24b⟩⟩ := i_31_g
      exact trivial
  · skip
    try simp (disch := omega) only [↓i_in, ↓i_isCouple, ↓i_isBridge, ↓i_isTheme, ↓i_isBarge, i_lt, i_le, i_eq, i_clamp, i_upd, i_m1, Int32.toInt_toInt64, Int32.toInt_add, Int32.toInt_sub, Int32.toInt_mul, bm32, Int32.reduceToInt, Int64.reduceToInt, Nat.reduceLT, Nat.reduceEqDiff, reduceIte, true_or, or_true, true_and, and_true, false_or, or_false, not_true_eq_false, not_false_eq_true, eq_self] at c_11
    refine ⟨fun c_39 => ?_, fun c_39 => ?_⟩
    · skip
      try simp (disch := omega) only [↓i_in, ↓i_isCouple, ↓i_isBridge, ↓i_isTheme, ↓i_isBarge, i_lt, i_le, i_eq, i_clamp, i_upd, i_m1, Int32.toInt_toInt64, Int32.toInt_add, Int32.toInt_sub, Int32.toInt_mul, bm32, Int32.reduceToInt, Int64.reduceToInt, Nat.reduceLT, Nat.reduceEqDiff, reduceIte, true_or, or_true, true_and, and_true, false_or, or_false, not_true_eq_false, not_false_eq_true, eq_self] at c_39
      refine ⟨s_fails, ?_⟩
      intro r_27 u_26 e_40
      have p_41 := p_fails i_3 _ _ e_40.symm
      obtain ⟨i_42, i_43, i_44, i_45, i_46, i_47, i_48, i_49⟩ := p_41
      have i_42_g := i_42
      obtain ⟨⟨⟨i_42_2a, i_42_2b⟩, ⟨i_42_3a, i_42_3b⟩, ⟨i_42_4a, i_42_4b⟩, ⟨i_42_5a, i_42_5b⟩, ⟨i_42_6a, i_42_6b⟩, ⟨i_42_14a, i_42_14b⟩, ⟨i_42_42a, i_42_42b⟩⟩, ⟨i_42_15a, i_42_15b⟩, ⟨i_42_20a, i_42_20b⟩, ⟨i_42_21a, i_42_21b⟩, ⟨i_42_23a, i_42_23b⟩, ⟨i_42_24a, i_42_24b⟩⟩ := i_42_g
      exact trivial
    · skip
      try simp (disch := omega) only [↓i_in, ↓i_isCouple, ↓i_isBridge, ↓i_isTheme, ↓i_isBarge, i_lt, i_le, i_eq, i_clamp, i_upd, i_m1, Int32.toInt_toInt64, Int32.toInt_add, Int32.toInt_sub, Int32.toInt_mul, bm32, Int32.reduceToInt, Int64.reduceToInt, Nat.reduceLT, Nat.reduceEqDiff, reduceIte, true_or, or_true, true_and, and_true, false_or, or_false, not_true_eq_false, not_false_eq_true, eq_self] at c_39
      refine ⟨fun c_50 => ?_, fun c_50 => ?_⟩
      · skip
        try simp (disch := omega) only [↓i_in, ↓i_isCouple, ↓i_isBridge, ↓i_isTheme, ↓i_isBarge, i_lt, i_le, i_eq, i_clamp, i_upd, i_m1, Int32.toInt_toInt64, Int32.toInt_add, Int32.toInt_sub, Int32.toInt_mul, bm32, Int32.reduceToInt, Int64.reduceToInt, Nat.reduceLT, Nat.reduceEqDiff, reduceIte, true_or, or_true, true_and, and_true, false_or, or_false, not_true_eq_false, not_false_eq_true, eq_self] at c_50
        refine ⟨fun c_51 => ?_, fun c_51 => ?_⟩
        · skip
          try simp (disch := omega) only [↓i_in, ↓i_isCouple, ↓i_isBridge, ↓i_isTheme, ↓i_isBarge, i_lt, i_le, i_eq, i_clamp, i_upd, i_m1, Int32.toInt_toInt64, Int32.toInt_add, Int32.toInt_sub, Int32.toInt_mul, bm32, Int32.reduceToInt, Int64.reduceToInt, Nat.reduceLT, Nat.reduceEqDiff, reduceIte, true_or, or_true, true_and, and_true, false_or, or_false, not_true_eq_false, not_false_eq_true, eq_self] at c_51
          refine ⟨fun c_52 => ?_, fun c_52 => ?_⟩
          · skip
            try simp (disch := omega) only [↓i_in, ↓i_isCouple, ↓i_isBridge, ↓i_isTheme, ↓i_isBarge, i_lt, i_le, i_eq, i_clamp, i_upd, i_m1, Int32.toInt_toInt64, Int32.toInt_add, Int32.toInt_sub, Int32.toInt_mul, bm32, Int32.reduceToInt, Int64.reduceToInt, Nat.reduceLT, Nat.reduceEqDiff, reduceIte, true_or, or_true, true_and, and_true, false_or, or_false, not_true_eq_false, not_false_eq_true, eq_self] at c_52
            refine ⟨(s_takesThemes (PI_u15 i_3 (by first | omega | (simp (disch := omega) only [↓i_in, ↓i_isCouple, ↓i_isBridge, ↓i_isTheme, ↓i_isBarge, i_lt, i_le, i_eq, i_clamp, i_upd, i_m1, Int32.toInt_toInt64, Int32.toInt_add, Int32.toInt_sub, Int32.toInt_mul, bm32, Int32.reduceToInt, Int64.reduceToInt, Nat.reduceLT, Nat.reduceEqDiff, reduceIte, true_or, or_true, true_and, and_true, false_or, or_false, not_true_eq_false, not_false_eq_true, eq_self] <;> omega)) (by first | omega | (simp (disch := omega) only [↓i_in, ↓i_isCouple, ↓i_isBridge, ↓i_isTheme, ↓i_isBarge, i_lt, i_le, i_eq, i_clamp, i_upd, i_m1, Int32.toInt_toInt64, Int32.toInt_add, Int32.toInt_sub, Int32.toInt_mul, bm32, Int32.reduceToInt, Int64.reduceToInt, Nat.reduceLT, Nat.reduceEqDiff, reduceIte, true_or, or_true, true_and, and_true, false_or, or_false, not_true_eq_false, not_false_eq_true, eq_self] <;> omega)))), ?_⟩
            intro r_41 u_40 e_53
            have p_54 := p_takesThemes (PI_u15 i_3 (by first | omega | (simp (disch := omega) only [↓i_in, ↓i_isCouple, ↓i_isBridge, ↓i_isTheme, ↓i_isBarge, i_lt, i_le, i_eq, i_clamp, i_upd, i_m1, Int32.toInt_toInt64, Int32.toInt_add, Int32.toInt_sub, Int32.toInt_mul, bm32, Int32.reduceToInt, Int64.reduceToInt, Nat.reduceLT, Nat.reduceEqDiff, reduceIte, true_or, or_true, true_and, and_true, false_or, or_false, not_true_eq_false, not_false_eq_true, eq_self] <;> omega)) (by first | omega | (simp (disch := omega) only [↓i_in, ↓i_isCouple, ↓i_isBridge, ↓i_isTheme, ↓i_isBarge, i_lt, i_le, i_eq, i_clamp, i_upd, i_m1, Int32.toInt_toInt64, Int32.toInt_add, Int32.toInt_sub, Int32.toInt_mul, bm32, Int32.reduceToInt, Int64.reduceToInt, Nat.reduceLT, Nat.reduceEqDiff, reduceIte, true_or, or_true, true_and, and_true, false_or, or_false, not_true_eq_false, not_false_eq_true, eq_self] <;> omega))) _ _ e_53.symm
            obtain ⟨i_55, i_56, i_57⟩ := p_54
            have i_55_g := i_55
            obtain ⟨⟨⟨i_55_2a, i_55_2b⟩, ⟨i_55_3a, i_55_3b⟩, ⟨i_55_4a, i_55_4b⟩, ⟨i_55_5a, i_55_5b⟩, ⟨i_55_6a, i_55_6b⟩, ⟨i_55_14a, i_55_14b⟩, ⟨i_55_42a, i_55_42b⟩⟩, ⟨i_55_15a, i_55_15b⟩, ⟨i_55_20a, i_55_20b⟩, ⟨i_55_21a, i_55_21b⟩, ⟨i_55_23a, i_55_23b⟩, ⟨i_55_24a, i_55_24b⟩⟩ := i_55_g
            try simp (disch := omega) only [↓i_in, ↓i_isCouple, ↓i_isBridge, ↓i_isTheme, ↓i_isBarge, i_lt, i_le, i_eq, i_clamp, i_upd, i_m1, Int32.toInt_toInt64, Int32.toInt_add, Int32.toInt_sub, Int32.toInt_mul, bm32, Int32.reduceToInt, Int64.reduceToInt, Nat.reduceLT, Nat.reduceEqDiff, reduceIte, true_or, or_true, true_and, and_true, false_or, or_false, not_true_eq_false, not_false_eq_true, eq_self] at i_56
            try simp (disch := omega) only [↓i_in, ↓i_isCouple, ↓i_isBridge, ↓i_isTheme, ↓i_isBarge, i_lt, i_le, i_eq, i_clamp, i_upd, i_m1, Int32.toInt_toInt64, Int32.toInt_add, Int32.toInt_sub, Int32.toInt_mul, bm32, Int32.reduceToInt, Int64.reduceToInt, Nat.reduceLT, Nat.reduceEqDiff, reduceIte, true_or, or_true, true_and, and_true, false_or, or_false, not_true_eq_false, not_false_eq_true, eq_self] at i_57
            refine ⟨fun c_58 => ?_, fun c_58 => ?_⟩
            · exact trivial
            · skip
              try simp (disch := omega) only [↓i_in, ↓i_isCouple, ↓i_isBridge, ↓i_isTheme, ↓i_isBarge, i_lt, i_le, i_eq, i_clamp, i_upd, i_m1, Int32.toInt_toInt64, Int32.toInt_add, Int32.toInt_sub, Int32.toInt_mul, bm32, Int32.reduceToInt, Int64.reduceToInt, Nat.reduceLT, Nat.reduceEqDiff, reduceIte, true_or, or_true, true_and, and_true, false_or, or_false, not_true_eq_false, not_false_eq_true, eq_self] at c_58
              refine ⟨(s_takes i_55 (by first | omega | (simp (disch := omega) only [↓i_in, ↓i_isCouple, ↓i_isBridge, ↓i_isTheme, ↓i_isBarge, i_lt, i_le, i_eq, i_clamp, i_upd, i_m1, Int32.toInt_toInt64, Int32.toInt_add, Int32.toInt_sub, Int32.toInt_mul, bm32, Int32.reduceToInt, Int64.reduceToInt, Nat.reduceLT, Nat.reduceEqDiff, reduceIte, true_or, or_true, true_and, and_true, false_or, or_false, not_true_eq_false, not_false_eq_true, eq_self] <;> omega))), ?_⟩
              intro r_45 u_44 e_59
              have p_60 := p_takes i_55 (by first | omega | (simp (disch := omega) only [↓i_in, ↓i_isCouple, ↓i_isBridge, ↓i_isTheme, ↓i_isBarge, i_lt, i_le, i_eq, i_clamp, i_upd, i_m1, Int32.toInt_toInt64, Int32.toInt_add, Int32.toInt_sub, Int32.toInt_mul, bm32, Int32.reduceToInt, Int64.reduceToInt, Nat.reduceLT, Nat.reduceEqDiff, reduceIte, true_or, or_true, true_and, and_true, false_or, or_false, not_true_eq_false, not_false_eq_true, eq_self] <;> omega)) _ _ e_59.symm
              obtain ⟨i_61, i_62, i_63, i_64, i_65, i_66, i_67⟩ := p_60
              have i_61_g := i_61
              obtain ⟨⟨⟨i_61_2a, i_61_2b⟩, ⟨i_61_3a, i_61_3b⟩, ⟨i_61_4a, i_61_4b⟩, ⟨i_61_5a, i_61_5b⟩, ⟨i_61_6a, i_61_6b⟩, ⟨i_61_14a, i_61_14b⟩, ⟨i_61_42a, i_61_42b⟩⟩, ⟨i_61_15a, i_61_15b⟩, ⟨i_61_20a, i_61_20b⟩, ⟨i_61_21a, i_61_21b⟩, ⟨i_61_23a, i_61_23b⟩, ⟨i_61_24a, i_61_24b⟩⟩ := i_61_g
              refine ⟨fun c_68 => ?_, fun c_68 => ?_⟩
              · exact trivial
              · exact trivial
          · skip
            try simp (disch := omega) only [↓i_in, ↓i_isCouple, ↓i_isBridge, ↓i_isTheme, ↓i_isBarge, i_lt, i_le, i_eq, i_clamp, i_upd, i_m1, Int32.toInt_toInt64, Int32.toInt_add, Int32.toInt_sub, Int32.toInt_mul, bm32, Int32.reduceToInt, Int64.reduceToInt, Nat.reduceLT, Nat.reduceEqDiff, reduceIte, true_or, or_true, true_and, and_true, false_or, or_false, not_true_eq_false, not_false_eq_true, eq_self] at c_52
            refine ⟨s_fails, ?_⟩
            intro r_50 u_49 e_69
            have p_70 := p_fails i_3 _ _ e_69.symm
            obtain ⟨i_71, i_72, i_73, i_74, i_75, i_76, i_77, i_78⟩ := p_70
            have i_71_g := i_71
            obtain ⟨⟨⟨i_71_2a, i_71_2b⟩, ⟨i_71_3a, i_71_3b⟩, ⟨i_71_4a, i_71_4b⟩, ⟨i_71_5a, i_71_5b⟩, ⟨i_71_6a, i_71_6b⟩, ⟨i_71_14a, i_71_14b⟩, ⟨i_71_42a, i_71_42b⟩⟩, ⟨i_71_15a, i_71_15b⟩, ⟨i_71_20a, i_71_20b⟩, ⟨i_71_21a, i_71_21b⟩, ⟨i_71_23a, i_71_23b⟩, ⟨i_71_24a, i_71_24b⟩⟩ := i_71_g
            exact trivial
        · skip
          try simp (disch := omega) only [↓i_in, ↓i_isCouple, ↓i_isBridge, ↓i_isTheme, ↓i_isBarge, i_lt, i_le, i_eq, i_clamp, i_upd, i_m1, Int32.toInt_toInt64, Int32.toInt_add, Int32.toInt_sub, Int32.toInt_mul, bm32, Int32.reduceToInt, Int64.reduceToInt, Nat.reduceLT, Nat.reduceEqDiff, reduceIte, true_or, or_true, true_and, and_true, false_or, or_false, not_true_eq_false, not_false_eq_true, eq_self] at c_51
          refine ⟨s_fails, ?_⟩
          intro r_36 u_35 e_79
          have p_80 := p_fails i_3 _ _ e_79.symm
          obtain ⟨i_81, i_82, i_83, i_84, i_85, i_86, i_87, i_88⟩ := p_80
          have i_81_g := i_81
          obtain ⟨⟨⟨i_81_2a, i_81_2b⟩, ⟨i_81_3a, i_81_3b⟩, ⟨i_81_4a, i_81_4b⟩, ⟨i_81_5a, i_81_5b⟩, ⟨i_81_6a, i_81_6b⟩, ⟨i_81_14a, i_81_14b⟩, ⟨i_81_42a, i_81_42b⟩⟩, ⟨i_81_15a, i_81_15b⟩, ⟨i_81_20a, i_81_20b⟩, ⟨i_81_21a, i_81_21b⟩, ⟨i_81_23a, i_81_23b⟩, ⟨i_81_24a, i_81_24b⟩⟩ := i_81_g
          exact trivial
      · skip
        try simp (disch := omega) only [↓i_in, ↓i_isCouple, ↓i_isBridge, ↓i_isTheme, ↓i_isBarge, i_lt, i_le, i_eq, i_clamp, i_upd, i_m1, Int32.toInt_toInt64, Int32.toInt_add, Int32.toInt_sub, Int32.toInt_mul, bm32, Int32.reduceToInt, Int64.reduceToInt, Nat.reduceLT, Nat.reduceEqDiff, reduceIte, true_or, or_true, true_and, and_true, false_or, or_false, not_true_eq_false, not_false_eq_true, eq_self] at c_50
        refine ⟨fun c_89 => ?_, fun c_89 => ?_⟩
        · skip
          try simp (disch := omega) only [↓i_in, ↓i_isCouple, ↓i_isBridge, ↓i_isTheme, ↓i_isBarge, i_lt, i_le, i_eq, i_clamp, i_upd, i_m1, Int32.toInt_toInt64, Int32.toInt_add, Int32.toInt_sub, Int32.toInt_mul, bm32, Int32.reduceToInt, Int64.reduceToInt, Nat.reduceLT, Nat.reduceEqDiff, reduceIte, true_or, or_true, true_and, and_true, false_or, or_false, not_true_eq_false, not_false_eq_true, eq_self] at c_89
          refine ⟨fun c_90 => ?_, fun c_90 => ?_⟩
          · skip
            try simp (disch := omega) only [↓i_in, ↓i_isCouple, ↓i_isBridge, ↓i_isTheme, ↓i_isBarge, i_lt, i_le, i_eq, i_clamp, i_upd, i_m1, Int32.toInt_toInt64, Int32.toInt_add, Int32.toInt_sub, Int32.toInt_mul, bm32, Int32.reduceToInt, Int64.reduceToInt, Nat.reduceLT, Nat.reduceEqDiff, reduceIte, true_or, or_true, true_and, and_true, false_or, or_false, not_true_eq_false, not_false_eq_true, eq_self] at c_90
            refine ⟨s_fails, ?_⟩
            intro r_72 u_71 e_91
            have p_92 := p_fails i_3 _ _ e_91.symm
            obtain ⟨i_93, i_94, i_95, i_96, i_97, i_98, i_99, i_100⟩ := p_92
            have i_93_g := i_93
            obtain ⟨⟨⟨i_93_2a, i_93_2b⟩, ⟨i_93_3a, i_93_3b⟩, ⟨i_93_4a, i_93_4b⟩, ⟨i_93_5a, i_93_5b⟩, ⟨i_93_6a, i_93_6b⟩, ⟨i_93_14a, i_93_14b⟩, ⟨i_93_42a, i_93_42b⟩⟩, ⟨i_93_15a, i_93_15b⟩, ⟨i_93_20a, i_93_20b⟩, ⟨i_93_21a, i_93_21b⟩, ⟨i_93_23a, i_93_23b⟩, ⟨i_93_24a, i_93_24b⟩⟩ := i_93_g
            exact trivial
          · skip
            try simp (disch := omega) only [↓i_in, ↓i_isCouple, ↓i_isBridge, ↓i_isTheme, ↓i_isBarge, i_lt, i_le, i_eq, i_clamp, i_upd, i_m1, Int32.toInt_toInt64, Int32.toInt_add, Int32.toInt_sub, Int32.toInt_mul, bm32, Int32.reduceToInt, Int64.reduceToInt, Nat.reduceLT, Nat.reduceEqDiff, reduceIte, true_or, or_true, true_and, and_true, false_or, or_false, not_true_eq_false, not_false_eq_true, eq_self] at c_90
            refine ⟨(s_takesCouple (PI_u15 i_3 (by first | omega | (simp (disch := omega) only [↓i_in, ↓i_isCouple, ↓i_isBridge, ↓i_isTheme, ↓i_isBarge, i_lt, i_le, i_eq, i_clamp, i_upd, i_m1, Int32.toInt_toInt64, Int32.toInt_add, Int32.toInt_sub, Int32.toInt_mul, bm32, Int32.reduceToInt, Int64.reduceToInt, Nat.reduceLT, Nat.reduceEqDiff, reduceIte, true_or, or_true, true_and, and_true, false_or, or_false, not_true_eq_false, not_false_eq_true, eq_self] <;> omega)) (by first | omega | (simp (disch := omega) only [↓i_in, ↓i_isCouple, ↓i_isBridge, ↓i_isTheme, ↓i_isBarge, i_lt, i_le, i_eq, i_clamp, i_upd, i_m1, Int32.toInt_toInt64, Int32.toInt_add, Int32.toInt_sub, Int32.toInt_mul, bm32, Int32.reduceToInt, Int64.reduceToInt, Nat.reduceLT, Nat.reduceEqDiff, reduceIte, true_or, or_true, true_and, and_true, false_or, or_false, not_true_eq_false, not_false_eq_true, eq_self] <;> omega))) (by first | omega | (simp (disch := omega) only [↓i_in, ↓i_isCouple, ↓i_isBridge, ↓i_isTheme, ↓i_isBarge, i_lt, i_le, i_eq, i_clamp, i_upd, i_m1, Int32.toInt_toInt64, Int32.toInt_add, Int32.toInt_sub, Int32.toInt_mul, bm32, Int32.reduceToInt, Int64.reduceToInt, Nat.reduceLT, Nat.reduceEqDiff, reduceIte, true_or, or_true, true_and, and_true, false_or, or_false, not_true_eq_false, not_false_eq_true, eq_self] <;> omega))), ?_⟩
            intro r_60 o_61 o_62 o_63 e_101
            have p_102 := p_takesCouple (PI_u15 i_3 (by first | omega | (simp (disch := omega) only [↓i_in, ↓i_isCouple, ↓i_isBridge, ↓i_isTheme, ↓i_isBarge, i_lt, i_le, i_eq, i_clamp, i_upd, i_m1, Int32.toInt_toInt64, Int32.toInt_add, Int32.toInt_sub, Int32.toInt_mul, bm32, Int32.reduceToInt, Int64.reduceToInt, Nat.reduceLT, Nat.reduceEqDiff, reduceIte, true_or, or_true, true_and, and_true, false_or, or_false, not_true_eq_false, not_false_eq_true, eq_self] <;> omega)) (by first | omega | (simp (disch := omega) only [↓i_in, ↓i_isCouple, ↓i_isBridge, ↓i_isTheme, ↓i_isBarge, i_lt, i_le, i_eq, i_clamp, i_upd, i_m1, Int32.toInt_toInt64, Int32.toInt_add, Int32.toInt_sub, Int32.toInt_mul, bm32, Int32.reduceToInt, Int64.reduceToInt, Nat.reduceLT, Nat.reduceEqDiff, reduceIte, true_or, or_true, true_and, and_true, false_or, or_false, not_true_eq_false, not_false_eq_true, eq_self] <;> omega))) (by first | omega | (simp (disch := omega) only [↓i_in, ↓i_isCouple, ↓i_isBridge, ↓i_isTheme, ↓i_isBarge, i_lt, i_le, i_eq, i_clamp, i_upd, i_m1, Int32.toInt_toInt64, Int32.toInt_add, Int32.toInt_sub, Int32.toInt_mul, bm32, Int32.reduceToInt, Int64.reduceToInt, Nat.reduceLT, Nat.reduceEqDiff, reduceIte, true_or, or_true, true_and, and_true, false_or, or_false, not_true_eq_false, not_false_eq_true, eq_self] <;> omega)) _ _ _ _ e_101.symm
            obtain ⟨i_103, i_104, i_105⟩ := p_102
            have i_103_g := i_103
            obtain ⟨⟨⟨i_103_2a, i_103_2b⟩, ⟨i_103_3a, i_103_3b⟩, ⟨i_103_4a, i_103_4b⟩, ⟨i_103_5a, i_103_5b⟩, ⟨i_103_6a, i_103_6b⟩, ⟨i_103_14a, i_103_14b⟩, ⟨i_103_42a, i_103_42b⟩⟩, ⟨i_103_15a, i_103_15b⟩, ⟨i_103_20a, i_103_20b⟩, ⟨i_103_21a, i_103_21b⟩, ⟨i_103_23a, i_103_23b⟩, ⟨i_103_24a, i_103_24b⟩⟩ := i_103_g
            try simp (disch := omega) only [↓i_in, ↓i_isCouple, ↓i_isBridge, ↓i_isTheme, ↓i_isBarge, i_lt, i_le, i_eq, i_clamp, i_upd, i_m1, Int32.toInt_toInt64, Int32.toInt_add, Int32.toInt_sub, Int32.toInt_mul, bm32, Int32.reduceToInt, Int64.reduceToInt, Nat.reduceLT, Nat.reduceEqDiff, reduceIte, true_or, or_true, true_and, and_true, false_or, or_false, not_true_eq_false, not_false_eq_true, eq_self] at i_104
            try simp (disch := omega) only [↓i_in, ↓i_isCouple, ↓i_isBridge, ↓i_isTheme, ↓i_isBarge, i_lt, i_le, i_eq, i_clamp, i_upd, i_m1, Int32.toInt_toInt64, Int32.toInt_add, Int32.toInt_sub, Int32.toInt_mul, bm32, Int32.reduceToInt, Int64.reduceToInt, Nat.reduceLT, Nat.reduceEqDiff, reduceIte, true_or, or_true, true_and, and_true, false_or, or_false, not_true_eq_false, not_false_eq_true, eq_self] at i_105
            refine ⟨fun c_106 => ?_, fun c_106 => ?_⟩
            · exact trivial
            · skip
              try simp (disch := omega) only [↓i_in, ↓i_isCouple, ↓i_isBridge, ↓i_isTheme, ↓i_isBarge, i_lt, i_le, i_eq, i_clamp, i_upd, i_m1, Int32.toInt_toInt64, Int32.toInt_add, Int32.toInt_sub, Int32.toInt_mul, bm32, Int32.reduceToInt, Int64.reduceToInt, Nat.reduceLT, Nat.reduceEqDiff, reduceIte, true_or, or_true, true_and, and_true, false_or, or_false, not_true_eq_false, not_false_eq_true, eq_self] at c_106
              refine ⟨(s_takes i_103 (by first | omega | (simp (disch := omega) only [↓i_in, ↓i_isCouple, ↓i_isBridge, ↓i_isTheme, ↓i_isBarge, i_lt, i_le, i_eq, i_clamp, i_upd, i_m1, Int32.toInt_toInt64, Int32.toInt_add, Int32.toInt_sub, Int32.toInt_mul, bm32, Int32.reduceToInt, Int64.reduceToInt, Nat.reduceLT, Nat.reduceEqDiff, reduceIte, true_or, or_true, true_and, and_true, false_or, or_false, not_true_eq_false, not_false_eq_true, eq_self] <;> omega))), ?_⟩
              intro r_67 u_66 e_107
              have p_108 := p_takes i_103 (by first | omega | (simp (disch := omega) only [↓i_in, ↓i_isCouple, ↓i_isBridge, ↓i_isTheme, ↓i_isBarge, i_lt, i_le, i_eq, i_clamp, i_upd, i_m1, Int32.toInt_toInt64, Int32.toInt_add, Int32.toInt_sub, Int32.toInt_mul, bm32, Int32.reduceToInt, Int64.reduceToInt, Nat.reduceLT, Nat.reduceEqDiff, reduceIte, true_or, or_true, true_and, and_true, false_or, or_false, not_true_eq_false, not_false_eq_true, eq_self] <;> omega)) _ _ e_107.symm
              obtain ⟨i_109, i_110, i_111, i_112, i_113, i_114, i_115⟩ := p_108
              have i_109_g := i_109
              obtain ⟨⟨⟨i_109_2a, i_109_2b⟩, ⟨i_109_3a, i_109_3b⟩, ⟨i_109_4a, i_109_4b⟩, ⟨i_109_5a, i_109_5b⟩, ⟨i_109_6a, i_109_6b⟩, ⟨i_109_14a, i_109_14b⟩, ⟨i_109_42a, i_109_42b⟩⟩, ⟨i_109_15a, i_109_15b⟩, ⟨i_109_20a, i_109_20b⟩, ⟨i_109_21a, i_109_21b⟩, ⟨i_109_23a, i_109_23b⟩, ⟨i_109_24a, i_109_24b⟩⟩ := i_109_g
              refine ⟨fun c_116 => ?_, fun c_116 => ?_⟩
              · exact trivial
              · exact trivial
        · skip
          try simp (disch := omega) only [↓i_in, ↓i_isCouple, ↓i_isBridge, ↓i_isTheme, ↓i_isBarge, i_lt, i_le, i_eq, i_clamp, i_upd, i_m1, Int32.toInt_toInt64, Int32.toInt_add, Int32.toInt_sub, Int32.toInt_mul, bm32, Int32.reduceToInt, Int64.reduceToInt, Nat.reduceLT, Nat.reduceEqDiff, reduceIte, true_or, or_true, true_and, and_true, false_or, or_false, not_true_eq_false, not_false_eq_true, eq_self] at c_89
          refine ⟨fun c_117 => ?_, fun c_117 => ?_⟩
          · skip
            try simp (disch := omega) only [↓i_in, ↓i_isCouple, ↓i_isBridge, ↓i_isTheme, ↓i_isBarge, i_lt, i_le, i_eq, i_clamp, i_upd, i_m1, Int32.toInt_toInt64, Int32.toInt_add, Int32.toInt_sub, Int32.toInt_mul, bm32, Int32.reduceToInt, Int64.reduceToInt, Nat.reduceLT, Nat.reduceEqDiff, reduceIte, true_or, or_true, true_and, and_true, false_or, or_false, not_true_eq_false, not_false_eq_true, eq_self] at c_117
            refine ⟨fun c_118 => ?_, fun c_118 => ?_⟩
            · skip
              try simp (disch := omega) only [↓i_in, ↓i_isCouple, ↓i_isBridge, ↓i_isTheme, ↓i_isBarge, i_lt, i_le, i_eq, i_clamp, i_upd, i_m1, Int32.toInt_toInt64, Int32.toInt_add, Int32.toInt_sub, Int32.toInt_mul, bm32, Int32.reduceToInt, Int64.reduceToInt, Nat.reduceLT, Nat.reduceEqDiff, reduceIte, true_or, or_true, true_and, and_true, false_or, or_false, not_true_eq_false, not_false_eq_true, eq_self] at c_118
              refine ⟨s_fails, ?_⟩
              intro r_95 u_94 e_119
              have p_120 := p_fails i_3 _ _ e_119.symm
              obtain ⟨i_121, i_122, i_123, i_124, i_125, i_126, i_127, i_128⟩ := p_120
              have i_121_g := i_121
              obtain ⟨⟨⟨i_121_2a, i_121_2b⟩, ⟨i_121_3a, i_121_3b⟩, ⟨i_121_4a, i_121_4b⟩, ⟨i_121_5a, i_121_5b⟩, ⟨i_121_6a, i_121_6b⟩, ⟨i_121_14a, i_121_14b⟩, ⟨i_121_42a, i_121_42b⟩⟩, ⟨i_121_15a, i_121_15b⟩, ⟨i_121_20a, i_121_20b⟩, ⟨i_121_21a, i_121_21b⟩, ⟨i_121_23a, i_121_23b⟩, ⟨i_121_24a, i_121_24b⟩⟩ := i_121_g
              exact trivial
            · skip
              try simp (disch := omega) only [↓i_in, ↓i_isCouple, ↓i_isBridge, ↓i_isTheme, ↓i_isBarge, i_lt, i_le, i_eq, i_clamp, i_upd, i_m1, Int32.toInt_toInt64, Int32.toInt_add, Int32.toInt_sub, Int32.toInt_mul, bm32, Int32.reduceToInt, Int64.reduceToInt, Nat.reduceLT, Nat.reduceEqDiff, reduceIte, true_or, or_true, true_and, and_true, false_or, or_false, not_true_eq_false, not_false_eq_true, eq_self] at c_118
              refine ⟨(s_takesBarge (PI_u15 i_3 (by first | omega | (simp (disch := omega) only [↓i_in, ↓i_isCouple, ↓i_isBridge, ↓i_isTheme, ↓i_isBarge, i_lt, i_le, i_eq, i_clamp, i_upd, i_m1, Int32.toInt_toInt64, Int32.toInt_add, Int32.toInt_sub, Int32.toInt_mul, bm32, Int32.reduceToInt, Int64.reduceToInt, Nat.reduceLT, Nat.reduceEqDiff, reduceIte, true_or, or_true, true_and, and_true, false_or, or_false, not_true_eq_false, not_false_eq_true, eq_self] <;> omega)) (by first | omega | (simp (disch := omega) only [↓i_in, ↓i_isCouple, ↓i_isBridge, ↓i_isTheme, ↓i_isBarge, i_lt, i_le, i_eq, i_clamp, i_upd, i_m1, Int32.toInt_toInt64, Int32.toInt_add, Int32.toInt_sub, Int32.toInt_mul, bm32, Int32.reduceToInt, Int64.reduceToInt, Nat.reduceLT, Nat.reduceEqDiff, reduceIte, true_or, or_true, true_and, and_true, false_or, or_false, not_true_eq_false, not_false_eq_true, eq_self] <;> omega))) (by first | omega | (simp (disch := omega) only [↓i_in, ↓i_isCouple, ↓i_isBridge, ↓i_isTheme, ↓i_isBarge, i_lt, i_le, i_eq, i_clamp, i_upd, i_m1, Int32.toInt_toInt64, Int32.toInt_add, Int32.toInt_sub, Int32.toInt_mul, bm32, Int32.reduceToInt, Int64.reduceToInt, Nat.reduceLT, Nat.reduceEqDiff, reduceIte, true_or, or_true, true_and, and_true, false_or, or_false, not_true_eq_false, not_false_eq_true, eq_self] <;> omega))), ?_⟩
              intro r_83 o_84 o_85 o_86 e_129
              have p_130 := p_takesBarge (PI_u15 i_3 (by first | omega | (simp (disch := omega) only [↓i_in, ↓i_isCouple, ↓i_isBridge, ↓i_isTheme, ↓i_isBarge, i_lt, i_le, i_eq, i_clamp, i_upd, i_m1, Int32.toInt_toInt64, Int32.toInt_add, Int32.toInt_sub, Int32.toInt_mul, bm32, Int32.reduceToInt, Int64.reduceToInt, Nat.reduceLT, Nat.reduceEqDiff, reduceIte, true_or, or_true, true_and, and_true, false_or, or_false, not_true_eq_false, not_false_eq_true, eq_self] <;> omega)) (by first | omega | (simp (disch := omega) only [↓i_in, ↓i_isCouple, ↓i_isBridge, ↓i_isTheme, ↓i_isBarge, i_lt, i_le, i_eq, i_clamp, i_upd, i_m1, Int32.toInt_toInt64, Int32.toInt_add, Int32.toInt_sub, Int32.toInt_mul, bm32, Int32.reduceToInt, Int64.reduceToInt, Nat.reduceLT, Nat.reduceEqDiff, reduceIte, true_or, or_true, true_and, and_true, false_or, or_false, not_true_eq_false, not_false_eq_true, eq_self] <;> omega))) (by first | omega | (simp (disch := omega) only [↓i_in, ↓i_isCouple, ↓i_isBridge, ↓i_isTheme, ↓i_isBarge, i_lt, i_le, i_eq, i_clamp, i_upd, i_m1, Int32.toInt_toInt64, Int32.toInt_add, Int32.toInt_sub, Int32.toInt_mul, bm32, Int32.reduceToInt, Int64.reduceToInt, Nat.reduceLT, Nat.reduceEqDiff, reduceIte, true_or, or_true, true_and, and_true, false_or, or_false, not_true_eq_false, not_false_eq_true, eq_self] <;> omega)) h_1 _ _ _ _ e_129.symm
              obtain ⟨i_131, i_132, i_133, i_134⟩ := p_130
              have i_131_g := i_131
              obtain ⟨⟨⟨i_131_2a, i_131_2b⟩, ⟨i_131_3a, i_131_3b⟩, ⟨i_131_4a, i_131_4b⟩, ⟨i_131_5a, i_131_5b⟩, ⟨i_131_6a, i_131_6b⟩, ⟨i_131_14a, i_131_14b⟩, ⟨i_131_42a, i_131_42b⟩⟩, ⟨i_131_15a, i_131_15b⟩, ⟨i_131_20a, i_131_20b⟩, ⟨i_131_21a, i_131_21b⟩, ⟨i_131_23a, i_131_23b⟩, ⟨i_131_24a, i_131_24b⟩⟩ := i_131_g
              try simp (disch := omega) only [↓i_in, ↓i_isCouple, ↓i_isBridge, ↓i_isTheme, ↓i_isBarge, i_lt, i_le, i_eq, i_clamp, i_upd, i_m1, Int32.toInt_toInt64, Int32.toInt_add, Int32.toInt_sub, Int32.toInt_mul, bm32, Int32.reduceToInt, Int64.reduceToInt, Nat.reduceLT, Nat.reduceEqDiff, reduceIte, true_or, or_true, true_and, and_true, false_or, or_false, not_true_eq_false, not_false_eq_true, eq_self] at i_132
              try simp (disch := omega) only [↓i_in, ↓i_isCouple, ↓i_isBridge, ↓i_isTheme, ↓i_isBarge, i_lt, i_le, i_eq, i_clamp, i_upd, i_m1, Int32.toInt_toInt64, Int32.toInt_add, Int32.toInt_sub, Int32.toInt_mul, bm32, Int32.reduceToInt, Int64.reduceToInt, Nat.reduceLT, Nat.reduceEqDiff, reduceIte, true_or, or_true, true_and, and_true, false_or, or_false, not_true_eq_false, not_false_eq_true, eq_self] at i_133
              refine ⟨fun c_135 => ?_, fun c_135 => ?_⟩
              · exact trivial
              · skip
                try simp (disch := omega) only [↓i_in, ↓i_isCouple, ↓i_isBridge, ↓i_isTheme, ↓i_isBarge, i_lt, i_le, i_eq, i_clamp, i_upd, i_m1, Int32.toInt_toInt64, Int32.toInt_add, Int32.toInt_sub, Int32.toInt_mul, bm32, Int32.reduceToInt, Int64.reduceToInt, Nat.reduceLT, Nat.reduceEqDiff, reduceIte, true_or, or_true, true_and, and_true, false_or, or_false, not_true_eq_false, not_false_eq_true, eq_self] at c_135
                refine ⟨(s_takes i_131 (by first | omega | (simp (disch := omega) only [↓i_in, ↓i_isCouple, ↓i_isBridge, ↓i_isTheme, ↓i_isBarge, i_lt, i_le, i_eq, i_clamp, i_upd, i_m1, Int32.toInt_toInt64, Int32.toInt_add, Int32.toInt_sub, Int32.toInt_mul, bm32, Int32.reduceToInt, Int64.reduceToInt, Nat.reduceLT, Nat.reduceEqDiff, reduceIte, true_or, or_true, true_and, and_true, false_or, or_false, not_true_eq_false, not_false_eq_true, eq_self] <;> omega))), ?_⟩
                intro r_90 u_89 e_136
                have p_137 := p_takes i_131 (by first | omega | (simp (disch := omega) only [↓i_in, ↓i_isCouple, ↓i_isBridge, ↓i_isTheme, ↓i_isBarge, i_lt, i_le, i_eq, i_clamp, i_upd, i_m1, Int32.toInt_toInt64, Int32.toInt_add, Int32.toInt_sub, Int32.toInt_mul, bm32, Int32.reduceToInt, Int64.reduceToInt, Nat.reduceLT, Nat.reduceEqDiff, reduceIte, true_or, or_true, true_and, and_true, false_or, or_false, not_true_eq_false, not_false_eq_true, eq_self] <;> omega)) _ _ e_136.symm
                obtain ⟨i_138, i_139, i_140, i_141, i_142, i_143, i_144⟩ := p_137
                have i_138_g := i_138
                obtain ⟨⟨⟨i_138_2a, i_138_2b⟩, ⟨i_138_3a, i_138_3b⟩, ⟨i_138_4a, i_138_4b⟩, ⟨i_138_5a, i_138_5b⟩, ⟨i_138_6a, i_138_6b⟩, ⟨i_138_14a, i_138_14b⟩, ⟨i_138_42a, i_138_42b⟩⟩, ⟨i_138_15a, i_138_15b⟩, ⟨i_138_20a, i_138_20b⟩, ⟨i_138_21a, i_138_21b⟩, ⟨i_138_23a, i_138_23b⟩, ⟨i_138_24a, i_138_24b⟩⟩ := i_138_g
                refine ⟨fun c_145 => ?_, fun c_145 => ?_⟩
                · exact trivial
                · exact trivial
          · skip
            try simp (disch := omega) only [↓i_in, ↓i_isCouple, ↓i_isBridge, ↓i_isTheme, ↓i_isBarge, i_lt, i_le, i_eq, i_clamp, i_upd, i_m1, Int32.toInt_toInt64, Int32.toInt_add, Int32.toInt_sub, Int32.toInt_mul, bm32, Int32.reduceToInt, Int64.reduceToInt, Nat.reduceLT, Nat.reduceEqDiff, reduceIte, true_or, or_true, true_and, and_true, false_or, or_false, not_true_eq_false, not_false_eq_true, eq_self] at c_117
            refine ⟨fun c_146 => ?_, fun c_146 => ?_⟩
            · skip
              try simp (disch := omega) only [↓i_in, ↓i_isCouple, ↓i_isBridge, ↓i_isTheme, ↓i_isBarge, i_lt, i_le, i_eq, i_clamp, i_upd, i_m1, Int32.toInt_toInt64, Int32.toInt_add, Int32.toInt_sub, Int32.toInt_mul, bm32, Int32.reduceToInt, Int64.reduceToInt, Nat.reduceLT, Nat.reduceEqDiff, reduceIte, true_or, or_true, true_and, and_true, false_or, or_false, not_true_eq_false, not_false_eq_true, eq_self] at c_146
              refine ⟨fun c_147 => ?_, fun c_147 => ?_⟩
              · skip
                try simp (disch := omega) only [↓i_in, ↓i_isCouple, ↓i_isBridge, ↓i_isTheme, ↓i_isBarge, i_lt, i_le, i_eq, i_clamp, i_upd, i_m1, Int32.toInt_toInt64, Int32.toInt_add, Int32.toInt_sub, Int32.toInt_mul, bm32, Int32.reduceToInt, Int64.reduceToInt, Nat.reduceLT, Nat.reduceEqDiff, reduceIte, true_or, or_true, true_and, and_true, false_or, or_false, not_true_eq_false, not_false_eq_true, eq_self] at c_147
                refine ⟨(s_takesSnow (PI_u15 i_3 (by first | omega | (simp (disch := omega) only [↓i_in, ↓i_isCouple, ↓i_isBridge, ↓i_isTheme, ↓i_isBarge, i_lt, i_le, i_eq, i_clamp, i_upd, i_m1, Int32.toInt_toInt64, Int32.toInt_add, Int32.toInt_sub, Int32.toInt_mul, bm32, Int32.reduceToInt, Int64.reduceToInt, Nat.reduceLT, Nat.reduceEqDiff, reduceIte, true_or, or_true, true_and, and_true, false_or, or_false, not_true_eq_false, not_false_eq_true, eq_self] <;> omega)) (by first | omega | (simp (disch := omega) only [↓i_in, ↓i_isCouple, ↓i_isBridge, ↓i_isTheme, ↓i_isBarge, i_lt, i_le, i_eq, i_clamp, i_upd, i_m1, Int32.toInt_toInt64, Int32.toInt_add, Int32.toInt_sub, Int32.toInt_mul, bm32, Int32.reduceToInt, Int64.reduceToInt, Nat.reduceLT, Nat.reduceEqDiff, reduceIte, true_or, or_true, true_and, and_true, false_or, or_false, not_true_eq_false, not_false_eq_true, eq_self] <;> omega)))), ?_⟩
                intro r_109 u_108 e_148
                have p_149 := p_takesSnow (PI_u15 i_3 (by first | omega | (simp (disch := omega) only [↓i_in, ↓i_isCouple, ↓i_isBridge, ↓i_isTheme, ↓i_isBarge, i_lt, i_le, i_eq, i_clamp, i_upd, i_m1, Int32.toInt_toInt64, Int32.toInt_add, Int32.toInt_sub, Int32.toInt_mul, bm32, Int32.reduceToInt, Int64.reduceToInt, Nat.reduceLT, Nat.reduceEqDiff, reduceIte, true_or, or_true, true_and, and_true, false_or, or_false, not_true_eq_false, not_false_eq_true, eq_self] <;> omega)) (by first | omega | (simp (disch := omega) only [↓i_in, ↓i_isCouple, ↓i_isBridge, ↓i_isTheme, ↓i_isBarge, i_lt, i_le, i_eq, i_clamp, i_upd, i_m1, Int32.toInt_toInt64, Int32.toInt_add, Int32.toInt_sub, Int32.toInt_mul, bm32, Int32.reduceToInt, Int64.reduceToInt, Nat.reduceLT, Nat.reduceEqDiff, reduceIte, true_or, or_true, true_and, and_true, false_or, or_false, not_true_eq_false, not_false_eq_true, eq_self] <;> omega))) _ _ e_148.symm
                obtain ⟨i_150, i_151, i_152⟩ := p_149
                have i_150_g := i_150
                obtain ⟨⟨⟨i_150_2a, i_150_2b⟩, ⟨i_150_3a, i_150_3b⟩, ⟨i_150_4a, i_150_4b⟩, ⟨i_150_5a, i_150_5b⟩, ⟨i_150_6a, i_150_6b⟩, ⟨i_150_14a, i_150_14b⟩, ⟨i_150_42a, i_150_42b⟩⟩, ⟨i_150_15a, i_150_15b⟩, ⟨i_150_20a, i_150_20b⟩, ⟨i_150_21a, i_150_21b⟩, ⟨i_150_23a, i_150_23b⟩, ⟨i_150_24a, i_150_24b⟩⟩ := i_150_g
                try simp (disch := omega) only [↓i_in, ↓i_isCouple, ↓i_isBridge, ↓i_isTheme, ↓i_isBarge, i_lt, i_le, i_eq, i_clamp, i_upd, i_m1, Int32.toInt_toInt64, Int32.toInt_add, Int32.toInt_sub, Int32.toInt_mul, bm32, Int32.reduceToInt, Int64.reduceToInt, Nat.reduceLT, Nat.reduceEqDiff, reduceIte, true_or, or_true, true_and, and_true, false_or, or_false, not_true_eq_false, not_false_eq_true, eq_self] at i_151
                try simp (disch := omega) only [↓i_in, ↓i_isCouple, ↓i_isBridge, ↓i_isTheme, ↓i_isBarge, i_lt, i_le, i_eq, i_clamp, i_upd, i_m1, Int32.toInt_toInt64, Int32.toInt_add, Int32.toInt_sub, Int32.toInt_mul, bm32, Int32.reduceToInt, Int64.reduceToInt, Nat.reduceLT, Nat.reduceEqDiff, reduceIte, true_or, or_true, true_and, and_true, false_or, or_false, not_true_eq_false, not_false_eq_true, eq_self] at i_152
                refine ⟨fun c_153 => ?_, fun c_153 => ?_⟩
                · exact trivial
                · skip
                  try simp (disch := omega) only [↓i_in, ↓i_isCouple, ↓i_isBridge, ↓i_isTheme, ↓i_isBarge, i_lt, i_le, i_eq, i_clamp, i_upd, i_m1, Int32.toInt_toInt64, Int32.toInt_add, Int32.toInt_sub, Int32.toInt_mul, bm32, Int32.reduceToInt, Int64.reduceToInt, Nat.reduceLT, Nat.reduceEqDiff, reduceIte, true_or, or_true, true_and, and_true, false_or, or_false, not_true_eq_false, not_false_eq_true, eq_self] at c_153
                  refine ⟨(s_takes i_150 (by first | omega | (simp (disch := omega) only [↓i_in, ↓i_isCouple, ↓i_isBridge, ↓i_isTheme, ↓i_isBarge, i_lt, i_le, i_eq, i_clamp, i_upd, i_m1, Int32.toInt_toInt64, Int32.toInt_add, Int32.toInt_sub, Int32.toInt_mul, bm32, Int32.reduceToInt, Int64.reduceToInt, Nat.reduceLT, Nat.reduceEqDiff, reduceIte, true_or, or_true, true_and, and_true, false_or, or_false, not_true_eq_false, not_false_eq_true, eq_self] <;> omega))), ?_⟩
                  intro r_113 u_112 e_154
                  have p_155 := p_takes i_150 (by first | omega | (simp (disch := omega) only [↓i_in, ↓i_isCouple, ↓i_isBridge, ↓i_isTheme, ↓i_isBarge, i_lt, i_le, i_eq, i_clamp, i_upd, i_m1, Int32.toInt_toInt64, Int32.toInt_add, Int32.toInt_sub, Int32.toInt_mul, bm32, Int32.reduceToInt, Int64.reduceToInt, Nat.reduceLT, Nat.reduceEqDiff, reduceIte, true_or, or_true, true_and, and_true, false_or, or_false, not_true_eq_false, not_false_eq_true, eq_self] <;> omega)) _ _ e_154.symm
                  obtain ⟨i_156, i_157, i_158, i_159, i_160, i_161, i_162⟩ := p_155
                  have i_156_g := i_156
                  obtain ⟨⟨⟨i_156_2a, i_156_2b⟩, ⟨i_156_3a, i_156_3b⟩, ⟨i_156_4a, i_156_4b⟩, ⟨i_156_5a, i_156_5b⟩, ⟨i_156_6a, i_156_6b⟩, ⟨i_156_14a, i_156_14b⟩, ⟨i_156_42a, i_156_42b⟩⟩, ⟨i_156_15a, i_156_15b⟩, ⟨i_156_20a, i_156_20b⟩, ⟨i_156_21a, i_156_21b⟩, ⟨i_156_23a, i_156_23b⟩, ⟨i_156_24a, i_156_24b⟩⟩ := i_156_g
                  refine ⟨fun c_163 => ?_, fun c_163 => ?_⟩
                  · exact trivial
                  · exact trivial
              · skip
                try simp (disch := omega) only [↓i_in, ↓i_isCouple, ↓i_isBridge, ↓i_isTheme, ↓i_isBarge, i_lt, i_le, i_eq, i_clamp, i_upd, i_m1, Int32.toInt_toInt64, Int32.toInt_add, Int32.toInt_sub, Int32.toInt_mul, bm32, Int32.reduceToInt, Int64.reduceToInt, Nat.reduceLT, Nat.reduceEqDiff, reduceIte, true_or, or_true, true_and, and_true, false_or, or_false, not_true_eq_false, not_false_eq_true, eq_self] at c_147
                refine ⟨s_fails, ?_⟩
                intro r_117 u_116 e_164
                have p_165 := p_fails i_3 _ _ e_164.symm
                obtain ⟨i_166, i_167, i_168, i_169, i_170, i_171, i_172, i_173⟩ := p_165
                have i_166_g := i_166
                obtain ⟨⟨⟨i_166_2a, i_166_2b⟩, ⟨i_166_3a, i_166_3b⟩, ⟨i_166_4a, i_166_4b⟩, ⟨i_166_5a, i_166_5b⟩, ⟨i_166_6a, i_166_6b⟩, ⟨i_166_14a, i_166_14b⟩, ⟨i_166_42a, i_166_42b⟩⟩, ⟨i_166_15a, i_166_15b⟩, ⟨i_166_20a, i_166_20b⟩, ⟨i_166_21a, i_166_21b⟩, ⟨i_166_23a, i_166_23b⟩, ⟨i_166_24a, i_166_24b⟩⟩ := i_166_g
                exact trivial
            · skip
              try simp (disch := omega) only [↓i_in, ↓i_isCouple, ↓i_isBridge, ↓i_isTheme, ↓i_isBarge, i_lt, i_le, i_eq, i_clamp, i_upd, i_m1, Int32.toInt_toInt64, Int32.toInt_add, Int32.toInt_sub, Int32.toInt_mul, bm32, Int32.reduceToInt, Int64.reduceToInt, Nat.reduceLT, Nat.reduceEqDiff, reduceIte, true_or, or_true, true_and, and_true, false_or, or_false, not_true_eq_false, not_false_eq_true, eq_self] at c_146
              refine ⟨s_fails, ?_⟩
              intro r_100 u_99 e_174
              have p_175 := p_fails i_3 _ _ e_174.symm
              obtain ⟨i_176, i_177, i_178, i_179, i_180, i_181, i_182, i_183⟩ := p_175
              have i_176_g := i_176
              obtain ⟨⟨⟨i_176_2a, i_176_2b⟩, ⟨i_176_3a, i_176_3b⟩, ⟨i_176_4a, i_176_4b⟩, ⟨i_176_5a, i_176_5b⟩, ⟨i_176_6a, i_176_6b⟩, ⟨i_176_14a, i_176_14b⟩, ⟨i_176_42a, i_176_42b⟩⟩, ⟨i_176_15a, i_176_15b⟩, ⟨i_176_20a, i_176_20b⟩, ⟨i_176_21a, i_176_21b⟩, ⟨i_176_23a, i_176_23b⟩, ⟨i_176_24a, i_176_24b⟩⟩ := i_176_g
              exact trivial
set_option maxHeartbeats 4000000 in
theorem p_takesClause {G : Nat → Int32} {f13 : Nat → Int32} {f27 : Nat → Int32} {f28 : Nat → Int32} {f29 : Nat → Int32} {f30 : Nat → Int32} {f31 : Nat → Int32} (h_0 : PI G) (h_1 : RI f30) : ∀ (r : Int32) (u : (Nat → Int32)) (u2 : (Nat → Int32)) (u3 : (Nat → Int32)) (u4 : (Nat → Int32)) (u5 : (Nat → Int32)) (u6 : (Nat → Int32)), f_m_takesClause G f13 f27 f28 f29 f30 f31 = (r, u, u2, u3, u4, u5, u6) → PI u ∧ ((G 15).toInt ≤ (u 15).toInt) ∧ ((u 14).toInt = (G 14).toInt) ∧ (r.toInt = 0 ∨ (G 15).toInt < (u 15).toInt) ∧ RI u5 := by
  have h_0_g := h_0
  obtain ⟨⟨⟨h_0_2a, h_0_2b⟩, ⟨h_0_3a, h_0_3b⟩, ⟨h_0_4a, h_0_4b⟩, ⟨h_0_5a, h_0_5b⟩, ⟨h_0_6a, h_0_6b⟩, ⟨h_0_14a, h_0_14b⟩, ⟨h_0_42a, h_0_42b⟩⟩, ⟨h_0_15a, h_0_15b⟩, ⟨h_0_20a, h_0_20b⟩, ⟨h_0_21a, h_0_21b⟩, ⟨h_0_23a, h_0_23b⟩, ⟨h_0_24a, h_0_24b⟩⟩ := h_0_g
  intro r u u2 u3 u4 u5 u6 e
  unfold f_m_takesClause at e
  generalize x_1 : (f_m_here G f13) = z_2 at e
  obtain ⟨r_3, u_2⟩ := z_2
  try dsimp only at e
  have p_3 := p_here h_0 _ _ x_1
  obtain ⟨i_4, i_5, i_6, i_7, i_8, i_9, i_10, i_11⟩ := p_3
  have i_4_g := i_4
  obtain ⟨⟨⟨i_4_2a, i_4_2b⟩, ⟨i_4_3a, i_4_3b⟩, ⟨i_4_4a, i_4_4b⟩, ⟨i_4_5a, i_4_5b⟩, ⟨i_4_6a, i_4_6b⟩, ⟨i_4_14a, i_4_14b⟩, ⟨i_4_42a, i_4_42b⟩⟩, ⟨i_4_15a, i_4_15b⟩, ⟨i_4_20a, i_4_20b⟩, ⟨i_4_21a, i_4_21b⟩, ⟨i_4_23a, i_4_23b⟩, ⟨i_4_24a, i_4_24b⟩⟩ := i_4_g
  by_cases c_12 : r_3 = 98
  · rw [if_pos c_12] at e
    try simp (disch := omega) only [↓i_in, ↓i_isCouple, ↓i_isBridge, ↓i_isTheme, ↓i_isBarge, i_lt, i_le, i_eq, i_clamp, i_upd, i_m1, Int32.toInt_toInt64, Int32.toInt_add, Int32.toInt_sub, Int32.toInt_mul, bm32, Int32.reduceToInt, Int64.reduceToInt, Nat.reduceLT, Nat.reduceEqDiff, reduceIte, true_or, or_true, true_and, and_true, false_or, or_false, not_true_eq_false, not_false_eq_true, eq_self] at c_12
    by_cases c_13 : (u_2 20) ≤ 0
    · rw [if_pos c_13] at e
      try simp (disch := omega) only [↓i_in, ↓i_isCouple, ↓i_isBridge, ↓i_isTheme, ↓i_isBarge, i_lt, i_le, i_eq, i_clamp, i_upd, i_m1, Int32.toInt_toInt64, Int32.toInt_add, Int32.toInt_sub, Int32.toInt_mul, bm32, Int32.reduceToInt, Int64.reduceToInt, Nat.reduceLT, Nat.reduceEqDiff, reduceIte, true_or, or_true, true_and, and_true, false_or, or_false, not_true_eq_false, not_false_eq_true, eq_self] at c_13
      generalize x_14 : (f_m_takesBridges (upd u_2 15 ((u_2 15) + 1)) f13 f27) = z_15 at e
      obtain ⟨r_11, o_12, o_13⟩ := z_15
      try dsimp only at e
      have p_16 := p_takesBridges (PI_u15 i_4 (by first | omega | (simp (disch := omega) only [↓i_in, ↓i_isCouple, ↓i_isBridge, ↓i_isTheme, ↓i_isBarge, i_lt, i_le, i_eq, i_clamp, i_upd, i_m1, Int32.toInt_toInt64, Int32.toInt_add, Int32.toInt_sub, Int32.toInt_mul, bm32, Int32.reduceToInt, Int64.reduceToInt, Nat.reduceLT, Nat.reduceEqDiff, reduceIte, true_or, or_true, true_and, and_true, false_or, or_false, not_true_eq_false, not_false_eq_true, eq_self] <;> omega)) (by first | omega | (simp (disch := omega) only [↓i_in, ↓i_isCouple, ↓i_isBridge, ↓i_isTheme, ↓i_isBarge, i_lt, i_le, i_eq, i_clamp, i_upd, i_m1, Int32.toInt_toInt64, Int32.toInt_add, Int32.toInt_sub, Int32.toInt_mul, bm32, Int32.reduceToInt, Int64.reduceToInt, Nat.reduceLT, Nat.reduceEqDiff, reduceIte, true_or, or_true, true_and, and_true, false_or, or_false, not_true_eq_false, not_false_eq_true, eq_self] <;> omega))) _ _ _ x_14
      obtain ⟨i_17, i_18, i_19⟩ := p_16
      have i_17_g := i_17
      obtain ⟨⟨⟨i_17_2a, i_17_2b⟩, ⟨i_17_3a, i_17_3b⟩, ⟨i_17_4a, i_17_4b⟩, ⟨i_17_5a, i_17_5b⟩, ⟨i_17_6a, i_17_6b⟩, ⟨i_17_14a, i_17_14b⟩, ⟨i_17_42a, i_17_42b⟩⟩, ⟨i_17_15a, i_17_15b⟩, ⟨i_17_20a, i_17_20b⟩, ⟨i_17_21a, i_17_21b⟩, ⟨i_17_23a, i_17_23b⟩, ⟨i_17_24a, i_17_24b⟩⟩ := i_17_g
      try simp (disch := omega) only [↓i_in, ↓i_isCouple, ↓i_isBridge, ↓i_isTheme, ↓i_isBarge, i_lt, i_le, i_eq, i_clamp, i_upd, i_m1, Int32.toInt_toInt64, Int32.toInt_add, Int32.toInt_sub, Int32.toInt_mul, bm32, Int32.reduceToInt, Int64.reduceToInt, Nat.reduceLT, Nat.reduceEqDiff, reduceIte, true_or, or_true, true_and, and_true, false_or, or_false, not_true_eq_false, not_false_eq_true, eq_self] at i_18
      try simp (disch := omega) only [↓i_in, ↓i_isCouple, ↓i_isBridge, ↓i_isTheme, ↓i_isBarge, i_lt, i_le, i_eq, i_clamp, i_upd, i_m1, Int32.toInt_toInt64, Int32.toInt_add, Int32.toInt_sub, Int32.toInt_mul, bm32, Int32.reduceToInt, Int64.reduceToInt, Nat.reduceLT, Nat.reduceEqDiff, reduceIte, true_or, or_true, true_and, and_true, false_or, or_false, not_true_eq_false, not_false_eq_true, eq_self] at i_19
      by_cases c_20 : r_11 = 0
      · rw [if_pos c_20] at e
        try simp (disch := omega) only [↓i_in, ↓i_isCouple, ↓i_isBridge, ↓i_isTheme, ↓i_isBarge, i_lt, i_le, i_eq, i_clamp, i_upd, i_m1, Int32.toInt_toInt64, Int32.toInt_add, Int32.toInt_sub, Int32.toInt_mul, bm32, Int32.reduceToInt, Int64.reduceToInt, Nat.reduceLT, Nat.reduceEqDiff, reduceIte, true_or, or_true, true_and, and_true, false_or, or_false, not_true_eq_false, not_false_eq_true, eq_self] at c_20
        cases e
        exact ⟨i_17, (by first | omega | (simp (disch := omega) only [↓i_in, ↓i_isCouple, ↓i_isBridge, ↓i_isTheme, ↓i_isBarge, i_lt, i_le, i_eq, i_clamp, i_upd, i_m1, Int32.toInt_toInt64, Int32.toInt_add, Int32.toInt_sub, Int32.toInt_mul, bm32, Int32.reduceToInt, Int64.reduceToInt, Nat.reduceLT, Nat.reduceEqDiff, reduceIte, true_or, or_true, true_and, and_true, false_or, or_false, not_true_eq_false, not_false_eq_true, eq_self] <;> omega)), (by first | omega | (simp (disch := omega) only [↓i_in, ↓i_isCouple, ↓i_isBridge, ↓i_isTheme, ↓i_isBarge, i_lt, i_le, i_eq, i_clamp, i_upd, i_m1, Int32.toInt_toInt64, Int32.toInt_add, Int32.toInt_sub, Int32.toInt_mul, bm32, Int32.reduceToInt, Int64.reduceToInt, Nat.reduceLT, Nat.reduceEqDiff, reduceIte, true_or, or_true, true_and, and_true, false_or, or_false, not_true_eq_false, not_false_eq_true, eq_self] <;> omega)), (by first | omega | (simp (disch := omega) only [↓i_in, ↓i_isCouple, ↓i_isBridge, ↓i_isTheme, ↓i_isBarge, i_lt, i_le, i_eq, i_clamp, i_upd, i_m1, Int32.toInt_toInt64, Int32.toInt_add, Int32.toInt_sub, Int32.toInt_mul, bm32, Int32.reduceToInt, Int64.reduceToInt, Nat.reduceLT, Nat.reduceEqDiff, reduceIte, true_or, or_true, true_and, and_true, false_or, or_false, not_true_eq_false, not_false_eq_true, eq_self] <;> omega)), h_1⟩
      · rw [if_neg c_20] at e
        try simp (disch := omega) only [↓i_in, ↓i_isCouple, ↓i_isBridge, ↓i_isTheme, ↓i_isBarge, i_lt, i_le, i_eq, i_clamp, i_upd, i_m1, Int32.toInt_toInt64, Int32.toInt_add, Int32.toInt_sub, Int32.toInt_mul, bm32, Int32.reduceToInt, Int64.reduceToInt, Nat.reduceLT, Nat.reduceEqDiff, reduceIte, true_or, or_true, true_and, and_true, false_or, or_false, not_true_eq_false, not_false_eq_true, eq_self] at c_20
        generalize x_21 : (f_m_takes o_12 f13 59) = z_22 at e
        obtain ⟨r_17, u_16⟩ := z_22
        try dsimp only at e
        have p_23 := p_takes i_17 (by first | omega | (simp (disch := omega) only [↓i_in, ↓i_isCouple, ↓i_isBridge, ↓i_isTheme, ↓i_isBarge, i_lt, i_le, i_eq, i_clamp, i_upd, i_m1, Int32.toInt_toInt64, Int32.toInt_add, Int32.toInt_sub, Int32.toInt_mul, bm32, Int32.reduceToInt, Int64.reduceToInt, Nat.reduceLT, Nat.reduceEqDiff, reduceIte, true_or, or_true, true_and, and_true, false_or, or_false, not_true_eq_false, not_false_eq_true, eq_self] <;> omega)) _ _ x_21
        obtain ⟨i_24, i_25, i_26, i_27, i_28, i_29, i_30⟩ := p_23
        have i_24_g := i_24
        obtain ⟨⟨⟨i_24_2a, i_24_2b⟩, ⟨i_24_3a, i_24_3b⟩, ⟨i_24_4a, i_24_4b⟩, ⟨i_24_5a, i_24_5b⟩, ⟨i_24_6a, i_24_6b⟩, ⟨i_24_14a, i_24_14b⟩, ⟨i_24_42a, i_24_42b⟩⟩, ⟨i_24_15a, i_24_15b⟩, ⟨i_24_20a, i_24_20b⟩, ⟨i_24_21a, i_24_21b⟩, ⟨i_24_23a, i_24_23b⟩, ⟨i_24_24a, i_24_24b⟩⟩ := i_24_g
        by_cases c_31 : r_17 = 0
        · rw [if_pos c_31] at e
          try simp (disch := omega) only [↓i_in, ↓i_isCouple, ↓i_isBridge, ↓i_isTheme, ↓i_isBarge, i_lt, i_le, i_eq, i_clamp, i_upd, i_m1, Int32.toInt_toInt64, Int32.toInt_add, Int32.toInt_sub, Int32.toInt_mul, bm32, Int32.reduceToInt, Int64.reduceToInt, Nat.reduceLT, Nat.reduceEqDiff, reduceIte, true_or, or_true, true_and, and_true, false_or, or_false, not_true_eq_false, not_false_eq_true, eq_self] at c_31
          cases e
          exact ⟨i_24, (by first | omega | (simp (disch := omega) only [↓i_in, ↓i_isCouple, ↓i_isBridge, ↓i_isTheme, ↓i_isBarge, i_lt, i_le, i_eq, i_clamp, i_upd, i_m1, Int32.toInt_toInt64, Int32.toInt_add, Int32.toInt_sub, Int32.toInt_mul, bm32, Int32.reduceToInt, Int64.reduceToInt, Nat.reduceLT, Nat.reduceEqDiff, reduceIte, true_or, or_true, true_and, and_true, false_or, or_false, not_true_eq_false, not_false_eq_true, eq_self] <;> omega)), (by first | omega | (simp (disch := omega) only [↓i_in, ↓i_isCouple, ↓i_isBridge, ↓i_isTheme, ↓i_isBarge, i_lt, i_le, i_eq, i_clamp, i_upd, i_m1, Int32.toInt_toInt64, Int32.toInt_add, Int32.toInt_sub, Int32.toInt_mul, bm32, Int32.reduceToInt, Int64.reduceToInt, Nat.reduceLT, Nat.reduceEqDiff, reduceIte, true_or, or_true, true_and, and_true, false_or, or_false, not_true_eq_false, not_false_eq_true, eq_self] <;> omega)), (by first | omega | (simp (disch := omega) only [↓i_in, ↓i_isCouple, ↓i_isBridge, ↓i_isTheme, ↓i_isBarge, i_lt, i_le, i_eq, i_clamp, i_upd, i_m1, Int32.toInt_toInt64, Int32.toInt_add, Int32.toInt_sub, Int32.toInt_mul, bm32, Int32.reduceToInt, Int64.reduceToInt, Nat.reduceLT, Nat.reduceEqDiff, reduceIte, true_or, or_true, true_and, and_true, false_or, or_false, not_true_eq_false, not_false_eq_true, eq_self] <;> omega)), h_1⟩
        · rw [if_neg c_31] at e
          try simp (disch := omega) only [↓i_in, ↓i_isCouple, ↓i_isBridge, ↓i_isTheme, ↓i_isBarge, i_lt, i_le, i_eq, i_clamp, i_upd, i_m1, Int32.toInt_toInt64, Int32.toInt_add, Int32.toInt_sub, Int32.toInt_mul, bm32, Int32.reduceToInt, Int64.reduceToInt, Nat.reduceLT, Nat.reduceEqDiff, reduceIte, true_or, or_true, true_and, and_true, false_or, or_false, not_true_eq_false, not_false_eq_true, eq_self] at c_31
          cases e
          exact ⟨i_24, (by first | omega | (simp (disch := omega) only [↓i_in, ↓i_isCouple, ↓i_isBridge, ↓i_isTheme, ↓i_isBarge, i_lt, i_le, i_eq, i_clamp, i_upd, i_m1, Int32.toInt_toInt64, Int32.toInt_add, Int32.toInt_sub, Int32.toInt_mul, bm32, Int32.reduceToInt, Int64.reduceToInt, Nat.reduceLT, Nat.reduceEqDiff, reduceIte, true_or, or_true, true_and, and_true, false_or, or_false, not_true_eq_false, not_false_eq_true, eq_self] <;> omega)), (by first | omega | (simp (disch := omega) only [↓i_in, ↓i_isCouple, ↓i_isBridge, ↓i_isTheme, ↓i_isBarge, i_lt, i_le, i_eq, i_clamp, i_upd, i_m1, Int32.toInt_toInt64, Int32.toInt_add, Int32.toInt_sub, Int32.toInt_mul, bm32, Int32.reduceToInt, Int64.reduceToInt, Nat.reduceLT, Nat.reduceEqDiff, reduceIte, true_or, or_true, true_and, and_true, false_or, or_false, not_true_eq_false, not_false_eq_true, eq_self] <;> omega)), (by first | omega | (simp (disch := omega) only [↓i_in, ↓i_isCouple, ↓i_isBridge, ↓i_isTheme, ↓i_isBarge, i_lt, i_le, i_eq, i_clamp, i_upd, i_m1, Int32.toInt_toInt64, Int32.toInt_add, Int32.toInt_sub, Int32.toInt_mul, bm32, Int32.reduceToInt, Int64.reduceToInt, Nat.reduceLT, Nat.reduceEqDiff, reduceIte, true_or, or_true, true_and, and_true, false_or, or_false, not_true_eq_false, not_false_eq_true, eq_self] <;> omega)), h_1⟩
    · rw [if_neg c_13] at e
      try simp (disch := omega) only [↓i_in, ↓i_isCouple, ↓i_isBridge, ↓i_isTheme, ↓i_isBarge, i_lt, i_le, i_eq, i_clamp, i_upd, i_m1, Int32.toInt_toInt64, Int32.toInt_add, Int32.toInt_sub, Int32.toInt_mul, bm32, Int32.reduceToInt, Int64.reduceToInt, Nat.reduceLT, Nat.reduceEqDiff, reduceIte, true_or, or_true, true_and, and_true, false_or, or_false, not_true_eq_false, not_false_eq_true, eq_self] at c_13
      generalize x_32 : (f_m_fails u_2 3 (u_2 16)) = z_33 at e
      obtain ⟨r_22, u_21⟩ := z_33
      try dsimp only at e
      have p_34 := p_fails i_4 _ _ x_32
      obtain ⟨i_35, i_36, i_37, i_38, i_39, i_40, i_41, i_42⟩ := p_34
      have i_35_g := i_35
      obtain ⟨⟨⟨i_35_2a, i_35_2b⟩, ⟨i_35_3a, i_35_3b⟩, ⟨i_35_4a, i_35_4b⟩, ⟨i_35_5a, i_35_5b⟩, ⟨i_35_6a, i_35_6b⟩, ⟨i_35_14a, i_35_14b⟩, ⟨i_35_42a, i_35_42b⟩⟩, ⟨i_35_15a, i_35_15b⟩, ⟨i_35_20a, i_35_20b⟩, ⟨i_35_21a, i_35_21b⟩, ⟨i_35_23a, i_35_23b⟩, ⟨i_35_24a, i_35_24b⟩⟩ := i_35_g
      cases e
      exact ⟨i_35, (by first | omega | (simp (disch := omega) only [↓i_in, ↓i_isCouple, ↓i_isBridge, ↓i_isTheme, ↓i_isBarge, i_lt, i_le, i_eq, i_clamp, i_upd, i_m1, Int32.toInt_toInt64, Int32.toInt_add, Int32.toInt_sub, Int32.toInt_mul, bm32, Int32.reduceToInt, Int64.reduceToInt, Nat.reduceLT, Nat.reduceEqDiff, reduceIte, true_or, or_true, true_and, and_true, false_or, or_false, not_true_eq_false, not_false_eq_true, eq_self] <;> omega)), (by first | omega | (simp (disch := omega) only [↓i_in, ↓i_isCouple, ↓i_isBridge, ↓i_isTheme, ↓i_isBarge, i_lt, i_le, i_eq, i_clamp, i_upd, i_m1, Int32.toInt_toInt64, Int32.toInt_add, Int32.toInt_sub, Int32.toInt_mul, bm32, Int32.reduceToInt, Int64.reduceToInt, Nat.reduceLT, Nat.reduceEqDiff, reduceIte, true_or, or_true, true_and, and_true, false_or, or_false, not_true_eq_false, not_false_eq_true, eq_self] <;> omega)), (by first | omega | (simp (disch := omega) only [↓i_in, ↓i_isCouple, ↓i_isBridge, ↓i_isTheme, ↓i_isBarge, i_lt, i_le, i_eq, i_clamp, i_upd, i_m1, Int32.toInt_toInt64, Int32.toInt_add, Int32.toInt_sub, Int32.toInt_mul, bm32, Int32.reduceToInt, Int64.reduceToInt, Nat.reduceLT, Nat.reduceEqDiff, reduceIte, true_or, or_true, true_and, and_true, false_or, or_false, not_true_eq_false, not_false_eq_true, eq_self] <;> omega)), h_1⟩
  · rw [if_neg c_12] at e
    try simp (disch := omega) only [↓i_in, ↓i_isCouple, ↓i_isBridge, ↓i_isTheme, ↓i_isBarge, i_lt, i_le, i_eq, i_clamp, i_upd, i_m1, Int32.toInt_toInt64, Int32.toInt_add, Int32.toInt_sub, Int32.toInt_mul, bm32, Int32.reduceToInt, Int64.reduceToInt, Nat.reduceLT, Nat.reduceEqDiff, reduceIte, true_or, or_true, true_and, and_true, false_or, or_false, not_true_eq_false, not_false_eq_true, eq_self] at c_12
    by_cases c_43 : (u_2 20) ≤ 0
    · rw [if_pos c_43] at e
      try simp (disch := omega) only [↓i_in, ↓i_isCouple, ↓i_isBridge, ↓i_isTheme, ↓i_isBarge, i_lt, i_le, i_eq, i_clamp, i_upd, i_m1, Int32.toInt_toInt64, Int32.toInt_add, Int32.toInt_sub, Int32.toInt_mul, bm32, Int32.reduceToInt, Int64.reduceToInt, Nat.reduceLT, Nat.reduceEqDiff, reduceIte, true_or, or_true, true_and, and_true, false_or, or_false, not_true_eq_false, not_false_eq_true, eq_self] at c_43
      generalize x_44 : (f_m_fails u_2 1 (u_2 16)) = z_45 at e
      obtain ⟨r_27, u_26⟩ := z_45
      try dsimp only at e
      have p_46 := p_fails i_4 _ _ x_44
      obtain ⟨i_47, i_48, i_49, i_50, i_51, i_52, i_53, i_54⟩ := p_46
      have i_47_g := i_47
      obtain ⟨⟨⟨i_47_2a, i_47_2b⟩, ⟨i_47_3a, i_47_3b⟩, ⟨i_47_4a, i_47_4b⟩, ⟨i_47_5a, i_47_5b⟩, ⟨i_47_6a, i_47_6b⟩, ⟨i_47_14a, i_47_14b⟩, ⟨i_47_42a, i_47_42b⟩⟩, ⟨i_47_15a, i_47_15b⟩, ⟨i_47_20a, i_47_20b⟩, ⟨i_47_21a, i_47_21b⟩, ⟨i_47_23a, i_47_23b⟩, ⟨i_47_24a, i_47_24b⟩⟩ := i_47_g
      cases e
      exact ⟨i_47, (by first | omega | (simp (disch := omega) only [↓i_in, ↓i_isCouple, ↓i_isBridge, ↓i_isTheme, ↓i_isBarge, i_lt, i_le, i_eq, i_clamp, i_upd, i_m1, Int32.toInt_toInt64, Int32.toInt_add, Int32.toInt_sub, Int32.toInt_mul, bm32, Int32.reduceToInt, Int64.reduceToInt, Nat.reduceLT, Nat.reduceEqDiff, reduceIte, true_or, or_true, true_and, and_true, false_or, or_false, not_true_eq_false, not_false_eq_true, eq_self] <;> omega)), (by first | omega | (simp (disch := omega) only [↓i_in, ↓i_isCouple, ↓i_isBridge, ↓i_isTheme, ↓i_isBarge, i_lt, i_le, i_eq, i_clamp, i_upd, i_m1, Int32.toInt_toInt64, Int32.toInt_add, Int32.toInt_sub, Int32.toInt_mul, bm32, Int32.reduceToInt, Int64.reduceToInt, Nat.reduceLT, Nat.reduceEqDiff, reduceIte, true_or, or_true, true_and, and_true, false_or, or_false, not_true_eq_false, not_false_eq_true, eq_self] <;> omega)), (by first | omega | (simp (disch := omega) only [↓i_in, ↓i_isCouple, ↓i_isBridge, ↓i_isTheme, ↓i_isBarge, i_lt, i_le, i_eq, i_clamp, i_upd, i_m1, Int32.toInt_toInt64, Int32.toInt_add, Int32.toInt_sub, Int32.toInt_mul, bm32, Int32.reduceToInt, Int64.reduceToInt, Nat.reduceLT, Nat.reduceEqDiff, reduceIte, true_or, or_true, true_and, and_true, false_or, or_false, not_true_eq_false, not_false_eq_true, eq_self] <;> omega)), h_1⟩
    · rw [if_neg c_43] at e
      try simp (disch := omega) only [↓i_in, ↓i_isCouple, ↓i_isBridge, ↓i_isTheme, ↓i_isBarge, i_lt, i_le, i_eq, i_clamp, i_upd, i_m1, Int32.toInt_toInt64, Int32.toInt_add, Int32.toInt_sub, Int32.toInt_mul, bm32, Int32.reduceToInt, Int64.reduceToInt, Nat.reduceLT, Nat.reduceEqDiff, reduceIte, true_or, or_true, true_and, and_true, false_or, or_false, not_true_eq_false, not_false_eq_true, eq_self] at c_43
      by_cases c_55 : r_3 = 116
      · rw [if_pos c_55] at e
        try simp (disch := omega) only [↓i_in, ↓i_isCouple, ↓i_isBridge, ↓i_isTheme, ↓i_isBarge, i_lt, i_le, i_eq, i_clamp, i_upd, i_m1, Int32.toInt_toInt64, Int32.toInt_add, Int32.toInt_sub, Int32.toInt_mul, bm32, Int32.reduceToInt, Int64.reduceToInt, Nat.reduceLT, Nat.reduceEqDiff, reduceIte, true_or, or_true, true_and, and_true, false_or, or_false, not_true_eq_false, not_false_eq_true, eq_self] at c_55
        by_cases c_56 : (u_2 22) = 0
        · rw [if_pos c_56] at e
          try simp (disch := omega) only [↓i_in, ↓i_isCouple, ↓i_isBridge, ↓i_isTheme, ↓i_isBarge, i_lt, i_le, i_eq, i_clamp, i_upd, i_m1, Int32.toInt_toInt64, Int32.toInt_add, Int32.toInt_sub, Int32.toInt_mul, bm32, Int32.reduceToInt, Int64.reduceToInt, Nat.reduceLT, Nat.reduceEqDiff, reduceIte, true_or, or_true, true_and, and_true, false_or, or_false, not_true_eq_false, not_false_eq_true, eq_self] at c_56
          by_cases c_57 : (u_2 23) ≤ 0
          · rw [if_pos c_57] at e
            try simp (disch := omega) only [↓i_in, ↓i_isCouple, ↓i_isBridge, ↓i_isTheme, ↓i_isBarge, i_lt, i_le, i_eq, i_clamp, i_upd, i_m1, Int32.toInt_toInt64, Int32.toInt_add, Int32.toInt_sub, Int32.toInt_mul, bm32, Int32.reduceToInt, Int64.reduceToInt, Nat.reduceLT, Nat.reduceEqDiff, reduceIte, true_or, or_true, true_and, and_true, false_or, or_false, not_true_eq_false, not_false_eq_true, eq_self] at c_57
            generalize x_58 : (f_m_takesThemes (upd u_2 15 ((u_2 15) + 1)) f13) = z_59 at e
            obtain ⟨r_41, u_40⟩ := z_59
            try dsimp only at e
            have p_60 := p_takesThemes (PI_u15 i_4 (by first | omega | (simp (disch := omega) only [↓i_in, ↓i_isCouple, ↓i_isBridge, ↓i_isTheme, ↓i_isBarge, i_lt, i_le, i_eq, i_clamp, i_upd, i_m1, Int32.toInt_toInt64, Int32.toInt_add, Int32.toInt_sub, Int32.toInt_mul, bm32, Int32.reduceToInt, Int64.reduceToInt, Nat.reduceLT, Nat.reduceEqDiff, reduceIte, true_or, or_true, true_and, and_true, false_or, or_false, not_true_eq_false, not_false_eq_true, eq_self] <;> omega)) (by first | omega | (simp (disch := omega) only [↓i_in, ↓i_isCouple, ↓i_isBridge, ↓i_isTheme, ↓i_isBarge, i_lt, i_le, i_eq, i_clamp, i_upd, i_m1, Int32.toInt_toInt64, Int32.toInt_add, Int32.toInt_sub, Int32.toInt_mul, bm32, Int32.reduceToInt, Int64.reduceToInt, Nat.reduceLT, Nat.reduceEqDiff, reduceIte, true_or, or_true, true_and, and_true, false_or, or_false, not_true_eq_false, not_false_eq_true, eq_self] <;> omega))) _ _ x_58
            obtain ⟨i_61, i_62, i_63⟩ := p_60
            have i_61_g := i_61
            obtain ⟨⟨⟨i_61_2a, i_61_2b⟩, ⟨i_61_3a, i_61_3b⟩, ⟨i_61_4a, i_61_4b⟩, ⟨i_61_5a, i_61_5b⟩, ⟨i_61_6a, i_61_6b⟩, ⟨i_61_14a, i_61_14b⟩, ⟨i_61_42a, i_61_42b⟩⟩, ⟨i_61_15a, i_61_15b⟩, ⟨i_61_20a, i_61_20b⟩, ⟨i_61_21a, i_61_21b⟩, ⟨i_61_23a, i_61_23b⟩, ⟨i_61_24a, i_61_24b⟩⟩ := i_61_g
            try simp (disch := omega) only [↓i_in, ↓i_isCouple, ↓i_isBridge, ↓i_isTheme, ↓i_isBarge, i_lt, i_le, i_eq, i_clamp, i_upd, i_m1, Int32.toInt_toInt64, Int32.toInt_add, Int32.toInt_sub, Int32.toInt_mul, bm32, Int32.reduceToInt, Int64.reduceToInt, Nat.reduceLT, Nat.reduceEqDiff, reduceIte, true_or, or_true, true_and, and_true, false_or, or_false, not_true_eq_false, not_false_eq_true, eq_self] at i_62
            try simp (disch := omega) only [↓i_in, ↓i_isCouple, ↓i_isBridge, ↓i_isTheme, ↓i_isBarge, i_lt, i_le, i_eq, i_clamp, i_upd, i_m1, Int32.toInt_toInt64, Int32.toInt_add, Int32.toInt_sub, Int32.toInt_mul, bm32, Int32.reduceToInt, Int64.reduceToInt, Nat.reduceLT, Nat.reduceEqDiff, reduceIte, true_or, or_true, true_and, and_true, false_or, or_false, not_true_eq_false, not_false_eq_true, eq_self] at i_63
            by_cases c_64 : r_41 = 0
            · rw [if_pos c_64] at e
              try simp (disch := omega) only [↓i_in, ↓i_isCouple, ↓i_isBridge, ↓i_isTheme, ↓i_isBarge, i_lt, i_le, i_eq, i_clamp, i_upd, i_m1, Int32.toInt_toInt64, Int32.toInt_add, Int32.toInt_sub, Int32.toInt_mul, bm32, Int32.reduceToInt, Int64.reduceToInt, Nat.reduceLT, Nat.reduceEqDiff, reduceIte, true_or, or_true, true_and, and_true, false_or, or_false, not_true_eq_false, not_false_eq_true, eq_self] at c_64
              cases e
              exact ⟨i_61, (by first | omega | (simp (disch := omega) only [↓i_in, ↓i_isCouple, ↓i_isBridge, ↓i_isTheme, ↓i_isBarge, i_lt, i_le, i_eq, i_clamp, i_upd, i_m1, Int32.toInt_toInt64, Int32.toInt_add, Int32.toInt_sub, Int32.toInt_mul, bm32, Int32.reduceToInt, Int64.reduceToInt, Nat.reduceLT, Nat.reduceEqDiff, reduceIte, true_or, or_true, true_and, and_true, false_or, or_false, not_true_eq_false, not_false_eq_true, eq_self] <;> omega)), (by first | omega | (simp (disch := omega) only [↓i_in, ↓i_isCouple, ↓i_isBridge, ↓i_isTheme, ↓i_isBarge, i_lt, i_le, i_eq, i_clamp, i_upd, i_m1, Int32.toInt_toInt64, Int32.toInt_add, Int32.toInt_sub, Int32.toInt_mul, bm32, Int32.reduceToInt, Int64.reduceToInt, Nat.reduceLT, Nat.reduceEqDiff, reduceIte, true_or, or_true, true_and, and_true, false_or, or_false, not_true_eq_false, not_false_eq_true, eq_self] <;> omega)), (by first | omega | (simp (disch := omega) only [↓i_in, ↓i_isCouple, ↓i_isBridge, ↓i_isTheme, ↓i_isBarge, i_lt, i_le, i_eq, i_clamp, i_upd, i_m1, Int32.toInt_toInt64, Int32.toInt_add, Int32.toInt_sub, Int32.toInt_mul, bm32, Int32.reduceToInt, Int64.reduceToInt, Nat.reduceLT, Nat.reduceEqDiff, reduceIte, true_or, or_true, true_and, and_true, false_or, or_false, not_true_eq_false, not_false_eq_true, eq_self] <;> omega)), h_1⟩
            · rw [if_neg c_64] at e
              try simp (disch := omega) only [↓i_in, ↓i_isCouple, ↓i_isBridge, ↓i_isTheme, ↓i_isBarge, i_lt, i_le, i_eq, i_clamp, i_upd, i_m1, Int32.toInt_toInt64, Int32.toInt_add, Int32.toInt_sub, Int32.toInt_mul, bm32, Int32.reduceToInt, Int64.reduceToInt, Nat.reduceLT, Nat.reduceEqDiff, reduceIte, true_or, or_true, true_and, and_true, false_or, or_false, not_true_eq_false, not_false_eq_true, eq_self] at c_64
              generalize x_65 : (f_m_takes u_40 f13 59) = z_66 at e
              obtain ⟨r_45, u_44⟩ := z_66
              try dsimp only at e
              have p_67 := p_takes i_61 (by first | omega | (simp (disch := omega) only [↓i_in, ↓i_isCouple, ↓i_isBridge, ↓i_isTheme, ↓i_isBarge, i_lt, i_le, i_eq, i_clamp, i_upd, i_m1, Int32.toInt_toInt64, Int32.toInt_add, Int32.toInt_sub, Int32.toInt_mul, bm32, Int32.reduceToInt, Int64.reduceToInt, Nat.reduceLT, Nat.reduceEqDiff, reduceIte, true_or, or_true, true_and, and_true, false_or, or_false, not_true_eq_false, not_false_eq_true, eq_self] <;> omega)) _ _ x_65
              obtain ⟨i_68, i_69, i_70, i_71, i_72, i_73, i_74⟩ := p_67
              have i_68_g := i_68
              obtain ⟨⟨⟨i_68_2a, i_68_2b⟩, ⟨i_68_3a, i_68_3b⟩, ⟨i_68_4a, i_68_4b⟩, ⟨i_68_5a, i_68_5b⟩, ⟨i_68_6a, i_68_6b⟩, ⟨i_68_14a, i_68_14b⟩, ⟨i_68_42a, i_68_42b⟩⟩, ⟨i_68_15a, i_68_15b⟩, ⟨i_68_20a, i_68_20b⟩, ⟨i_68_21a, i_68_21b⟩, ⟨i_68_23a, i_68_23b⟩, ⟨i_68_24a, i_68_24b⟩⟩ := i_68_g
              by_cases c_75 : r_45 = 0
              · rw [if_pos c_75] at e
                try simp (disch := omega) only [↓i_in, ↓i_isCouple, ↓i_isBridge, ↓i_isTheme, ↓i_isBarge, i_lt, i_le, i_eq, i_clamp, i_upd, i_m1, Int32.toInt_toInt64, Int32.toInt_add, Int32.toInt_sub, Int32.toInt_mul, bm32, Int32.reduceToInt, Int64.reduceToInt, Nat.reduceLT, Nat.reduceEqDiff, reduceIte, true_or, or_true, true_and, and_true, false_or, or_false, not_true_eq_false, not_false_eq_true, eq_self] at c_75
                cases e
                exact ⟨i_68, (by first | omega | (simp (disch := omega) only [↓i_in, ↓i_isCouple, ↓i_isBridge, ↓i_isTheme, ↓i_isBarge, i_lt, i_le, i_eq, i_clamp, i_upd, i_m1, Int32.toInt_toInt64, Int32.toInt_add, Int32.toInt_sub, Int32.toInt_mul, bm32, Int32.reduceToInt, Int64.reduceToInt, Nat.reduceLT, Nat.reduceEqDiff, reduceIte, true_or, or_true, true_and, and_true, false_or, or_false, not_true_eq_false, not_false_eq_true, eq_self] <;> omega)), (by first | omega | (simp (disch := omega) only [↓i_in, ↓i_isCouple, ↓i_isBridge, ↓i_isTheme, ↓i_isBarge, i_lt, i_le, i_eq, i_clamp, i_upd, i_m1, Int32.toInt_toInt64, Int32.toInt_add, Int32.toInt_sub, Int32.toInt_mul, bm32, Int32.reduceToInt, Int64.reduceToInt, Nat.reduceLT, Nat.reduceEqDiff, reduceIte, true_or, or_true, true_and, and_true, false_or, or_false, not_true_eq_false, not_false_eq_true, eq_self] <;> omega)), (by first | omega | (simp (disch := omega) only [↓i_in, ↓i_isCouple, ↓i_isBridge, ↓i_isTheme, ↓i_isBarge, i_lt, i_le, i_eq, i_clamp, i_upd, i_m1, Int32.toInt_toInt64, Int32.toInt_add, Int32.toInt_sub, Int32.toInt_mul, bm32, Int32.reduceToInt, Int64.reduceToInt, Nat.reduceLT, Nat.reduceEqDiff, reduceIte, true_or, or_true, true_and, and_true, false_or, or_false, not_true_eq_false, not_false_eq_true, eq_self] <;> omega)), h_1⟩
              · rw [if_neg c_75] at e
                try simp (disch := omega) only [↓i_in, ↓i_isCouple, ↓i_isBridge, ↓i_isTheme, ↓i_isBarge, i_lt, i_le, i_eq, i_clamp, i_upd, i_m1, Int32.toInt_toInt64, Int32.toInt_add, Int32.toInt_sub, Int32.toInt_mul, bm32, Int32.reduceToInt, Int64.reduceToInt, Nat.reduceLT, Nat.reduceEqDiff, reduceIte, true_or, or_true, true_and, and_true, false_or, or_false, not_true_eq_false, not_false_eq_true, eq_self] at c_75
                cases e
                exact ⟨i_68, (by first | omega | (simp (disch := omega) only [↓i_in, ↓i_isCouple, ↓i_isBridge, ↓i_isTheme, ↓i_isBarge, i_lt, i_le, i_eq, i_clamp, i_upd, i_m1, Int32.toInt_toInt64, Int32.toInt_add, Int32.toInt_sub, Int32.toInt_mul, bm32, Int32.reduceToInt, Int64.reduceToInt, Nat.reduceLT, Nat.reduceEqDiff, reduceIte, true_or, or_true, true_and, and_true, false_or, or_false, not_true_eq_false, not_false_eq_true, eq_self] <;> omega)), (by first | omega | (simp (disch := omega) only [↓i_in, ↓i_isCouple, ↓i_isBridge, ↓i_isTheme, ↓i_isBarge, i_lt, i_le, i_eq, i_clamp, i_upd, i_m1, Int32.toInt_toInt64, Int32.toInt_add, Int32.toInt_sub, Int32.toInt_mul, bm32, Int32.reduceToInt, Int64.reduceToInt, Nat.reduceLT, Nat.reduceEqDiff, reduceIte, true_or, or_true, true_and, and_true, false_or, or_false, not_true_eq_false, not_false_eq_true, eq_self] <;> omega)), (by first | omega | (simp (disch := omega) only [↓i_in, ↓i_isCouple, ↓i_isBridge, ↓i_isTheme, ↓i_isBarge, i_lt, i_le, i_eq, i_clamp, i_upd, i_m1, Int32.toInt_toInt64, Int32.toInt_add, Int32.toInt_sub, Int32.toInt_mul, bm32, Int32.reduceToInt, Int64.reduceToInt, Nat.reduceLT, Nat.reduceEqDiff, reduceIte, true_or, or_true, true_and, and_true, false_or, or_false, not_true_eq_false, not_false_eq_true, eq_self] <;> omega)), h_1⟩
          · rw [if_neg c_57] at e
            try simp (disch := omega) only [↓i_in, ↓i_isCouple, ↓i_isBridge, ↓i_isTheme, ↓i_isBarge, i_lt, i_le, i_eq, i_clamp, i_upd, i_m1, Int32.toInt_toInt64, Int32.toInt_add, Int32.toInt_sub, Int32.toInt_mul, bm32, Int32.reduceToInt, Int64.reduceToInt, Nat.reduceLT, Nat.reduceEqDiff, reduceIte, true_or, or_true, true_and, and_true, false_or, or_false, not_true_eq_false, not_false_eq_true, eq_self] at c_57
            generalize x_76 : (f_m_fails u_2 3 (u_2 16)) = z_77 at e
            obtain ⟨r_50, u_49⟩ := z_77
            try dsimp only at e
            have p_78 := p_fails i_4 _ _ x_76
            obtain ⟨i_79, i_80, i_81, i_82, i_83, i_84, i_85, i_86⟩ := p_78
            have i_79_g := i_79
            obtain ⟨⟨⟨i_79_2a, i_79_2b⟩, ⟨i_79_3a, i_79_3b⟩, ⟨i_79_4a, i_79_4b⟩, ⟨i_79_5a, i_79_5b⟩, ⟨i_79_6a, i_79_6b⟩, ⟨i_79_14a, i_79_14b⟩, ⟨i_79_42a, i_79_42b⟩⟩, ⟨i_79_15a, i_79_15b⟩, ⟨i_79_20a, i_79_20b⟩, ⟨i_79_21a, i_79_21b⟩, ⟨i_79_23a, i_79_23b⟩, ⟨i_79_24a, i_79_24b⟩⟩ := i_79_g
            cases e
            exact ⟨i_79, (by first | omega | (simp (disch := omega) only [↓i_in, ↓i_isCouple, ↓i_isBridge, ↓i_isTheme, ↓i_isBarge, i_lt, i_le, i_eq, i_clamp, i_upd, i_m1, Int32.toInt_toInt64, Int32.toInt_add, Int32.toInt_sub, Int32.toInt_mul, bm32, Int32.reduceToInt, Int64.reduceToInt, Nat.reduceLT, Nat.reduceEqDiff, reduceIte, true_or, or_true, true_and, and_true, false_or, or_false, not_true_eq_false, not_false_eq_true, eq_self] <;> omega)), (by first | omega | (simp (disch := omega) only [↓i_in, ↓i_isCouple, ↓i_isBridge, ↓i_isTheme, ↓i_isBarge, i_lt, i_le, i_eq, i_clamp, i_upd, i_m1, Int32.toInt_toInt64, Int32.toInt_add, Int32.toInt_sub, Int32.toInt_mul, bm32, Int32.reduceToInt, Int64.reduceToInt, Nat.reduceLT, Nat.reduceEqDiff, reduceIte, true_or, or_true, true_and, and_true, false_or, or_false, not_true_eq_false, not_false_eq_true, eq_self] <;> omega)), (by first | omega | (simp (disch := omega) only [↓i_in, ↓i_isCouple, ↓i_isBridge, ↓i_isTheme, ↓i_isBarge, i_lt, i_le, i_eq, i_clamp, i_upd, i_m1, Int32.toInt_toInt64, Int32.toInt_add, Int32.toInt_sub, Int32.toInt_mul, bm32, Int32.reduceToInt, Int64.reduceToInt, Nat.reduceLT, Nat.reduceEqDiff, reduceIte, true_or, or_true, true_and, and_true, false_or, or_false, not_true_eq_false, not_false_eq_true, eq_self] <;> omega)), h_1⟩
        · rw [if_neg c_56] at e
          try simp (disch := omega) only [↓i_in, ↓i_isCouple, ↓i_isBridge, ↓i_isTheme, ↓i_isBarge, i_lt, i_le, i_eq, i_clamp, i_upd, i_m1, Int32.toInt_toInt64, Int32.toInt_add, Int32.toInt_sub, Int32.toInt_mul, bm32, Int32.reduceToInt, Int64.reduceToInt, Nat.reduceLT, Nat.reduceEqDiff, reduceIte, true_or, or_true, true_and, and_true, false_or, or_false, not_true_eq_false, not_false_eq_true, eq_self] at c_56
          generalize x_87 : (f_m_fails u_2 3 (u_2 16)) = z_88 at e
          obtain ⟨r_36, u_35⟩ := z_88
          try dsimp only at e
          have p_89 := p_fails i_4 _ _ x_87
          obtain ⟨i_90, i_91, i_92, i_93, i_94, i_95, i_96, i_97⟩ := p_89
          have i_90_g := i_90
          obtain ⟨⟨⟨i_90_2a, i_90_2b⟩, ⟨i_90_3a, i_90_3b⟩, ⟨i_90_4a, i_90_4b⟩, ⟨i_90_5a, i_90_5b⟩, ⟨i_90_6a, i_90_6b⟩, ⟨i_90_14a, i_90_14b⟩, ⟨i_90_42a, i_90_42b⟩⟩, ⟨i_90_15a, i_90_15b⟩, ⟨i_90_20a, i_90_20b⟩, ⟨i_90_21a, i_90_21b⟩, ⟨i_90_23a, i_90_23b⟩, ⟨i_90_24a, i_90_24b⟩⟩ := i_90_g
          cases e
          exact ⟨i_90, (by first | omega | (simp (disch := omega) only [↓i_in, ↓i_isCouple, ↓i_isBridge, ↓i_isTheme, ↓i_isBarge, i_lt, i_le, i_eq, i_clamp, i_upd, i_m1, Int32.toInt_toInt64, Int32.toInt_add, Int32.toInt_sub, Int32.toInt_mul, bm32, Int32.reduceToInt, Int64.reduceToInt, Nat.reduceLT, Nat.reduceEqDiff, reduceIte, true_or, or_true, true_and, and_true, false_or, or_false, not_true_eq_false, not_false_eq_true, eq_self] <;> omega)), (by first | omega | (simp (disch := omega) only [↓i_in, ↓i_isCouple, ↓i_isBridge, ↓i_isTheme, ↓i_isBarge, i_lt, i_le, i_eq, i_clamp, i_upd, i_m1, Int32.toInt_toInt64, Int32.toInt_add, Int32.toInt_sub, Int32.toInt_mul, bm32, Int32.reduceToInt, Int64.reduceToInt, Nat.reduceLT, Nat.reduceEqDiff, reduceIte, true_or, or_true, true_and, and_true, false_or, or_false, not_true_eq_false, not_false_eq_true, eq_self] <;> omega)), (by first | omega | (simp (disch := omega) only [↓i_in, ↓i_isCouple, ↓i_isBridge, ↓i_isTheme, ↓i_isBarge, i_lt, i_le, i_eq, i_clamp, i_upd, i_m1, Int32.toInt_toInt64, Int32.toInt_add, Int32.toInt_sub, Int32.toInt_mul, bm32, Int32.reduceToInt, Int64.reduceToInt, Nat.reduceLT, Nat.reduceEqDiff, reduceIte, true_or, or_true, true_and, and_true, false_or, or_false, not_true_eq_false, not_false_eq_true, eq_self] <;> omega)), h_1⟩
      · rw [if_neg c_55] at e
        try simp (disch := omega) only [↓i_in, ↓i_isCouple, ↓i_isBridge, ↓i_isTheme, ↓i_isBarge, i_lt, i_le, i_eq, i_clamp, i_upd, i_m1, Int32.toInt_toInt64, Int32.toInt_add, Int32.toInt_sub, Int32.toInt_mul, bm32, Int32.reduceToInt, Int64.reduceToInt, Nat.reduceLT, Nat.reduceEqDiff, reduceIte, true_or, or_true, true_and, and_true, false_or, or_false, not_true_eq_false, not_false_eq_true, eq_self] at c_55
        by_cases c_98 : r_3 = 99
        · rw [if_pos c_98] at e
          try simp (disch := omega) only [↓i_in, ↓i_isCouple, ↓i_isBridge, ↓i_isTheme, ↓i_isBarge, i_lt, i_le, i_eq, i_clamp, i_upd, i_m1, Int32.toInt_toInt64, Int32.toInt_add, Int32.toInt_sub, Int32.toInt_mul, bm32, Int32.reduceToInt, Int64.reduceToInt, Nat.reduceLT, Nat.reduceEqDiff, reduceIte, true_or, or_true, true_and, and_true, false_or, or_false, not_true_eq_false, not_false_eq_true, eq_self] at c_98
          by_cases c_99 : (u_2 23) = 6
          · rw [if_pos c_99] at e
            try simp (disch := omega) only [↓i_in, ↓i_isCouple, ↓i_isBridge, ↓i_isTheme, ↓i_isBarge, i_lt, i_le, i_eq, i_clamp, i_upd, i_m1, Int32.toInt_toInt64, Int32.toInt_add, Int32.toInt_sub, Int32.toInt_mul, bm32, Int32.reduceToInt, Int64.reduceToInt, Nat.reduceLT, Nat.reduceEqDiff, reduceIte, true_or, or_true, true_and, and_true, false_or, or_false, not_true_eq_false, not_false_eq_true, eq_self] at c_99
            generalize x_100 : (f_m_fails u_2 3 (u_2 16)) = z_101 at e
            obtain ⟨r_72, u_71⟩ := z_101
            try dsimp only at e
            have p_102 := p_fails i_4 _ _ x_100
            obtain ⟨i_103, i_104, i_105, i_106, i_107, i_108, i_109, i_110⟩ := p_102
            have i_103_g := i_103
            obtain ⟨⟨⟨i_103_2a, i_103_2b⟩, ⟨i_103_3a, i_103_3b⟩, ⟨i_103_4a, i_103_4b⟩, ⟨i_103_5a, i_103_5b⟩, ⟨i_103_6a, i_103_6b⟩, ⟨i_103_14a, i_103_14b⟩, ⟨i_103_42a, i_103_42b⟩⟩, ⟨i_103_15a, i_103_15b⟩, ⟨i_103_20a, i_103_20b⟩, ⟨i_103_21a, i_103_21b⟩, ⟨i_103_23a, i_103_23b⟩, ⟨i_103_24a, i_103_24b⟩⟩ := i_103_g
            cases e
            exact ⟨i_103, (by first | omega | (simp (disch := omega) only [↓i_in, ↓i_isCouple, ↓i_isBridge, ↓i_isTheme, ↓i_isBarge, i_lt, i_le, i_eq, i_clamp, i_upd, i_m1, Int32.toInt_toInt64, Int32.toInt_add, Int32.toInt_sub, Int32.toInt_mul, bm32, Int32.reduceToInt, Int64.reduceToInt, Nat.reduceLT, Nat.reduceEqDiff, reduceIte, true_or, or_true, true_and, and_true, false_or, or_false, not_true_eq_false, not_false_eq_true, eq_self] <;> omega)), (by first | omega | (simp (disch := omega) only [↓i_in, ↓i_isCouple, ↓i_isBridge, ↓i_isTheme, ↓i_isBarge, i_lt, i_le, i_eq, i_clamp, i_upd, i_m1, Int32.toInt_toInt64, Int32.toInt_add, Int32.toInt_sub, Int32.toInt_mul, bm32, Int32.reduceToInt, Int64.reduceToInt, Nat.reduceLT, Nat.reduceEqDiff, reduceIte, true_or, or_true, true_and, and_true, false_or, or_false, not_true_eq_false, not_false_eq_true, eq_self] <;> omega)), (by first | omega | (simp (disch := omega) only [↓i_in, ↓i_isCouple, ↓i_isBridge, ↓i_isTheme, ↓i_isBarge, i_lt, i_le, i_eq, i_clamp, i_upd, i_m1, Int32.toInt_toInt64, Int32.toInt_add, Int32.toInt_sub, Int32.toInt_mul, bm32, Int32.reduceToInt, Int64.reduceToInt, Nat.reduceLT, Nat.reduceEqDiff, reduceIte, true_or, or_true, true_and, and_true, false_or, or_false, not_true_eq_false, not_false_eq_true, eq_self] <;> omega)), h_1⟩
          · rw [if_neg c_99] at e
            try simp (disch := omega) only [↓i_in, ↓i_isCouple, ↓i_isBridge, ↓i_isTheme, ↓i_isBarge, i_lt, i_le, i_eq, i_clamp, i_upd, i_m1, Int32.toInt_toInt64, Int32.toInt_add, Int32.toInt_sub, Int32.toInt_mul, bm32, Int32.reduceToInt, Int64.reduceToInt, Nat.reduceLT, Nat.reduceEqDiff, reduceIte, true_or, or_true, true_and, and_true, false_or, or_false, not_true_eq_false, not_false_eq_true, eq_self] at c_99
            generalize x_111 : (f_m_takesCouple (upd u_2 15 ((u_2 15) + 1)) f13 f28 f29) = z_112 at e
            obtain ⟨r_60, o_61, o_62, o_63⟩ := z_112
            try dsimp only at e
            have p_113 := p_takesCouple (PI_u15 i_4 (by first | omega | (simp (disch := omega) only [↓i_in, ↓i_isCouple, ↓i_isBridge, ↓i_isTheme, ↓i_isBarge, i_lt, i_le, i_eq, i_clamp, i_upd, i_m1, Int32.toInt_toInt64, Int32.toInt_add, Int32.toInt_sub, Int32.toInt_mul, bm32, Int32.reduceToInt, Int64.reduceToInt, Nat.reduceLT, Nat.reduceEqDiff, reduceIte, true_or, or_true, true_and, and_true, false_or, or_false, not_true_eq_false, not_false_eq_true, eq_self] <;> omega)) (by first | omega | (simp (disch := omega) only [↓i_in, ↓i_isCouple, ↓i_isBridge, ↓i_isTheme, ↓i_isBarge, i_lt, i_le, i_eq, i_clamp, i_upd, i_m1, Int32.toInt_toInt64, Int32.toInt_add, Int32.toInt_sub, Int32.toInt_mul, bm32, Int32.reduceToInt, Int64.reduceToInt, Nat.reduceLT, Nat.reduceEqDiff, reduceIte, true_or, or_true, true_and, and_true, false_or, or_false, not_true_eq_false, not_false_eq_true, eq_self] <;> omega))) (by first | omega | (simp (disch := omega) only [↓i_in, ↓i_isCouple, ↓i_isBridge, ↓i_isTheme, ↓i_isBarge, i_lt, i_le, i_eq, i_clamp, i_upd, i_m1, Int32.toInt_toInt64, Int32.toInt_add, Int32.toInt_sub, Int32.toInt_mul, bm32, Int32.reduceToInt, Int64.reduceToInt, Nat.reduceLT, Nat.reduceEqDiff, reduceIte, true_or, or_true, true_and, and_true, false_or, or_false, not_true_eq_false, not_false_eq_true, eq_self] <;> omega)) _ _ _ _ x_111
            obtain ⟨i_114, i_115, i_116⟩ := p_113
            have i_114_g := i_114
            obtain ⟨⟨⟨i_114_2a, i_114_2b⟩, ⟨i_114_3a, i_114_3b⟩, ⟨i_114_4a, i_114_4b⟩, ⟨i_114_5a, i_114_5b⟩, ⟨i_114_6a, i_114_6b⟩, ⟨i_114_14a, i_114_14b⟩, ⟨i_114_42a, i_114_42b⟩⟩, ⟨i_114_15a, i_114_15b⟩, ⟨i_114_20a, i_114_20b⟩, ⟨i_114_21a, i_114_21b⟩, ⟨i_114_23a, i_114_23b⟩, ⟨i_114_24a, i_114_24b⟩⟩ := i_114_g
            try simp (disch := omega) only [↓i_in, ↓i_isCouple, ↓i_isBridge, ↓i_isTheme, ↓i_isBarge, i_lt, i_le, i_eq, i_clamp, i_upd, i_m1, Int32.toInt_toInt64, Int32.toInt_add, Int32.toInt_sub, Int32.toInt_mul, bm32, Int32.reduceToInt, Int64.reduceToInt, Nat.reduceLT, Nat.reduceEqDiff, reduceIte, true_or, or_true, true_and, and_true, false_or, or_false, not_true_eq_false, not_false_eq_true, eq_self] at i_115
            try simp (disch := omega) only [↓i_in, ↓i_isCouple, ↓i_isBridge, ↓i_isTheme, ↓i_isBarge, i_lt, i_le, i_eq, i_clamp, i_upd, i_m1, Int32.toInt_toInt64, Int32.toInt_add, Int32.toInt_sub, Int32.toInt_mul, bm32, Int32.reduceToInt, Int64.reduceToInt, Nat.reduceLT, Nat.reduceEqDiff, reduceIte, true_or, or_true, true_and, and_true, false_or, or_false, not_true_eq_false, not_false_eq_true, eq_self] at i_116
            by_cases c_117 : r_60 = 0
            · rw [if_pos c_117] at e
              try simp (disch := omega) only [↓i_in, ↓i_isCouple, ↓i_isBridge, ↓i_isTheme, ↓i_isBarge, i_lt, i_le, i_eq, i_clamp, i_upd, i_m1, Int32.toInt_toInt64, Int32.toInt_add, Int32.toInt_sub, Int32.toInt_mul, bm32, Int32.reduceToInt, Int64.reduceToInt, Nat.reduceLT, Nat.reduceEqDiff, reduceIte, true_or, or_true, true_and, and_true, false_or, or_false, not_true_eq_false, not_false_eq_true, eq_self] at c_117
              cases e
              exact ⟨i_114, (by first | omega | (simp (disch := omega) only [↓i_in, ↓i_isCouple, ↓i_isBridge, ↓i_isTheme, ↓i_isBarge, i_lt, i_le, i_eq, i_clamp, i_upd, i_m1, Int32.toInt_toInt64, Int32.toInt_add, Int32.toInt_sub, Int32.toInt_mul, bm32, Int32.reduceToInt, Int64.reduceToInt, Nat.reduceLT, Nat.reduceEqDiff, reduceIte, true_or, or_true, true_and, and_true, false_or, or_false, not_true_eq_false, not_false_eq_true, eq_self] <;> omega)), (by first | omega | (simp (disch := omega) only [↓i_in, ↓i_isCouple, ↓i_isBridge, ↓i_isTheme, ↓i_isBarge, i_lt, i_le, i_eq, i_clamp, i_upd, i_m1, Int32.toInt_toInt64, Int32.toInt_add, Int32.toInt_sub, Int32.toInt_mul, bm32, Int32.reduceToInt, Int64.reduceToInt, Nat.reduceLT, Nat.reduceEqDiff, reduceIte, true_or, or_true, true_and, and_true, false_or, or_false, not_true_eq_false, not_false_eq_true, eq_self] <;> omega)), (by first | omega | (simp (disch := omega) only [↓i_in, ↓i_isCouple, ↓i_isBridge, ↓i_isTheme, ↓i_isBarge, i_lt, i_le, i_eq, i_clamp, i_upd, i_m1, Int32.toInt_toInt64, Int32.toInt_add, Int32.toInt_sub, Int32.toInt_mul, bm32, Int32.reduceToInt, Int64.reduceToInt, Nat.reduceLT, Nat.reduceEqDiff, reduceIte, true_or, or_true, true_and, and_true, false_or, or_false, not_true_eq_false, not_false_eq_true, eq_self] <;> omega)), h_1⟩
            · rw [if_neg c_117] at e
              try simp (disch := omega) only [↓i_in, ↓i_isCouple, ↓i_isBridge, ↓i_isTheme, ↓i_isBarge, i_lt, i_le, i_eq, i_clamp, i_upd, i_m1, Int32.toInt_toInt64, Int32.toInt_add, Int32.toInt_sub, Int32.toInt_mul, bm32, Int32.reduceToInt, Int64.reduceToInt, Nat.reduceLT, Nat.reduceEqDiff, reduceIte, true_or, or_true, true_and, and_true, false_or, or_false, not_true_eq_false, not_false_eq_true, eq_self] at c_117
              generalize x_118 : (f_m_takes o_61 f13 59) = z_119 at e
              obtain ⟨r_67, u_66⟩ := z_119
              try dsimp only at e
              have p_120 := p_takes i_114 (by first | omega | (simp (disch := omega) only [↓i_in, ↓i_isCouple, ↓i_isBridge, ↓i_isTheme, ↓i_isBarge, i_lt, i_le, i_eq, i_clamp, i_upd, i_m1, Int32.toInt_toInt64, Int32.toInt_add, Int32.toInt_sub, Int32.toInt_mul, bm32, Int32.reduceToInt, Int64.reduceToInt, Nat.reduceLT, Nat.reduceEqDiff, reduceIte, true_or, or_true, true_and, and_true, false_or, or_false, not_true_eq_false, not_false_eq_true, eq_self] <;> omega)) _ _ x_118
              obtain ⟨i_121, i_122, i_123, i_124, i_125, i_126, i_127⟩ := p_120
              have i_121_g := i_121
              obtain ⟨⟨⟨i_121_2a, i_121_2b⟩, ⟨i_121_3a, i_121_3b⟩, ⟨i_121_4a, i_121_4b⟩, ⟨i_121_5a, i_121_5b⟩, ⟨i_121_6a, i_121_6b⟩, ⟨i_121_14a, i_121_14b⟩, ⟨i_121_42a, i_121_42b⟩⟩, ⟨i_121_15a, i_121_15b⟩, ⟨i_121_20a, i_121_20b⟩, ⟨i_121_21a, i_121_21b⟩, ⟨i_121_23a, i_121_23b⟩, ⟨i_121_24a, i_121_24b⟩⟩ := i_121_g
              by_cases c_128 : r_67 = 0
              · rw [if_pos c_128] at e
                try simp (disch := omega) only [↓i_in, ↓i_isCouple, ↓i_isBridge, ↓i_isTheme, ↓i_isBarge, i_lt, i_le, i_eq, i_clamp, i_upd, i_m1, Int32.toInt_toInt64, Int32.toInt_add, Int32.toInt_sub, Int32.toInt_mul, bm32, Int32.reduceToInt, Int64.reduceToInt, Nat.reduceLT, Nat.reduceEqDiff, reduceIte, true_or, or_true, true_and, and_true, false_or, or_false, not_true_eq_false, not_false_eq_true, eq_self] at c_128
                cases e
                exact ⟨i_121, (by first | omega | (simp (disch := omega) only [↓i_in, ↓i_isCouple, ↓i_isBridge, ↓i_isTheme, ↓i_isBarge, i_lt, i_le, i_eq, i_clamp, i_upd, i_m1, Int32.toInt_toInt64, Int32.toInt_add, Int32.toInt_sub, Int32.toInt_mul, bm32, Int32.reduceToInt, Int64.reduceToInt, Nat.reduceLT, Nat.reduceEqDiff, reduceIte, true_or, or_true, true_and, and_true, false_or, or_false, not_true_eq_false, not_false_eq_true, eq_self] <;> omega)), (by first | omega | (simp (disch := omega) only [↓i_in, ↓i_isCouple, ↓i_isBridge, ↓i_isTheme, ↓i_isBarge, i_lt, i_le, i_eq, i_clamp, i_upd, i_m1, Int32.toInt_toInt64, Int32.toInt_add, Int32.toInt_sub, Int32.toInt_mul, bm32, Int32.reduceToInt, Int64.reduceToInt, Nat.reduceLT, Nat.reduceEqDiff, reduceIte, true_or, or_true, true_and, and_true, false_or, or_false, not_true_eq_false, not_false_eq_true, eq_self] <;> omega)), (by first | omega | (simp (disch := omega) only [↓i_in, ↓i_isCouple, ↓i_isBridge, ↓i_isTheme, ↓i_isBarge, i_lt, i_le, i_eq, i_clamp, i_upd, i_m1, Int32.toInt_toInt64, Int32.toInt_add, Int32.toInt_sub, Int32.toInt_mul, bm32, Int32.reduceToInt, Int64.reduceToInt, Nat.reduceLT, Nat.reduceEqDiff, reduceIte, true_or, or_true, true_and, and_true, false_or, or_false, not_true_eq_false, not_false_eq_true, eq_self] <;> omega)), h_1⟩
              · rw [if_neg c_128] at e
                try simp (disch := omega) only [↓i_in, ↓i_isCouple, ↓i_isBridge, ↓i_isTheme, ↓i_isBarge, i_lt, i_le, i_eq, i_clamp, i_upd, i_m1, Int32.toInt_toInt64, Int32.toInt_add, Int32.toInt_sub, Int32.toInt_mul, bm32, Int32.reduceToInt, Int64.reduceToInt, Nat.reduceLT, Nat.reduceEqDiff, reduceIte, true_or, or_true, true_and, and_true, false_or, or_false, not_true_eq_false, not_false_eq_true, eq_self] at c_128
                cases e
                exact ⟨i_121, (by first | omega | (simp (disch := omega) only [↓i_in, ↓i_isCouple, ↓i_isBridge, ↓i_isTheme, ↓i_isBarge, i_lt, i_le, i_eq, i_clamp, i_upd, i_m1, Int32.toInt_toInt64, Int32.toInt_add, Int32.toInt_sub, Int32.toInt_mul, bm32, Int32.reduceToInt, Int64.reduceToInt, Nat.reduceLT, Nat.reduceEqDiff, reduceIte, true_or, or_true, true_and, and_true, false_or, or_false, not_true_eq_false, not_false_eq_true, eq_self] <;> omega)), (by first | omega | (simp (disch := omega) only [↓i_in, ↓i_isCouple, ↓i_isBridge, ↓i_isTheme, ↓i_isBarge, i_lt, i_le, i_eq, i_clamp, i_upd, i_m1, Int32.toInt_toInt64, Int32.toInt_add, Int32.toInt_sub, Int32.toInt_mul, bm32, Int32.reduceToInt, Int64.reduceToInt, Nat.reduceLT, Nat.reduceEqDiff, reduceIte, true_or, or_true, true_and, and_true, false_or, or_false, not_true_eq_false, not_false_eq_true, eq_self] <;> omega)), (by first | omega | (simp (disch := omega) only [↓i_in, ↓i_isCouple, ↓i_isBridge, ↓i_isTheme, ↓i_isBarge, i_lt, i_le, i_eq, i_clamp, i_upd, i_m1, Int32.toInt_toInt64, Int32.toInt_add, Int32.toInt_sub, Int32.toInt_mul, bm32, Int32.reduceToInt, Int64.reduceToInt, Nat.reduceLT, Nat.reduceEqDiff, reduceIte, true_or, or_true, true_and, and_true, false_or, or_false, not_true_eq_false, not_false_eq_true, eq_self] <;> omega)), h_1⟩
        · rw [if_neg c_98] at e
          try simp (disch := omega) only [↓i_in, ↓i_isCouple, ↓i_isBridge, ↓i_isTheme, ↓i_isBarge, i_lt, i_le, i_eq, i_clamp, i_upd, i_m1, Int32.toInt_toInt64, Int32.toInt_add, Int32.toInt_sub, Int32.toInt_mul, bm32, Int32.reduceToInt, Int64.reduceToInt, Nat.reduceLT, Nat.reduceEqDiff, reduceIte, true_or, or_true, true_and, and_true, false_or, or_false, not_true_eq_false, not_false_eq_true, eq_self] at c_98
          by_cases c_129 : r_3 = 118
          · rw [if_pos c_129] at e
            try simp (disch := omega) only [↓i_in, ↓i_isCouple, ↓i_isBridge, ↓i_isTheme, ↓i_isBarge, i_lt, i_le, i_eq, i_clamp, i_upd, i_m1, Int32.toInt_toInt64, Int32.toInt_add, Int32.toInt_sub, Int32.toInt_mul, bm32, Int32.reduceToInt, Int64.reduceToInt, Nat.reduceLT, Nat.reduceEqDiff, reduceIte, true_or, or_true, true_and, and_true, false_or, or_false, not_true_eq_false, not_false_eq_true, eq_self] at c_129
            by_cases c_130 : (u_2 24) = 7
            · rw [if_pos c_130] at e
              try simp (disch := omega) only [↓i_in, ↓i_isCouple, ↓i_isBridge, ↓i_isTheme, ↓i_isBarge, i_lt, i_le, i_eq, i_clamp, i_upd, i_m1, Int32.toInt_toInt64, Int32.toInt_add, Int32.toInt_sub, Int32.toInt_mul, bm32, Int32.reduceToInt, Int64.reduceToInt, Nat.reduceLT, Nat.reduceEqDiff, reduceIte, true_or, or_true, true_and, and_true, false_or, or_false, not_true_eq_false, not_false_eq_true, eq_self] at c_130
              generalize x_131 : (f_m_fails u_2 3 (u_2 16)) = z_132 at e
              obtain ⟨r_95, u_94⟩ := z_132
              try dsimp only at e
              have p_133 := p_fails i_4 _ _ x_131
              obtain ⟨i_134, i_135, i_136, i_137, i_138, i_139, i_140, i_141⟩ := p_133
              have i_134_g := i_134
              obtain ⟨⟨⟨i_134_2a, i_134_2b⟩, ⟨i_134_3a, i_134_3b⟩, ⟨i_134_4a, i_134_4b⟩, ⟨i_134_5a, i_134_5b⟩, ⟨i_134_6a, i_134_6b⟩, ⟨i_134_14a, i_134_14b⟩, ⟨i_134_42a, i_134_42b⟩⟩, ⟨i_134_15a, i_134_15b⟩, ⟨i_134_20a, i_134_20b⟩, ⟨i_134_21a, i_134_21b⟩, ⟨i_134_23a, i_134_23b⟩, ⟨i_134_24a, i_134_24b⟩⟩ := i_134_g
              cases e
              exact ⟨i_134, (by first | omega | (simp (disch := omega) only [↓i_in, ↓i_isCouple, ↓i_isBridge, ↓i_isTheme, ↓i_isBarge, i_lt, i_le, i_eq, i_clamp, i_upd, i_m1, Int32.toInt_toInt64, Int32.toInt_add, Int32.toInt_sub, Int32.toInt_mul, bm32, Int32.reduceToInt, Int64.reduceToInt, Nat.reduceLT, Nat.reduceEqDiff, reduceIte, true_or, or_true, true_and, and_true, false_or, or_false, not_true_eq_false, not_false_eq_true, eq_self] <;> omega)), (by first | omega | (simp (disch := omega) only [↓i_in, ↓i_isCouple, ↓i_isBridge, ↓i_isTheme, ↓i_isBarge, i_lt, i_le, i_eq, i_clamp, i_upd, i_m1, Int32.toInt_toInt64, Int32.toInt_add, Int32.toInt_sub, Int32.toInt_mul, bm32, Int32.reduceToInt, Int64.reduceToInt, Nat.reduceLT, Nat.reduceEqDiff, reduceIte, true_or, or_true, true_and, and_true, false_or, or_false, not_true_eq_false, not_false_eq_true, eq_self] <;> omega)), (by first | omega | (simp (disch := omega) only [↓i_in, ↓i_isCouple, ↓i_isBridge, ↓i_isTheme, ↓i_isBarge, i_lt, i_le, i_eq, i_clamp, i_upd, i_m1, Int32.toInt_toInt64, Int32.toInt_add, Int32.toInt_sub, Int32.toInt_mul, bm32, Int32.reduceToInt, Int64.reduceToInt, Nat.reduceLT, Nat.reduceEqDiff, reduceIte, true_or, or_true, true_and, and_true, false_or, or_false, not_true_eq_false, not_false_eq_true, eq_self] <;> omega)), h_1⟩
            · rw [if_neg c_130] at e
              try simp (disch := omega) only [↓i_in, ↓i_isCouple, ↓i_isBridge, ↓i_isTheme, ↓i_isBarge, i_lt, i_le, i_eq, i_clamp, i_upd, i_m1, Int32.toInt_toInt64, Int32.toInt_add, Int32.toInt_sub, Int32.toInt_mul, bm32, Int32.reduceToInt, Int64.reduceToInt, Nat.reduceLT, Nat.reduceEqDiff, reduceIte, true_or, or_true, true_and, and_true, false_or, or_false, not_true_eq_false, not_false_eq_true, eq_self] at c_130
              generalize x_142 : (f_m_takesBarge (upd u_2 15 ((u_2 15) + 1)) f13 f30 f31) = z_143 at e
              obtain ⟨r_83, o_84, o_85, o_86⟩ := z_143
              try dsimp only at e
              have p_144 := p_takesBarge (PI_u15 i_4 (by first | omega | (simp (disch := omega) only [↓i_in, ↓i_isCouple, ↓i_isBridge, ↓i_isTheme, ↓i_isBarge, i_lt, i_le, i_eq, i_clamp, i_upd, i_m1, Int32.toInt_toInt64, Int32.toInt_add, Int32.toInt_sub, Int32.toInt_mul, bm32, Int32.reduceToInt, Int64.reduceToInt, Nat.reduceLT, Nat.reduceEqDiff, reduceIte, true_or, or_true, true_and, and_true, false_or, or_false, not_true_eq_false, not_false_eq_true, eq_self] <;> omega)) (by first | omega | (simp (disch := omega) only [↓i_in, ↓i_isCouple, ↓i_isBridge, ↓i_isTheme, ↓i_isBarge, i_lt, i_le, i_eq, i_clamp, i_upd, i_m1, Int32.toInt_toInt64, Int32.toInt_add, Int32.toInt_sub, Int32.toInt_mul, bm32, Int32.reduceToInt, Int64.reduceToInt, Nat.reduceLT, Nat.reduceEqDiff, reduceIte, true_or, or_true, true_and, and_true, false_or, or_false, not_true_eq_false, not_false_eq_true, eq_self] <;> omega))) (by first | omega | (simp (disch := omega) only [↓i_in, ↓i_isCouple, ↓i_isBridge, ↓i_isTheme, ↓i_isBarge, i_lt, i_le, i_eq, i_clamp, i_upd, i_m1, Int32.toInt_toInt64, Int32.toInt_add, Int32.toInt_sub, Int32.toInt_mul, bm32, Int32.reduceToInt, Int64.reduceToInt, Nat.reduceLT, Nat.reduceEqDiff, reduceIte, true_or, or_true, true_and, and_true, false_or, or_false, not_true_eq_false, not_false_eq_true, eq_self] <;> omega)) h_1 _ _ _ _ x_142
              obtain ⟨i_145, i_146, i_147, i_148⟩ := p_144
              have i_145_g := i_145
              obtain ⟨⟨⟨i_145_2a, i_145_2b⟩, ⟨i_145_3a, i_145_3b⟩, ⟨i_145_4a, i_145_4b⟩, ⟨i_145_5a, i_145_5b⟩, ⟨i_145_6a, i_145_6b⟩, ⟨i_145_14a, i_145_14b⟩, ⟨i_145_42a, i_145_42b⟩⟩, ⟨i_145_15a, i_145_15b⟩, ⟨i_145_20a, i_145_20b⟩, ⟨i_145_21a, i_145_21b⟩, ⟨i_145_23a, i_145_23b⟩, ⟨i_145_24a, i_145_24b⟩⟩ := i_145_g
              try simp (disch := omega) only [↓i_in, ↓i_isCouple, ↓i_isBridge, ↓i_isTheme, ↓i_isBarge, i_lt, i_le, i_eq, i_clamp, i_upd, i_m1, Int32.toInt_toInt64, Int32.toInt_add, Int32.toInt_sub, Int32.toInt_mul, bm32, Int32.reduceToInt, Int64.reduceToInt, Nat.reduceLT, Nat.reduceEqDiff, reduceIte, true_or, or_true, true_and, and_true, false_or, or_false, not_true_eq_false, not_false_eq_true, eq_self] at i_146
              try simp (disch := omega) only [↓i_in, ↓i_isCouple, ↓i_isBridge, ↓i_isTheme, ↓i_isBarge, i_lt, i_le, i_eq, i_clamp, i_upd, i_m1, Int32.toInt_toInt64, Int32.toInt_add, Int32.toInt_sub, Int32.toInt_mul, bm32, Int32.reduceToInt, Int64.reduceToInt, Nat.reduceLT, Nat.reduceEqDiff, reduceIte, true_or, or_true, true_and, and_true, false_or, or_false, not_true_eq_false, not_false_eq_true, eq_self] at i_147
              by_cases c_149 : r_83 = 0
              · rw [if_pos c_149] at e
                try simp (disch := omega) only [↓i_in, ↓i_isCouple, ↓i_isBridge, ↓i_isTheme, ↓i_isBarge, i_lt, i_le, i_eq, i_clamp, i_upd, i_m1, Int32.toInt_toInt64, Int32.toInt_add, Int32.toInt_sub, Int32.toInt_mul, bm32, Int32.reduceToInt, Int64.reduceToInt, Nat.reduceLT, Nat.reduceEqDiff, reduceIte, true_or, or_true, true_and, and_true, false_or, or_false, not_true_eq_false, not_false_eq_true, eq_self] at c_149
                cases e
                exact ⟨i_145, (by first | omega | (simp (disch := omega) only [↓i_in, ↓i_isCouple, ↓i_isBridge, ↓i_isTheme, ↓i_isBarge, i_lt, i_le, i_eq, i_clamp, i_upd, i_m1, Int32.toInt_toInt64, Int32.toInt_add, Int32.toInt_sub, Int32.toInt_mul, bm32, Int32.reduceToInt, Int64.reduceToInt, Nat.reduceLT, Nat.reduceEqDiff, reduceIte, true_or, or_true, true_and, and_true, false_or, or_false, not_true_eq_false, not_false_eq_true, eq_self] <;> omega)), (by first | omega | (simp (disch := omega) only [↓i_in, ↓i_isCouple, ↓i_isBridge, ↓i_isTheme, ↓i_isBarge, i_lt, i_le, i_eq, i_clamp, i_upd, i_m1, Int32.toInt_toInt64, Int32.toInt_add, Int32.toInt_sub, Int32.toInt_mul, bm32, Int32.reduceToInt, Int64.reduceToInt, Nat.reduceLT, Nat.reduceEqDiff, reduceIte, true_or, or_true, true_and, and_true, false_or, or_false, not_true_eq_false, not_false_eq_true, eq_self] <;> omega)), (by first | omega | (simp (disch := omega) only [↓i_in, ↓i_isCouple, ↓i_isBridge, ↓i_isTheme, ↓i_isBarge, i_lt, i_le, i_eq, i_clamp, i_upd, i_m1, Int32.toInt_toInt64, Int32.toInt_add, Int32.toInt_sub, Int32.toInt_mul, bm32, Int32.reduceToInt, Int64.reduceToInt, Nat.reduceLT, Nat.reduceEqDiff, reduceIte, true_or, or_true, true_and, and_true, false_or, or_false, not_true_eq_false, not_false_eq_true, eq_self] <;> omega)), i_148⟩
              · rw [if_neg c_149] at e
                try simp (disch := omega) only [↓i_in, ↓i_isCouple, ↓i_isBridge, ↓i_isTheme, ↓i_isBarge, i_lt, i_le, i_eq, i_clamp, i_upd, i_m1, Int32.toInt_toInt64, Int32.toInt_add, Int32.toInt_sub, Int32.toInt_mul, bm32, Int32.reduceToInt, Int64.reduceToInt, Nat.reduceLT, Nat.reduceEqDiff, reduceIte, true_or, or_true, true_and, and_true, false_or, or_false, not_true_eq_false, not_false_eq_true, eq_self] at c_149
                generalize x_150 : (f_m_takes o_84 f13 59) = z_151 at e
                obtain ⟨r_90, u_89⟩ := z_151
                try dsimp only at e
                have p_152 := p_takes i_145 (by first | omega | (simp (disch := omega) only [↓i_in, ↓i_isCouple, ↓i_isBridge, ↓i_isTheme, ↓i_isBarge, i_lt, i_le, i_eq, i_clamp, i_upd, i_m1, Int32.toInt_toInt64, Int32.toInt_add, Int32.toInt_sub, Int32.toInt_mul, bm32, Int32.reduceToInt, Int64.reduceToInt, Nat.reduceLT, Nat.reduceEqDiff, reduceIte, true_or, or_true, true_and, and_true, false_or, or_false, not_true_eq_false, not_false_eq_true, eq_self] <;> omega)) _ _ x_150
                obtain ⟨i_153, i_154, i_155, i_156, i_157, i_158, i_159⟩ := p_152
                have i_153_g := i_153
                obtain ⟨⟨⟨i_153_2a, i_153_2b⟩, ⟨i_153_3a, i_153_3b⟩, ⟨i_153_4a, i_153_4b⟩, ⟨i_153_5a, i_153_5b⟩, ⟨i_153_6a, i_153_6b⟩, ⟨i_153_14a, i_153_14b⟩, ⟨i_153_42a, i_153_42b⟩⟩, ⟨i_153_15a, i_153_15b⟩, ⟨i_153_20a, i_153_20b⟩, ⟨i_153_21a, i_153_21b⟩, ⟨i_153_23a, i_153_23b⟩, ⟨i_153_24a, i_153_24b⟩⟩ := i_153_g
                by_cases c_160 : r_90 = 0
                · rw [if_pos c_160] at e
                  try simp (disch := omega) only [↓i_in, ↓i_isCouple, ↓i_isBridge, ↓i_isTheme, ↓i_isBarge, i_lt, i_le, i_eq, i_clamp, i_upd, i_m1, Int32.toInt_toInt64, Int32.toInt_add, Int32.toInt_sub, Int32.toInt_mul, bm32, Int32.reduceToInt, Int64.reduceToInt, Nat.reduceLT, Nat.reduceEqDiff, reduceIte, true_or, or_true, true_and, and_true, false_or, or_false, not_true_eq_false, not_false_eq_true, eq_self] at c_160
                  cases e
                  exact ⟨i_153, (by first | omega | (simp (disch := omega) only [↓i_in, ↓i_isCouple, ↓i_isBridge, ↓i_isTheme, ↓i_isBarge, i_lt, i_le, i_eq, i_clamp, i_upd, i_m1, Int32.toInt_toInt64, Int32.toInt_add, Int32.toInt_sub, Int32.toInt_mul, bm32, Int32.reduceToInt, Int64.reduceToInt, Nat.reduceLT, Nat.reduceEqDiff, reduceIte, true_or, or_true, true_and, and_true, false_or, or_false, not_true_eq_false, not_false_eq_true, eq_self] <;> omega)), (by first | omega | (simp (disch := omega) only [↓i_in, ↓i_isCouple, ↓i_isBridge, ↓i_isTheme, ↓i_isBarge, i_lt, i_le, i_eq, i_clamp, i_upd, i_m1, Int32.toInt_toInt64, Int32.toInt_add, Int32.toInt_sub, Int32.toInt_mul, bm32, Int32.reduceToInt, Int64.reduceToInt, Nat.reduceLT, Nat.reduceEqDiff, reduceIte, true_or, or_true, true_and, and_true, false_or, or_false, not_true_eq_false, not_false_eq_true, eq_self] <;> omega)), (by first | omega | (simp (disch := omega) only [↓i_in, ↓i_isCouple, ↓i_isBridge, ↓i_isTheme, ↓i_isBarge, i_lt, i_le, i_eq, i_clamp, i_upd, i_m1, Int32.toInt_toInt64, Int32.toInt_add, Int32.toInt_sub, Int32.toInt_mul, bm32, Int32.reduceToInt, Int64.reduceToInt, Nat.reduceLT, Nat.reduceEqDiff, reduceIte, true_or, or_true, true_and, and_true, false_or, or_false, not_true_eq_false, not_false_eq_true, eq_self] <;> omega)), i_148⟩
                · rw [if_neg c_160] at e
                  try simp (disch := omega) only [↓i_in, ↓i_isCouple, ↓i_isBridge, ↓i_isTheme, ↓i_isBarge, i_lt, i_le, i_eq, i_clamp, i_upd, i_m1, Int32.toInt_toInt64, Int32.toInt_add, Int32.toInt_sub, Int32.toInt_mul, bm32, Int32.reduceToInt, Int64.reduceToInt, Nat.reduceLT, Nat.reduceEqDiff, reduceIte, true_or, or_true, true_and, and_true, false_or, or_false, not_true_eq_false, not_false_eq_true, eq_self] at c_160
                  cases e
                  exact ⟨i_153, (by first | omega | (simp (disch := omega) only [↓i_in, ↓i_isCouple, ↓i_isBridge, ↓i_isTheme, ↓i_isBarge, i_lt, i_le, i_eq, i_clamp, i_upd, i_m1, Int32.toInt_toInt64, Int32.toInt_add, Int32.toInt_sub, Int32.toInt_mul, bm32, Int32.reduceToInt, Int64.reduceToInt, Nat.reduceLT, Nat.reduceEqDiff, reduceIte, true_or, or_true, true_and, and_true, false_or, or_false, not_true_eq_false, not_false_eq_true, eq_self] <;> omega)), (by first | omega | (simp (disch := omega) only [↓i_in, ↓i_isCouple, ↓i_isBridge, ↓i_isTheme, ↓i_isBarge, i_lt, i_le, i_eq, i_clamp, i_upd, i_m1, Int32.toInt_toInt64, Int32.toInt_add, Int32.toInt_sub, Int32.toInt_mul, bm32, Int32.reduceToInt, Int64.reduceToInt, Nat.reduceLT, Nat.reduceEqDiff, reduceIte, true_or, or_true, true_and, and_true, false_or, or_false, not_true_eq_false, not_false_eq_true, eq_self] <;> omega)), (by first | omega | (simp (disch := omega) only [↓i_in, ↓i_isCouple, ↓i_isBridge, ↓i_isTheme, ↓i_isBarge, i_lt, i_le, i_eq, i_clamp, i_upd, i_m1, Int32.toInt_toInt64, Int32.toInt_add, Int32.toInt_sub, Int32.toInt_mul, bm32, Int32.reduceToInt, Int64.reduceToInt, Nat.reduceLT, Nat.reduceEqDiff, reduceIte, true_or, or_true, true_and, and_true, false_or, or_false, not_true_eq_false, not_false_eq_true, eq_self] <;> omega)), i_148⟩
          · rw [if_neg c_129] at e
            try simp (disch := omega) only [↓i_in, ↓i_isCouple, ↓i_isBridge, ↓i_isTheme, ↓i_isBarge, i_lt, i_le, i_eq, i_clamp, i_upd, i_m1, Int32.toInt_toInt64, Int32.toInt_add, Int32.toInt_sub, Int32.toInt_mul, bm32, Int32.reduceToInt, Int64.reduceToInt, Nat.reduceLT, Nat.reduceEqDiff, reduceIte, true_or, or_true, true_and, and_true, false_or, or_false, not_true_eq_false, not_false_eq_true, eq_self] at c_129
            by_cases c_161 : r_3 = 115
            · rw [if_pos c_161] at e
              try simp (disch := omega) only [↓i_in, ↓i_isCouple, ↓i_isBridge, ↓i_isTheme, ↓i_isBarge, i_lt, i_le, i_eq, i_clamp, i_upd, i_m1, Int32.toInt_toInt64, Int32.toInt_add, Int32.toInt_sub, Int32.toInt_mul, bm32, Int32.reduceToInt, Int64.reduceToInt, Nat.reduceLT, Nat.reduceEqDiff, reduceIte, true_or, or_true, true_and, and_true, false_or, or_false, not_true_eq_false, not_false_eq_true, eq_self] at c_161
              by_cases c_162 : (u_2 26) = 0
              · rw [if_pos c_162] at e
                try simp (disch := omega) only [↓i_in, ↓i_isCouple, ↓i_isBridge, ↓i_isTheme, ↓i_isBarge, i_lt, i_le, i_eq, i_clamp, i_upd, i_m1, Int32.toInt_toInt64, Int32.toInt_add, Int32.toInt_sub, Int32.toInt_mul, bm32, Int32.reduceToInt, Int64.reduceToInt, Nat.reduceLT, Nat.reduceEqDiff, reduceIte, true_or, or_true, true_and, and_true, false_or, or_false, not_true_eq_false, not_false_eq_true, eq_self] at c_162
                generalize x_163 : (f_m_takesSnow (upd u_2 15 ((u_2 15) + 1)) f13) = z_164 at e
                obtain ⟨r_109, u_108⟩ := z_164
                try dsimp only at e
                have p_165 := p_takesSnow (PI_u15 i_4 (by first | omega | (simp (disch := omega) only [↓i_in, ↓i_isCouple, ↓i_isBridge, ↓i_isTheme, ↓i_isBarge, i_lt, i_le, i_eq, i_clamp, i_upd, i_m1, Int32.toInt_toInt64, Int32.toInt_add, Int32.toInt_sub, Int32.toInt_mul, bm32, Int32.reduceToInt, Int64.reduceToInt, Nat.reduceLT, Nat.reduceEqDiff, reduceIte, true_or, or_true, true_and, and_true, false_or, or_false, not_true_eq_false, not_false_eq_true, eq_self] <;> omega)) (by first | omega | (simp (disch := omega) only [↓i_in, ↓i_isCouple, ↓i_isBridge, ↓i_isTheme, ↓i_isBarge, i_lt, i_le, i_eq, i_clamp, i_upd, i_m1, Int32.toInt_toInt64, Int32.toInt_add, Int32.toInt_sub, Int32.toInt_mul, bm32, Int32.reduceToInt, Int64.reduceToInt, Nat.reduceLT, Nat.reduceEqDiff, reduceIte, true_or, or_true, true_and, and_true, false_or, or_false, not_true_eq_false, not_false_eq_true, eq_self] <;> omega))) _ _ x_163
                obtain ⟨i_166, i_167, i_168⟩ := p_165
                have i_166_g := i_166
                obtain ⟨⟨⟨i_166_2a, i_166_2b⟩, ⟨i_166_3a, i_166_3b⟩, ⟨i_166_4a, i_166_4b⟩, ⟨i_166_5a, i_166_5b⟩, ⟨i_166_6a, i_166_6b⟩, ⟨i_166_14a, i_166_14b⟩, ⟨i_166_42a, i_166_42b⟩⟩, ⟨i_166_15a, i_166_15b⟩, ⟨i_166_20a, i_166_20b⟩, ⟨i_166_21a, i_166_21b⟩, ⟨i_166_23a, i_166_23b⟩, ⟨i_166_24a, i_166_24b⟩⟩ := i_166_g
                try simp (disch := omega) only [↓i_in, ↓i_isCouple, ↓i_isBridge, ↓i_isTheme, ↓i_isBarge, i_lt, i_le, i_eq, i_clamp, i_upd, i_m1, Int32.toInt_toInt64, Int32.toInt_add, Int32.toInt_sub, Int32.toInt_mul, bm32, Int32.reduceToInt, Int64.reduceToInt, Nat.reduceLT, Nat.reduceEqDiff, reduceIte, true_or, or_true, true_and, and_true, false_or, or_false, not_true_eq_false, not_false_eq_true, eq_self] at i_167
                try simp (disch := omega) only [↓i_in, ↓i_isCouple, ↓i_isBridge, ↓i_isTheme, ↓i_isBarge, i_lt, i_le, i_eq, i_clamp, i_upd, i_m1, Int32.toInt_toInt64, Int32.toInt_add, Int32.toInt_sub, Int32.toInt_mul, bm32, Int32.reduceToInt, Int64.reduceToInt, Nat.reduceLT, Nat.reduceEqDiff, reduceIte, true_or, or_true, true_and, and_true, false_or, or_false, not_true_eq_false, not_false_eq_true, eq_self] at i_168
                by_cases c_169 : r_109 = 0
                · rw [if_pos c_169] at e
                  try simp (disch := omega) only [↓i_in, ↓i_isCouple, ↓i_isBridge, ↓i_isTheme, ↓i_isBarge, i_lt, i_le, i_eq, i_clamp, i_upd, i_m1, Int32.toInt_toInt64, Int32.toInt_add, Int32.toInt_sub, Int32.toInt_mul, bm32, Int32.reduceToInt, Int64.reduceToInt, Nat.reduceLT, Nat.reduceEqDiff, reduceIte, true_or, or_true, true_and, and_true, false_or, or_false, not_true_eq_false, not_false_eq_true, eq_self] at c_169
                  cases e
                  exact ⟨i_166, (by first | omega | (simp (disch := omega) only [↓i_in, ↓i_isCouple, ↓i_isBridge, ↓i_isTheme, ↓i_isBarge, i_lt, i_le, i_eq, i_clamp, i_upd, i_m1, Int32.toInt_toInt64, Int32.toInt_add, Int32.toInt_sub, Int32.toInt_mul, bm32, Int32.reduceToInt, Int64.reduceToInt, Nat.reduceLT, Nat.reduceEqDiff, reduceIte, true_or, or_true, true_and, and_true, false_or, or_false, not_true_eq_false, not_false_eq_true, eq_self] <;> omega)), (by first | omega | (simp (disch := omega) only [↓i_in, ↓i_isCouple, ↓i_isBridge, ↓i_isTheme, ↓i_isBarge, i_lt, i_le, i_eq, i_clamp, i_upd, i_m1, Int32.toInt_toInt64, Int32.toInt_add, Int32.toInt_sub, Int32.toInt_mul, bm32, Int32.reduceToInt, Int64.reduceToInt, Nat.reduceLT, Nat.reduceEqDiff, reduceIte, true_or, or_true, true_and, and_true, false_or, or_false, not_true_eq_false, not_false_eq_true, eq_self] <;> omega)), (by first | omega | (simp (disch := omega) only [↓i_in, ↓i_isCouple, ↓i_isBridge, ↓i_isTheme, ↓i_isBarge, i_lt, i_le, i_eq, i_clamp, i_upd, i_m1, Int32.toInt_toInt64, Int32.toInt_add, Int32.toInt_sub, Int32.toInt_mul, bm32, Int32.reduceToInt, Int64.reduceToInt, Nat.reduceLT, Nat.reduceEqDiff, reduceIte, true_or, or_true, true_and, and_true, false_or, or_false, not_true_eq_false, not_false_eq_true, eq_self] <;> omega)), h_1⟩
                · rw [if_neg c_169] at e
                  try simp (disch := omega) only [↓i_in, ↓i_isCouple, ↓i_isBridge, ↓i_isTheme, ↓i_isBarge, i_lt, i_le, i_eq, i_clamp, i_upd, i_m1, Int32.toInt_toInt64, Int32.toInt_add, Int32.toInt_sub, Int32.toInt_mul, bm32, Int32.reduceToInt, Int64.reduceToInt, Nat.reduceLT, Nat.reduceEqDiff, reduceIte, true_or, or_true, true_and, and_true, false_or, or_false, not_true_eq_false, not_false_eq_true, eq_self] at c_169
                  generalize x_170 : (f_m_takes u_108 f13 59) = z_171 at e
                  obtain ⟨r_113, u_112⟩ := z_171
                  try dsimp only at e
                  have p_172 := p_takes i_166 (by first | omega | (simp (disch := omega) only [↓i_in, ↓i_isCouple, ↓i_isBridge, ↓i_isTheme, ↓i_isBarge, i_lt, i_le, i_eq, i_clamp, i_upd, i_m1, Int32.toInt_toInt64, Int32.toInt_add, Int32.toInt_sub, Int32.toInt_mul, bm32, Int32.reduceToInt, Int64.reduceToInt, Nat.reduceLT, Nat.reduceEqDiff, reduceIte, true_or, or_true, true_and, and_true, false_or, or_false, not_true_eq_false, not_false_eq_true, eq_self] <;> omega)) _ _ x_170
                  obtain ⟨i_173, i_174, i_175, i_176, i_177, i_178, i_179⟩ := p_172
                  have i_173_g := i_173
                  obtain ⟨⟨⟨i_173_2a, i_173_2b⟩, ⟨i_173_3a, i_173_3b⟩, ⟨i_173_4a, i_173_4b⟩, ⟨i_173_5a, i_173_5b⟩, ⟨i_173_6a, i_173_6b⟩, ⟨i_173_14a, i_173_14b⟩, ⟨i_173_42a, i_173_42b⟩⟩, ⟨i_173_15a, i_173_15b⟩, ⟨i_173_20a, i_173_20b⟩, ⟨i_173_21a, i_173_21b⟩, ⟨i_173_23a, i_173_23b⟩, ⟨i_173_24a, i_173_24b⟩⟩ := i_173_g
                  by_cases c_180 : r_113 = 0
                  · rw [if_pos c_180] at e
                    try simp (disch := omega) only [↓i_in, ↓i_isCouple, ↓i_isBridge, ↓i_isTheme, ↓i_isBarge, i_lt, i_le, i_eq, i_clamp, i_upd, i_m1, Int32.toInt_toInt64, Int32.toInt_add, Int32.toInt_sub, Int32.toInt_mul, bm32, Int32.reduceToInt, Int64.reduceToInt, Nat.reduceLT, Nat.reduceEqDiff, reduceIte, true_or, or_true, true_and, and_true, false_or, or_false, not_true_eq_false, not_false_eq_true, eq_self] at c_180
                    cases e
                    exact ⟨i_173, (by first | omega | (simp (disch := omega) only [↓i_in, ↓i_isCouple, ↓i_isBridge, ↓i_isTheme, ↓i_isBarge, i_lt, i_le, i_eq, i_clamp, i_upd, i_m1, Int32.toInt_toInt64, Int32.toInt_add, Int32.toInt_sub, Int32.toInt_mul, bm32, Int32.reduceToInt, Int64.reduceToInt, Nat.reduceLT, Nat.reduceEqDiff, reduceIte, true_or, or_true, true_and, and_true, false_or, or_false, not_true_eq_false, not_false_eq_true, eq_self] <;> omega)), (by first | omega | (simp (disch := omega) only [↓i_in, ↓i_isCouple, ↓i_isBridge, ↓i_isTheme, ↓i_isBarge, i_lt, i_le, i_eq, i_clamp, i_upd, i_m1, Int32.toInt_toInt64, Int32.toInt_add, Int32.toInt_sub, Int32.toInt_mul, bm32, Int32.reduceToInt, Int64.reduceToInt, Nat.reduceLT, Nat.reduceEqDiff, reduceIte, true_or, or_true, true_and, and_true, false_or, or_false, not_true_eq_false, not_false_eq_true, eq_self] <;> omega)), (by first | omega | (simp (disch := omega) only [↓i_in, ↓i_isCouple, ↓i_isBridge, ↓i_isTheme, ↓i_isBarge, i_lt, i_le, i_eq, i_clamp, i_upd, i_m1, Int32.toInt_toInt64, Int32.toInt_add, Int32.toInt_sub, Int32.toInt_mul, bm32, Int32.reduceToInt, Int64.reduceToInt, Nat.reduceLT, Nat.reduceEqDiff, reduceIte, true_or, or_true, true_and, and_true, false_or, or_false, not_true_eq_false, not_false_eq_true, eq_self] <;> omega)), h_1⟩
                  · rw [if_neg c_180] at e
                    try simp (disch := omega) only [↓i_in, ↓i_isCouple, ↓i_isBridge, ↓i_isTheme, ↓i_isBarge, i_lt, i_le, i_eq, i_clamp, i_upd, i_m1, Int32.toInt_toInt64, Int32.toInt_add, Int32.toInt_sub, Int32.toInt_mul, bm32, Int32.reduceToInt, Int64.reduceToInt, Nat.reduceLT, Nat.reduceEqDiff, reduceIte, true_or, or_true, true_and, and_true, false_or, or_false, not_true_eq_false, not_false_eq_true, eq_self] at c_180
                    cases e
                    exact ⟨i_173, (by first | omega | (simp (disch := omega) only [↓i_in, ↓i_isCouple, ↓i_isBridge, ↓i_isTheme, ↓i_isBarge, i_lt, i_le, i_eq, i_clamp, i_upd, i_m1, Int32.toInt_toInt64, Int32.toInt_add, Int32.toInt_sub, Int32.toInt_mul, bm32, Int32.reduceToInt, Int64.reduceToInt, Nat.reduceLT, Nat.reduceEqDiff, reduceIte, true_or, or_true, true_and, and_true, false_or, or_false, not_true_eq_false, not_false_eq_true, eq_self] <;> omega)), (by first | omega | (simp (disch := omega) only [↓i_in, ↓i_isCouple, ↓i_isBridge, ↓i_isTheme, ↓i_isBarge, i_lt, i_le, i_eq, i_clamp, i_upd, i_m1, Int32.toInt_toInt64, Int32.toInt_add, Int32.toInt_sub, Int32.toInt_mul, bm32, Int32.reduceToInt, Int64.reduceToInt, Nat.reduceLT, Nat.reduceEqDiff, reduceIte, true_or, or_true, true_and, and_true, false_or, or_false, not_true_eq_false, not_false_eq_true, eq_self] <;> omega)), (by first | omega | (simp (disch := omega) only [↓i_in, ↓i_isCouple, ↓i_isBridge, ↓i_isTheme, ↓i_isBarge, i_lt, i_le, i_eq, i_clamp, i_upd, i_m1, Int32.toInt_toInt64, Int32.toInt_add, Int32.toInt_sub, Int32.toInt_mul, bm32, Int32.reduceToInt, Int64.reduceToInt, Nat.reduceLT, Nat.reduceEqDiff, reduceIte, true_or, or_true, true_and, and_true, false_or, or_false, not_true_eq_false, not_false_eq_true, eq_self] <;> omega)), h_1⟩
              · rw [if_neg c_162] at e
                try simp (disch := omega) only [↓i_in, ↓i_isCouple, ↓i_isBridge, ↓i_isTheme, ↓i_isBarge, i_lt, i_le, i_eq, i_clamp, i_upd, i_m1, Int32.toInt_toInt64, Int32.toInt_add, Int32.toInt_sub, Int32.toInt_mul, bm32, Int32.reduceToInt, Int64.reduceToInt, Nat.reduceLT, Nat.reduceEqDiff, reduceIte, true_or, or_true, true_and, and_true, false_or, or_false, not_true_eq_false, not_false_eq_true, eq_self] at c_162
                generalize x_181 : (f_m_fails u_2 3 (u_2 16)) = z_182 at e
                obtain ⟨r_117, u_116⟩ := z_182
                try dsimp only at e
                have p_183 := p_fails i_4 _ _ x_181
                obtain ⟨i_184, i_185, i_186, i_187, i_188, i_189, i_190, i_191⟩ := p_183
                have i_184_g := i_184
                obtain ⟨⟨⟨i_184_2a, i_184_2b⟩, ⟨i_184_3a, i_184_3b⟩, ⟨i_184_4a, i_184_4b⟩, ⟨i_184_5a, i_184_5b⟩, ⟨i_184_6a, i_184_6b⟩, ⟨i_184_14a, i_184_14b⟩, ⟨i_184_42a, i_184_42b⟩⟩, ⟨i_184_15a, i_184_15b⟩, ⟨i_184_20a, i_184_20b⟩, ⟨i_184_21a, i_184_21b⟩, ⟨i_184_23a, i_184_23b⟩, ⟨i_184_24a, i_184_24b⟩⟩ := i_184_g
                cases e
                exact ⟨i_184, (by first | omega | (simp (disch := omega) only [↓i_in, ↓i_isCouple, ↓i_isBridge, ↓i_isTheme, ↓i_isBarge, i_lt, i_le, i_eq, i_clamp, i_upd, i_m1, Int32.toInt_toInt64, Int32.toInt_add, Int32.toInt_sub, Int32.toInt_mul, bm32, Int32.reduceToInt, Int64.reduceToInt, Nat.reduceLT, Nat.reduceEqDiff, reduceIte, true_or, or_true, true_and, and_true, false_or, or_false, not_true_eq_false, not_false_eq_true, eq_self] <;> omega)), (by first | omega | (simp (disch := omega) only [↓i_in, ↓i_isCouple, ↓i_isBridge, ↓i_isTheme, ↓i_isBarge, i_lt, i_le, i_eq, i_clamp, i_upd, i_m1, Int32.toInt_toInt64, Int32.toInt_add, Int32.toInt_sub, Int32.toInt_mul, bm32, Int32.reduceToInt, Int64.reduceToInt, Nat.reduceLT, Nat.reduceEqDiff, reduceIte, true_or, or_true, true_and, and_true, false_or, or_false, not_true_eq_false, not_false_eq_true, eq_self] <;> omega)), (by first | omega | (simp (disch := omega) only [↓i_in, ↓i_isCouple, ↓i_isBridge, ↓i_isTheme, ↓i_isBarge, i_lt, i_le, i_eq, i_clamp, i_upd, i_m1, Int32.toInt_toInt64, Int32.toInt_add, Int32.toInt_sub, Int32.toInt_mul, bm32, Int32.reduceToInt, Int64.reduceToInt, Nat.reduceLT, Nat.reduceEqDiff, reduceIte, true_or, or_true, true_and, and_true, false_or, or_false, not_true_eq_false, not_false_eq_true, eq_self] <;> omega)), h_1⟩
            · rw [if_neg c_161] at e
              try simp (disch := omega) only [↓i_in, ↓i_isCouple, ↓i_isBridge, ↓i_isTheme, ↓i_isBarge, i_lt, i_le, i_eq, i_clamp, i_upd, i_m1, Int32.toInt_toInt64, Int32.toInt_add, Int32.toInt_sub, Int32.toInt_mul, bm32, Int32.reduceToInt, Int64.reduceToInt, Nat.reduceLT, Nat.reduceEqDiff, reduceIte, true_or, or_true, true_and, and_true, false_or, or_false, not_true_eq_false, not_false_eq_true, eq_self] at c_161
              generalize x_192 : (f_m_fails u_2 1 (u_2 16)) = z_193 at e
              obtain ⟨r_100, u_99⟩ := z_193
              try dsimp only at e
              have p_194 := p_fails i_4 _ _ x_192
              obtain ⟨i_195, i_196, i_197, i_198, i_199, i_200, i_201, i_202⟩ := p_194
              have i_195_g := i_195
              obtain ⟨⟨⟨i_195_2a, i_195_2b⟩, ⟨i_195_3a, i_195_3b⟩, ⟨i_195_4a, i_195_4b⟩, ⟨i_195_5a, i_195_5b⟩, ⟨i_195_6a, i_195_6b⟩, ⟨i_195_14a, i_195_14b⟩, ⟨i_195_42a, i_195_42b⟩⟩, ⟨i_195_15a, i_195_15b⟩, ⟨i_195_20a, i_195_20b⟩, ⟨i_195_21a, i_195_21b⟩, ⟨i_195_23a, i_195_23b⟩, ⟨i_195_24a, i_195_24b⟩⟩ := i_195_g
              cases e
              exact ⟨i_195, (by first | omega | (simp (disch := omega) only [↓i_in, ↓i_isCouple, ↓i_isBridge, ↓i_isTheme, ↓i_isBarge, i_lt, i_le, i_eq, i_clamp, i_upd, i_m1, Int32.toInt_toInt64, Int32.toInt_add, Int32.toInt_sub, Int32.toInt_mul, bm32, Int32.reduceToInt, Int64.reduceToInt, Nat.reduceLT, Nat.reduceEqDiff, reduceIte, true_or, or_true, true_and, and_true, false_or, or_false, not_true_eq_false, not_false_eq_true, eq_self] <;> omega)), (by first | omega | (simp (disch := omega) only [↓i_in, ↓i_isCouple, ↓i_isBridge, ↓i_isTheme, ↓i_isBarge, i_lt, i_le, i_eq, i_clamp, i_upd, i_m1, Int32.toInt_toInt64, Int32.toInt_add, Int32.toInt_sub, Int32.toInt_mul, bm32, Int32.reduceToInt, Int64.reduceToInt, Nat.reduceLT, Nat.reduceEqDiff, reduceIte, true_or, or_true, true_and, and_true, false_or, or_false, not_true_eq_false, not_false_eq_true, eq_self] <;> omega)), (by first | omega | (simp (disch := omega) only [↓i_in, ↓i_isCouple, ↓i_isBridge, ↓i_isTheme, ↓i_isBarge, i_lt, i_le, i_eq, i_clamp, i_upd, i_m1, Int32.toInt_toInt64, Int32.toInt_add, Int32.toInt_sub, Int32.toInt_mul, bm32, Int32.reduceToInt, Int64.reduceToInt, Nat.reduceLT, Nat.reduceEqDiff, reduceIte, true_or, or_true, true_and, and_true, false_or, or_false, not_true_eq_false, not_false_eq_true, eq_self] <;> omega)), h_1⟩
end
section
set_option maxHeartbeats 4000000 in
set_option maxRecDepth 100000 in
theorem sl_town_52 {f13 : Nat → Int32} {K : Int32 → (Nat → Int32) → (Nat → Int32) → (Nat → Int32) → (Nat → Int32) → (Nat → Int32) → (Nat → Int32) → (Nat → Int32) → (Nat → Int32) → (Nat → Int32) → (Nat → Int32) → (Nat → Int32) → (Nat → Int32) → (Nat → Int32) → Prop} (hK : ∀ w_1l1 w_1m0 w_1m1 w_1m2 w_1m3 w_1m4 w_1m5 w_1m6 w_1m7 w_1m8 w_1m9 w_1m10 w_1m11 w_1m12, (PI w_1m0 ∧ WI w_1m1 ∧ RI w_1m6 ∧ RI w_1m11) → K w_1l1 w_1m0 w_1m1 w_1m2 w_1m3 w_1m4 w_1m5 w_1m6 w_1m7 w_1m8 w_1m9 w_1m10 w_1m11 w_1m12) : ∀ (n : Nat) w_1l1 w_1m0 w_1m1 w_1m2 w_1m3 w_1m4 w_1m5 w_1m6 w_1m7 w_1m8 w_1m9 w_1m10 w_1m11 w_1m12, (PI w_1m0 ∧ WI w_1m1 ∧ RI w_1m6 ∧ RI w_1m11) → ((w_1l1.toInt = 0 ∨ ((w_1m0 14).toInt - (w_1m0 15).toInt).toNat + 1 < n) ∧ 0 < n) → S_m_town_52 f13 K n w_1l1 w_1m0 w_1m1 w_1m2 w_1m3 w_1m4 w_1m5 w_1m6 w_1m7 w_1m8 w_1m9 w_1m10 w_1m11 w_1m12 := by
  intro n
  induction n with
  | zero => intro w_1l1 w_1m0 w_1m1 w_1m2 w_1m3 w_1m4 w_1m5 w_1m6 w_1m7 w_1m8 w_1m9 w_1m10 w_1m11 w_1m12 hI hm; exact absurd hm (by omega)
  | succ n ih =>
    intro w_1l1 w_1m0 w_1m1 w_1m2 w_1m3 w_1m4 w_1m5 w_1m6 w_1m7 w_1m8 w_1m9 w_1m10 w_1m11 w_1m12 hI hm
    rw [S_m_town_52_s]
    have hI0 := hI
    obtain ⟨i_1, i_2, i_3, i_4⟩ := hI0
    have i_1_g := i_1
    obtain ⟨⟨⟨i_1_2a, i_1_2b⟩, ⟨i_1_3a, i_1_3b⟩, ⟨i_1_4a, i_1_4b⟩, ⟨i_1_5a, i_1_5b⟩, ⟨i_1_6a, i_1_6b⟩, ⟨i_1_14a, i_1_14b⟩, ⟨i_1_42a, i_1_42b⟩⟩, ⟨i_1_15a, i_1_15b⟩, ⟨i_1_20a, i_1_20b⟩, ⟨i_1_21a, i_1_21b⟩, ⟨i_1_23a, i_1_23b⟩, ⟨i_1_24a, i_1_24b⟩⟩ := i_1_g
    refine ⟨fun c_5 => ?_, fun c_5 => ?_⟩
    · skip
      try simp (disch := omega) only [↓i_in, ↓i_isCouple, ↓i_isBridge, ↓i_isTheme, ↓i_isBarge, i_lt, i_le, i_eq, i_clamp, i_upd, i_m1, Int32.toInt_toInt64, Int32.toInt_add, Int32.toInt_sub, Int32.toInt_mul, bm32, Int32.reduceToInt, Int64.reduceToInt, Nat.reduceLT, Nat.reduceEqDiff, reduceIte, true_or, or_true, true_and, and_true, false_or, or_false, not_true_eq_false, not_false_eq_true, eq_self] at c_5
      exact hK w_1l1 w_1m0 w_1m1 w_1m2 w_1m3 w_1m4 w_1m5 w_1m6 w_1m7 w_1m8 w_1m9 w_1m10 w_1m11 w_1m12 hI
    · skip
      try simp (disch := omega) only [↓i_in, ↓i_isCouple, ↓i_isBridge, ↓i_isTheme, ↓i_isBarge, i_lt, i_le, i_eq, i_clamp, i_upd, i_m1, Int32.toInt_toInt64, Int32.toInt_add, Int32.toInt_sub, Int32.toInt_mul, bm32, Int32.reduceToInt, Int64.reduceToInt, Nat.reduceLT, Nat.reduceEqDiff, reduceIte, true_or, or_true, true_and, and_true, false_or, or_false, not_true_eq_false, not_false_eq_true, eq_self] at c_5
      refine ⟨(s_here i_1), ?_⟩
      intro r_25 u_24 e_6
      have p_7 := p_here i_1 _ _ e_6.symm
      obtain ⟨i_8, i_9, i_10, i_11, i_12, i_13, i_14, i_15⟩ := p_7
      have i_8_g := i_8
      obtain ⟨⟨⟨i_8_2a, i_8_2b⟩, ⟨i_8_3a, i_8_3b⟩, ⟨i_8_4a, i_8_4b⟩, ⟨i_8_5a, i_8_5b⟩, ⟨i_8_6a, i_8_6b⟩, ⟨i_8_14a, i_8_14b⟩, ⟨i_8_42a, i_8_42b⟩⟩, ⟨i_8_15a, i_8_15b⟩, ⟨i_8_20a, i_8_20b⟩, ⟨i_8_21a, i_8_21b⟩, ⟨i_8_23a, i_8_23b⟩, ⟨i_8_24a, i_8_24b⟩⟩ := i_8_g
      refine ⟨fun c_16 => ?_, fun c_16 => ?_⟩
      · skip
        try simp (disch := omega) only [↓i_in, ↓i_isCouple, ↓i_isBridge, ↓i_isTheme, ↓i_isBarge, i_lt, i_le, i_eq, i_clamp, i_upd, i_m1, Int32.toInt_toInt64, Int32.toInt_add, Int32.toInt_sub, Int32.toInt_mul, bm32, Int32.reduceToInt, Int64.reduceToInt, Nat.reduceLT, Nat.reduceEqDiff, reduceIte, true_or, or_true, true_and, and_true, false_or, or_false, not_true_eq_false, not_false_eq_true, eq_self] at c_16
        exact hK w_1l1 u_24 w_1m1 w_1m2 w_1m3 w_1m4 w_1m5 w_1m6 w_1m7 w_1m8 w_1m9 w_1m10 w_1m11 w_1m12 (⟨i_8, i_2, i_3, i_4⟩)
      · skip
        try simp (disch := omega) only [↓i_in, ↓i_isCouple, ↓i_isBridge, ↓i_isTheme, ↓i_isBarge, i_lt, i_le, i_eq, i_clamp, i_upd, i_m1, Int32.toInt_toInt64, Int32.toInt_add, Int32.toInt_sub, Int32.toInt_mul, bm32, Int32.reduceToInt, Int64.reduceToInt, Nat.reduceLT, Nat.reduceEqDiff, reduceIte, true_or, or_true, true_and, and_true, false_or, or_false, not_true_eq_false, not_false_eq_true, eq_self] at c_16
        refine ⟨(s_takesClause i_8 i_4), ?_⟩
        intro r_29 o_30 o_31 o_32 o_33 o_34 o_35 e_17
        have p_18 := p_takesClause i_8 i_4 _ _ _ _ _ _ _ e_17.symm
        obtain ⟨i_19, i_20, i_21, i_22, i_23⟩ := p_18
        have i_19_g := i_19
        obtain ⟨⟨⟨i_19_2a, i_19_2b⟩, ⟨i_19_3a, i_19_3b⟩, ⟨i_19_4a, i_19_4b⟩, ⟨i_19_5a, i_19_5b⟩, ⟨i_19_6a, i_19_6b⟩, ⟨i_19_14a, i_19_14b⟩, ⟨i_19_42a, i_19_42b⟩⟩, ⟨i_19_15a, i_19_15b⟩, ⟨i_19_20a, i_19_20b⟩, ⟨i_19_21a, i_19_21b⟩, ⟨i_19_23a, i_19_23b⟩, ⟨i_19_24a, i_19_24b⟩⟩ := i_19_g
        exact ih r_29 o_30 w_1m1 w_1m2 w_1m3 w_1m4 w_1m5 w_1m6 w_1m7 o_31 o_32 o_33 o_34 o_35 (⟨i_19, i_2, i_3, i_23⟩) (by first | omega | (simp (disch := omega) only [↓i_in, ↓i_isCouple, ↓i_isBridge, ↓i_isTheme, ↓i_isBarge, i_lt, i_le, i_eq, i_clamp, i_upd, i_m1, Int32.toInt_toInt64, Int32.toInt_add, Int32.toInt_sub, Int32.toInt_mul, bm32, Int32.reduceToInt, Int64.reduceToInt, Nat.reduceLT, Nat.reduceEqDiff, reduceIte, true_or, or_true, true_and, and_true, false_or, or_false, not_true_eq_false, not_false_eq_true, eq_self] <;> omega))
set_option maxHeartbeats 4000000 in
set_option maxRecDepth 100000 in
theorem pl_town_52 {f13 : Nat → Int32} : ∀ (n : Nat) w_1l1 w_1m0 w_1m1 w_1m2 w_1m3 w_1m4 w_1m5 w_1m6 w_1m7 w_1m8 w_1m9 w_1m10 w_1m11 w_1m12, (PI w_1m0 ∧ WI w_1m1 ∧ RI w_1m6 ∧ RI w_1m11) → ∀ r0 r1 r2 r3 r4 r5 r6 r7 r8 r9 r10 r11 r12 r13, f_m_town_52 f13 n w_1l1 w_1m0 w_1m1 w_1m2 w_1m3 w_1m4 w_1m5 w_1m6 w_1m7 w_1m8 w_1m9 w_1m10 w_1m11 w_1m12 = (r0, r1, r2, r3, r4, r5, r6, r7, r8, r9, r10, r11, r12, r13) → PI r1 ∧ WI r2 ∧ RI r7 ∧ RI r12 := by
  intro n
  induction n with
  | zero =>
    intro w_1l1 w_1m0 w_1m1 w_1m2 w_1m3 w_1m4 w_1m5 w_1m6 w_1m7 w_1m8 w_1m9 w_1m10 w_1m11 w_1m12 hI r0 r1 r2 r3 r4 r5 r6 r7 r8 r9 r10 r11 r12 r13 e
    replace e : (w_1l1, w_1m0, w_1m1, w_1m2, w_1m3, w_1m4, w_1m5, w_1m6, w_1m7, w_1m8, w_1m9, w_1m10, w_1m11, w_1m12) = (r0, r1, r2, r3, r4, r5, r6, r7, r8, r9, r10, r11, r12, r13) := e
    cases e
    exact hI
  | succ n ih =>
    intro w_1l1 w_1m0 w_1m1 w_1m2 w_1m3 w_1m4 w_1m5 w_1m6 w_1m7 w_1m8 w_1m9 w_1m10 w_1m11 w_1m12 hI r0 r1 r2 r3 r4 r5 r6 r7 r8 r9 r10 r11 r12 r13 e
    rw [f_m_town_52_s] at e
    have hI0 := hI
    obtain ⟨i_1, i_2, i_3, i_4⟩ := hI0
    have i_1_g := i_1
    obtain ⟨⟨⟨i_1_2a, i_1_2b⟩, ⟨i_1_3a, i_1_3b⟩, ⟨i_1_4a, i_1_4b⟩, ⟨i_1_5a, i_1_5b⟩, ⟨i_1_6a, i_1_6b⟩, ⟨i_1_14a, i_1_14b⟩, ⟨i_1_42a, i_1_42b⟩⟩, ⟨i_1_15a, i_1_15b⟩, ⟨i_1_20a, i_1_20b⟩, ⟨i_1_21a, i_1_21b⟩, ⟨i_1_23a, i_1_23b⟩, ⟨i_1_24a, i_1_24b⟩⟩ := i_1_g
    by_cases c_5 : w_1l1 = 0
    · rw [if_pos c_5] at e
      try simp (disch := omega) only [↓i_in, ↓i_isCouple, ↓i_isBridge, ↓i_isTheme, ↓i_isBarge, i_lt, i_le, i_eq, i_clamp, i_upd, i_m1, Int32.toInt_toInt64, Int32.toInt_add, Int32.toInt_sub, Int32.toInt_mul, bm32, Int32.reduceToInt, Int64.reduceToInt, Nat.reduceLT, Nat.reduceEqDiff, reduceIte, true_or, or_true, true_and, and_true, false_or, or_false, not_true_eq_false, not_false_eq_true, eq_self] at c_5
      cases e
      exact hI
    · rw [if_neg c_5] at e
      try simp (disch := omega) only [↓i_in, ↓i_isCouple, ↓i_isBridge, ↓i_isTheme, ↓i_isBarge, i_lt, i_le, i_eq, i_clamp, i_upd, i_m1, Int32.toInt_toInt64, Int32.toInt_add, Int32.toInt_sub, Int32.toInt_mul, bm32, Int32.reduceToInt, Int64.reduceToInt, Nat.reduceLT, Nat.reduceEqDiff, reduceIte, true_or, or_true, true_and, and_true, false_or, or_false, not_true_eq_false, not_false_eq_true, eq_self] at c_5
      generalize x_6 : (f_m_here w_1m0 f13) = z_7 at e
      obtain ⟨r_25, u_24⟩ := z_7
      replace e : ((if r_25 = (-1) then (w_1l1, u_24, w_1m1, w_1m2, w_1m3, w_1m4, w_1m5, w_1m6, w_1m7, w_1m8, w_1m9, w_1m10, w_1m11, w_1m12) else (match (f_m_takesClause u_24 f13 w_1m8 w_1m9 w_1m10 w_1m11 w_1m12) with | (r_29, o_30, o_31, o_32, o_33, o_34, o_35) => (f_m_town_52 f13 n r_29 o_30 w_1m1 w_1m2 w_1m3 w_1m4 w_1m5 w_1m6 w_1m7 o_31 o_32 o_33 o_34 o_35))) : Int32 × (Nat → Int32) × (Nat → Int32) × (Nat → Int32) × (Nat → Int32) × (Nat → Int32) × (Nat → Int32) × (Nat → Int32) × (Nat → Int32) × (Nat → Int32) × (Nat → Int32) × (Nat → Int32) × (Nat → Int32) × (Nat → Int32)) = (r0, r1, r2, r3, r4, r5, r6, r7, r8, r9, r10, r11, r12, r13) := e
      have p_8 := p_here i_1 _ _ x_6
      obtain ⟨i_9, i_10, i_11, i_12, i_13, i_14, i_15, i_16⟩ := p_8
      have i_9_g := i_9
      obtain ⟨⟨⟨i_9_2a, i_9_2b⟩, ⟨i_9_3a, i_9_3b⟩, ⟨i_9_4a, i_9_4b⟩, ⟨i_9_5a, i_9_5b⟩, ⟨i_9_6a, i_9_6b⟩, ⟨i_9_14a, i_9_14b⟩, ⟨i_9_42a, i_9_42b⟩⟩, ⟨i_9_15a, i_9_15b⟩, ⟨i_9_20a, i_9_20b⟩, ⟨i_9_21a, i_9_21b⟩, ⟨i_9_23a, i_9_23b⟩, ⟨i_9_24a, i_9_24b⟩⟩ := i_9_g
      by_cases c_17 : r_25 = (-1)
      · rw [if_pos c_17] at e
        try simp (disch := omega) only [↓i_in, ↓i_isCouple, ↓i_isBridge, ↓i_isTheme, ↓i_isBarge, i_lt, i_le, i_eq, i_clamp, i_upd, i_m1, Int32.toInt_toInt64, Int32.toInt_add, Int32.toInt_sub, Int32.toInt_mul, bm32, Int32.reduceToInt, Int64.reduceToInt, Nat.reduceLT, Nat.reduceEqDiff, reduceIte, true_or, or_true, true_and, and_true, false_or, or_false, not_true_eq_false, not_false_eq_true, eq_self] at c_17
        cases e
        exact ⟨i_9, i_2, i_3, i_4⟩
      · rw [if_neg c_17] at e
        try simp (disch := omega) only [↓i_in, ↓i_isCouple, ↓i_isBridge, ↓i_isTheme, ↓i_isBarge, i_lt, i_le, i_eq, i_clamp, i_upd, i_m1, Int32.toInt_toInt64, Int32.toInt_add, Int32.toInt_sub, Int32.toInt_mul, bm32, Int32.reduceToInt, Int64.reduceToInt, Nat.reduceLT, Nat.reduceEqDiff, reduceIte, true_or, or_true, true_and, and_true, false_or, or_false, not_true_eq_false, not_false_eq_true, eq_self] at c_17
        generalize x_18 : (f_m_takesClause u_24 f13 w_1m8 w_1m9 w_1m10 w_1m11 w_1m12) = z_19 at e
        obtain ⟨r_29, o_30, o_31, o_32, o_33, o_34, o_35⟩ := z_19
        replace e : ((f_m_town_52 f13 n r_29 o_30 w_1m1 w_1m2 w_1m3 w_1m4 w_1m5 w_1m6 w_1m7 o_31 o_32 o_33 o_34 o_35) : Int32 × (Nat → Int32) × (Nat → Int32) × (Nat → Int32) × (Nat → Int32) × (Nat → Int32) × (Nat → Int32) × (Nat → Int32) × (Nat → Int32) × (Nat → Int32) × (Nat → Int32) × (Nat → Int32) × (Nat → Int32) × (Nat → Int32)) = (r0, r1, r2, r3, r4, r5, r6, r7, r8, r9, r10, r11, r12, r13) := e
        have p_20 := p_takesClause i_9 i_4 _ _ _ _ _ _ _ x_18
        obtain ⟨i_21, i_22, i_23, i_24, i_25⟩ := p_20
        have i_21_g := i_21
        obtain ⟨⟨⟨i_21_2a, i_21_2b⟩, ⟨i_21_3a, i_21_3b⟩, ⟨i_21_4a, i_21_4b⟩, ⟨i_21_5a, i_21_5b⟩, ⟨i_21_6a, i_21_6b⟩, ⟨i_21_14a, i_21_14b⟩, ⟨i_21_42a, i_21_42b⟩⟩, ⟨i_21_15a, i_21_15b⟩, ⟨i_21_20a, i_21_20b⟩, ⟨i_21_21a, i_21_21b⟩, ⟨i_21_23a, i_21_23b⟩, ⟨i_21_24a, i_21_24b⟩⟩ := i_21_g
        exact ih r_29 o_30 w_1m1 w_1m2 w_1m3 w_1m4 w_1m5 w_1m6 w_1m7 o_31 o_32 o_33 o_34 o_35 (⟨i_21, i_2, i_3, i_25⟩) _ _ _ _ _ _ _ _ _ _ _ _ _ _ e
set_option maxHeartbeats 4000000 in
set_option maxRecDepth 100000 in
theorem sl_town_131  {K : Int32 → (Nat → Int32) → (Nat → Int32) → (Nat → Int32) → (Nat → Int32) → (Nat → Int32) → (Nat → Int32) → (Nat → Int32) → (Nat → Int32) → (Nat → Int32) → (Nat → Int32) → (Nat → Int32) → (Nat → Int32) → (Nat → Int32) → Prop} (hK : ∀ w_3l2 w_3m0 w_3m1 w_3m2 w_3m3 w_3m4 w_3m5 w_3m6 w_3m7 w_3m8 w_3m9 w_3m10 w_3m11 w_3m12, (GI w_3m0 ∧ WI w_3m1 ∧ RI w_3m6 ∧ RI w_3m11 ∧ ((w_3m0 14).toInt = 0) ∧ (0 ≤ w_3l2.toInt) ∧ (w_3l2.toInt ≤ 6)) → K w_3l2 w_3m0 w_3m1 w_3m2 w_3m3 w_3m4 w_3m5 w_3m6 w_3m7 w_3m8 w_3m9 w_3m10 w_3m11 w_3m12) : ∀ (n : Nat) w_3l2 w_3m0 w_3m1 w_3m2 w_3m3 w_3m4 w_3m5 w_3m6 w_3m7 w_3m8 w_3m9 w_3m10 w_3m11 w_3m12, (GI w_3m0 ∧ WI w_3m1 ∧ RI w_3m6 ∧ RI w_3m11 ∧ ((w_3m0 14).toInt = 0) ∧ (0 ≤ w_3l2.toInt) ∧ (w_3l2.toInt ≤ 6)) → S_m_town_131  K n w_3l2 w_3m0 w_3m1 w_3m2 w_3m3 w_3m4 w_3m5 w_3m6 w_3m7 w_3m8 w_3m9 w_3m10 w_3m11 w_3m12 := by
  intro n
  induction n with
  | zero => intro w_3l2 w_3m0 w_3m1 w_3m2 w_3m3 w_3m4 w_3m5 w_3m6 w_3m7 w_3m8 w_3m9 w_3m10 w_3m11 w_3m12 hI; exact trivial
  | succ n ih =>
    intro w_3l2 w_3m0 w_3m1 w_3m2 w_3m3 w_3m4 w_3m5 w_3m6 w_3m7 w_3m8 w_3m9 w_3m10 w_3m11 w_3m12 hI
    rw [S_m_town_131_s]
    have hI0 := hI
    obtain ⟨i_1, i_2, i_3, i_4, i_5, i_6, i_7⟩ := hI0
    have i_1_g := i_1
    obtain ⟨⟨i_1_2a, i_1_2b⟩, ⟨i_1_3a, i_1_3b⟩, ⟨i_1_4a, i_1_4b⟩, ⟨i_1_5a, i_1_5b⟩, ⟨i_1_6a, i_1_6b⟩, ⟨i_1_14a, i_1_14b⟩, ⟨i_1_42a, i_1_42b⟩⟩ := i_1_g
    refine ⟨fun c_8 => ?_, fun c_8 => ?_⟩
    · skip
      try simp (disch := omega) only [↓i_in, ↓i_isCouple, ↓i_isBridge, ↓i_isTheme, ↓i_isBarge, i_lt, i_le, i_eq, i_clamp, i_upd, i_m1, Int32.toInt_toInt64, Int32.toInt_add, Int32.toInt_sub, Int32.toInt_mul, bm32, Int32.reduceToInt, Int64.reduceToInt, Nat.reduceLT, Nat.reduceEqDiff, reduceIte, true_or, or_true, true_and, and_true, false_or, or_false, not_true_eq_false, not_false_eq_true, eq_self] at c_8
      exact hK w_3l2 w_3m0 w_3m1 w_3m2 w_3m3 w_3m4 w_3m5 w_3m6 w_3m7 w_3m8 w_3m9 w_3m10 w_3m11 w_3m12 hI
    · skip
      try simp (disch := omega) only [↓i_in, ↓i_isCouple, ↓i_isBridge, ↓i_isTheme, ↓i_isBarge, i_lt, i_le, i_eq, i_clamp, i_upd, i_m1, Int32.toInt_toInt64, Int32.toInt_add, Int32.toInt_sub, Int32.toInt_mul, bm32, Int32.reduceToInt, Int64.reduceToInt, Nat.reduceLT, Nat.reduceEqDiff, reduceIte, true_or, or_true, true_and, and_true, false_or, or_false, not_true_eq_false, not_false_eq_true, eq_self] at c_8
      refine ⟨vp_in_iff.mpr (by first | omega | (simp (disch := omega) only [↓i_in, ↓i_isCouple, ↓i_isBridge, ↓i_isTheme, ↓i_isBarge, i_lt, i_le, i_eq, i_clamp, i_upd, i_m1, Int32.toInt_toInt64, Int32.toInt_add, Int32.toInt_sub, Int32.toInt_mul, bm32, Int32.reduceToInt, Int64.reduceToInt, Nat.reduceLT, Nat.reduceEqDiff, reduceIte, true_or, or_true, true_and, and_true, false_or, or_false, not_true_eq_false, not_false_eq_true, eq_self] <;> omega)), ?_⟩
      refine ⟨vp_in_iff.mpr (by first | omega | (simp (disch := omega) only [↓i_in, ↓i_isCouple, ↓i_isBridge, ↓i_isTheme, ↓i_isBarge, i_lt, i_le, i_eq, i_clamp, i_upd, i_m1, Int32.toInt_toInt64, Int32.toInt_add, Int32.toInt_sub, Int32.toInt_mul, bm32, Int32.reduceToInt, Int64.reduceToInt, Nat.reduceLT, Nat.reduceEqDiff, reduceIte, true_or, or_true, true_and, and_true, false_or, or_false, not_true_eq_false, not_false_eq_true, eq_self] <;> omega)), ?_⟩
      refine ⟨vp_in_iff.mpr (by first | omega | (simp (disch := omega) only [↓i_in, ↓i_isCouple, ↓i_isBridge, ↓i_isTheme, ↓i_isBarge, i_lt, i_le, i_eq, i_clamp, i_upd, i_m1, Int32.toInt_toInt64, Int32.toInt_add, Int32.toInt_sub, Int32.toInt_mul, bm32, Int32.reduceToInt, Int64.reduceToInt, Nat.reduceLT, Nat.reduceEqDiff, reduceIte, true_or, or_true, true_and, and_true, false_or, or_false, not_true_eq_false, not_false_eq_true, eq_self] <;> omega)), ?_⟩
      refine ⟨vp_in_iff.mpr (by first | omega | (simp (disch := omega) only [↓i_in, ↓i_isCouple, ↓i_isBridge, ↓i_isTheme, ↓i_isBarge, i_lt, i_le, i_eq, i_clamp, i_upd, i_m1, Int32.toInt_toInt64, Int32.toInt_add, Int32.toInt_sub, Int32.toInt_mul, bm32, Int32.reduceToInt, Int64.reduceToInt, Nat.reduceLT, Nat.reduceEqDiff, reduceIte, true_or, or_true, true_and, and_true, false_or, or_false, not_true_eq_false, not_false_eq_true, eq_self] <;> omega)), ?_⟩
      exact ih (w_3l2 + 1) w_3m0 w_3m1 w_3m2 (upd w_3m3 (w_3l2 : Int32).toNatClampNeg (w_3m8 (w_3l2 : Int32).toNatClampNeg)) (upd w_3m4 (w_3l2 : Int32).toNatClampNeg (w_3m9 (w_3l2 : Int32).toNatClampNeg)) w_3m5 w_3m6 w_3m7 w_3m8 w_3m9 w_3m10 w_3m11 w_3m12 (⟨i_1, i_2, i_3, i_4, (by first | omega | (simp (disch := omega) only [↓i_in, ↓i_isCouple, ↓i_isBridge, ↓i_isTheme, ↓i_isBarge, i_lt, i_le, i_eq, i_clamp, i_upd, i_m1, Int32.toInt_toInt64, Int32.toInt_add, Int32.toInt_sub, Int32.toInt_mul, bm32, Int32.reduceToInt, Int64.reduceToInt, Nat.reduceLT, Nat.reduceEqDiff, reduceIte, true_or, or_true, true_and, and_true, false_or, or_false, not_true_eq_false, not_false_eq_true, eq_self] <;> omega)), (by first | omega | (simp (disch := omega) only [↓i_in, ↓i_isCouple, ↓i_isBridge, ↓i_isTheme, ↓i_isBarge, i_lt, i_le, i_eq, i_clamp, i_upd, i_m1, Int32.toInt_toInt64, Int32.toInt_add, Int32.toInt_sub, Int32.toInt_mul, bm32, Int32.reduceToInt, Int64.reduceToInt, Nat.reduceLT, Nat.reduceEqDiff, reduceIte, true_or, or_true, true_and, and_true, false_or, or_false, not_true_eq_false, not_false_eq_true, eq_self] <;> omega)), (by first | omega | (simp (disch := omega) only [↓i_in, ↓i_isCouple, ↓i_isBridge, ↓i_isTheme, ↓i_isBarge, i_lt, i_le, i_eq, i_clamp, i_upd, i_m1, Int32.toInt_toInt64, Int32.toInt_add, Int32.toInt_sub, Int32.toInt_mul, bm32, Int32.reduceToInt, Int64.reduceToInt, Nat.reduceLT, Nat.reduceEqDiff, reduceIte, true_or, or_true, true_and, and_true, false_or, or_false, not_true_eq_false, not_false_eq_true, eq_self] <;> omega))⟩)
set_option maxHeartbeats 4000000 in
set_option maxRecDepth 100000 in
theorem pl_town_131  : ∀ (n : Nat) w_3l2 w_3m0 w_3m1 w_3m2 w_3m3 w_3m4 w_3m5 w_3m6 w_3m7 w_3m8 w_3m9 w_3m10 w_3m11 w_3m12, (GI w_3m0 ∧ WI w_3m1 ∧ RI w_3m6 ∧ RI w_3m11 ∧ ((w_3m0 14).toInt = 0) ∧ (0 ≤ w_3l2.toInt) ∧ (w_3l2.toInt ≤ 6)) → ∀ r0 r1 r2 r3 r4 r5 r6 r7 r8 r9 r10 r11 r12 r13, f_m_town_131  n w_3l2 w_3m0 w_3m1 w_3m2 w_3m3 w_3m4 w_3m5 w_3m6 w_3m7 w_3m8 w_3m9 w_3m10 w_3m11 w_3m12 = (r0, r1, r2, r3, r4, r5, r6, r7, r8, r9, r10, r11, r12, r13) → GI r1 ∧ WI r2 ∧ RI r7 ∧ RI r12 ∧ ((r1 14).toInt = 0) ∧ (0 ≤ r0.toInt) ∧ (r0.toInt ≤ 6) := by
  intro n
  induction n with
  | zero =>
    intro w_3l2 w_3m0 w_3m1 w_3m2 w_3m3 w_3m4 w_3m5 w_3m6 w_3m7 w_3m8 w_3m9 w_3m10 w_3m11 w_3m12 hI r0 r1 r2 r3 r4 r5 r6 r7 r8 r9 r10 r11 r12 r13 e
    replace e : (w_3l2, w_3m0, w_3m1, w_3m2, w_3m3, w_3m4, w_3m5, w_3m6, w_3m7, w_3m8, w_3m9, w_3m10, w_3m11, w_3m12) = (r0, r1, r2, r3, r4, r5, r6, r7, r8, r9, r10, r11, r12, r13) := e
    cases e
    exact hI
  | succ n ih =>
    intro w_3l2 w_3m0 w_3m1 w_3m2 w_3m3 w_3m4 w_3m5 w_3m6 w_3m7 w_3m8 w_3m9 w_3m10 w_3m11 w_3m12 hI r0 r1 r2 r3 r4 r5 r6 r7 r8 r9 r10 r11 r12 r13 e
    rw [f_m_town_131_s] at e
    have hI0 := hI
    obtain ⟨i_1, i_2, i_3, i_4, i_5, i_6, i_7⟩ := hI0
    have i_1_g := i_1
    obtain ⟨⟨i_1_2a, i_1_2b⟩, ⟨i_1_3a, i_1_3b⟩, ⟨i_1_4a, i_1_4b⟩, ⟨i_1_5a, i_1_5b⟩, ⟨i_1_6a, i_1_6b⟩, ⟨i_1_14a, i_1_14b⟩, ⟨i_1_42a, i_1_42b⟩⟩ := i_1_g
    by_cases c_8 : 6 ≤ w_3l2
    · rw [if_pos c_8] at e
      try simp (disch := omega) only [↓i_in, ↓i_isCouple, ↓i_isBridge, ↓i_isTheme, ↓i_isBarge, i_lt, i_le, i_eq, i_clamp, i_upd, i_m1, Int32.toInt_toInt64, Int32.toInt_add, Int32.toInt_sub, Int32.toInt_mul, bm32, Int32.reduceToInt, Int64.reduceToInt, Nat.reduceLT, Nat.reduceEqDiff, reduceIte, true_or, or_true, true_and, and_true, false_or, or_false, not_true_eq_false, not_false_eq_true, eq_self] at c_8
      cases e
      exact hI
    · rw [if_neg c_8] at e
      try simp (disch := omega) only [↓i_in, ↓i_isCouple, ↓i_isBridge, ↓i_isTheme, ↓i_isBarge, i_lt, i_le, i_eq, i_clamp, i_upd, i_m1, Int32.toInt_toInt64, Int32.toInt_add, Int32.toInt_sub, Int32.toInt_mul, bm32, Int32.reduceToInt, Int64.reduceToInt, Nat.reduceLT, Nat.reduceEqDiff, reduceIte, true_or, or_true, true_and, and_true, false_or, or_false, not_true_eq_false, not_false_eq_true, eq_self] at c_8
      exact ih (w_3l2 + 1) w_3m0 w_3m1 w_3m2 (upd w_3m3 (w_3l2 : Int32).toNatClampNeg (w_3m8 (w_3l2 : Int32).toNatClampNeg)) (upd w_3m4 (w_3l2 : Int32).toNatClampNeg (w_3m9 (w_3l2 : Int32).toNatClampNeg)) w_3m5 w_3m6 w_3m7 w_3m8 w_3m9 w_3m10 w_3m11 w_3m12 (⟨i_1, i_2, i_3, i_4, (by first | omega | (simp (disch := omega) only [↓i_in, ↓i_isCouple, ↓i_isBridge, ↓i_isTheme, ↓i_isBarge, i_lt, i_le, i_eq, i_clamp, i_upd, i_m1, Int32.toInt_toInt64, Int32.toInt_add, Int32.toInt_sub, Int32.toInt_mul, bm32, Int32.reduceToInt, Int64.reduceToInt, Nat.reduceLT, Nat.reduceEqDiff, reduceIte, true_or, or_true, true_and, and_true, false_or, or_false, not_true_eq_false, not_false_eq_true, eq_self] <;> omega)), (by first | omega | (simp (disch := omega) only [↓i_in, ↓i_isCouple, ↓i_isBridge, ↓i_isTheme, ↓i_isBarge, i_lt, i_le, i_eq, i_clamp, i_upd, i_m1, Int32.toInt_toInt64, Int32.toInt_add, Int32.toInt_sub, Int32.toInt_mul, bm32, Int32.reduceToInt, Int64.reduceToInt, Nat.reduceLT, Nat.reduceEqDiff, reduceIte, true_or, or_true, true_and, and_true, false_or, or_false, not_true_eq_false, not_false_eq_true, eq_self] <;> omega)), (by first | omega | (simp (disch := omega) only [↓i_in, ↓i_isCouple, ↓i_isBridge, ↓i_isTheme, ↓i_isBarge, i_lt, i_le, i_eq, i_clamp, i_upd, i_m1, Int32.toInt_toInt64, Int32.toInt_add, Int32.toInt_sub, Int32.toInt_mul, bm32, Int32.reduceToInt, Int64.reduceToInt, Nat.reduceLT, Nat.reduceEqDiff, reduceIte, true_or, or_true, true_and, and_true, false_or, or_false, not_true_eq_false, not_false_eq_true, eq_self] <;> omega))⟩) _ _ _ _ _ _ _ _ _ _ _ _ _ _ e
set_option maxHeartbeats 4000000 in
set_option maxRecDepth 100000 in
theorem sl_town_169  {K : Int32 → (Nat → Int32) → (Nat → Int32) → (Nat → Int32) → (Nat → Int32) → (Nat → Int32) → (Nat → Int32) → (Nat → Int32) → (Nat → Int32) → (Nat → Int32) → (Nat → Int32) → (Nat → Int32) → (Nat → Int32) → (Nat → Int32) → Prop} (hK : ∀ w_4l2 w_4m0 w_4m1 w_4m2 w_4m3 w_4m4 w_4m5 w_4m6 w_4m7 w_4m8 w_4m9 w_4m10 w_4m11 w_4m12, (GI w_4m0 ∧ WI w_4m1 ∧ RI w_4m6 ∧ RI w_4m11 ∧ ((w_4m0 14).toInt = 0) ∧ (0 ≤ w_4l2.toInt) ∧ (w_4l2.toInt ≤ 30)) → K w_4l2 w_4m0 w_4m1 w_4m2 w_4m3 w_4m4 w_4m5 w_4m6 w_4m7 w_4m8 w_4m9 w_4m10 w_4m11 w_4m12) : ∀ (n : Nat) w_4l2 w_4m0 w_4m1 w_4m2 w_4m3 w_4m4 w_4m5 w_4m6 w_4m7 w_4m8 w_4m9 w_4m10 w_4m11 w_4m12, (GI w_4m0 ∧ WI w_4m1 ∧ RI w_4m6 ∧ RI w_4m11 ∧ ((w_4m0 14).toInt = 0) ∧ (0 ≤ w_4l2.toInt) ∧ (w_4l2.toInt ≤ 30)) → S_m_town_169  K n w_4l2 w_4m0 w_4m1 w_4m2 w_4m3 w_4m4 w_4m5 w_4m6 w_4m7 w_4m8 w_4m9 w_4m10 w_4m11 w_4m12 := by
  intro n
  induction n with
  | zero => intro w_4l2 w_4m0 w_4m1 w_4m2 w_4m3 w_4m4 w_4m5 w_4m6 w_4m7 w_4m8 w_4m9 w_4m10 w_4m11 w_4m12 hI; exact trivial
  | succ n ih =>
    intro w_4l2 w_4m0 w_4m1 w_4m2 w_4m3 w_4m4 w_4m5 w_4m6 w_4m7 w_4m8 w_4m9 w_4m10 w_4m11 w_4m12 hI
    rw [S_m_town_169_s]
    have hI0 := hI
    obtain ⟨i_1, i_2, i_3, i_4, i_5, i_6, i_7⟩ := hI0
    have i_1_g := i_1
    obtain ⟨⟨i_1_2a, i_1_2b⟩, ⟨i_1_3a, i_1_3b⟩, ⟨i_1_4a, i_1_4b⟩, ⟨i_1_5a, i_1_5b⟩, ⟨i_1_6a, i_1_6b⟩, ⟨i_1_14a, i_1_14b⟩, ⟨i_1_42a, i_1_42b⟩⟩ := i_1_g
    refine ⟨fun c_8 => ?_, fun c_8 => ?_⟩
    · skip
      try simp (disch := omega) only [↓i_in, ↓i_isCouple, ↓i_isBridge, ↓i_isTheme, ↓i_isBarge, i_lt, i_le, i_eq, i_clamp, i_upd, i_m1, Int32.toInt_toInt64, Int32.toInt_add, Int32.toInt_sub, Int32.toInt_mul, bm32, Int32.reduceToInt, Int64.reduceToInt, Nat.reduceLT, Nat.reduceEqDiff, reduceIte, true_or, or_true, true_and, and_true, false_or, or_false, not_true_eq_false, not_false_eq_true, eq_self] at c_8
      exact hK w_4l2 w_4m0 w_4m1 w_4m2 w_4m3 w_4m4 w_4m5 w_4m6 w_4m7 w_4m8 w_4m9 w_4m10 w_4m11 w_4m12 hI
    · skip
      try simp (disch := omega) only [↓i_in, ↓i_isCouple, ↓i_isBridge, ↓i_isTheme, ↓i_isBarge, i_lt, i_le, i_eq, i_clamp, i_upd, i_m1, Int32.toInt_toInt64, Int32.toInt_add, Int32.toInt_sub, Int32.toInt_mul, bm32, Int32.reduceToInt, Int64.reduceToInt, Nat.reduceLT, Nat.reduceEqDiff, reduceIte, true_or, or_true, true_and, and_true, false_or, or_false, not_true_eq_false, not_false_eq_true, eq_self] at c_8
      refine ⟨vp_in_iff.mpr (by first | omega | (simp (disch := omega) only [↓i_in, ↓i_isCouple, ↓i_isBridge, ↓i_isTheme, ↓i_isBarge, i_lt, i_le, i_eq, i_clamp, i_upd, i_m1, Int32.toInt_toInt64, Int32.toInt_add, Int32.toInt_sub, Int32.toInt_mul, bm32, Int32.reduceToInt, Int64.reduceToInt, Nat.reduceLT, Nat.reduceEqDiff, reduceIte, true_or, or_true, true_and, and_true, false_or, or_false, not_true_eq_false, not_false_eq_true, eq_self] <;> omega)), ?_⟩
      refine ⟨vp_in_iff.mpr (by first | omega | (simp (disch := omega) only [↓i_in, ↓i_isCouple, ↓i_isBridge, ↓i_isTheme, ↓i_isBarge, i_lt, i_le, i_eq, i_clamp, i_upd, i_m1, Int32.toInt_toInt64, Int32.toInt_add, Int32.toInt_sub, Int32.toInt_mul, bm32, Int32.reduceToInt, Int64.reduceToInt, Nat.reduceLT, Nat.reduceEqDiff, reduceIte, true_or, or_true, true_and, and_true, false_or, or_false, not_true_eq_false, not_false_eq_true, eq_self] <;> omega)), ?_⟩
      exact ih (w_4l2 + 1) w_4m0 w_4m1 w_4m2 w_4m3 w_4m4 (upd w_4m5 (w_4l2 : Int32).toNatClampNeg (w_4m10 (w_4l2 : Int32).toNatClampNeg)) w_4m6 w_4m7 w_4m8 w_4m9 w_4m10 w_4m11 w_4m12 (⟨i_1, i_2, i_3, i_4, (by first | omega | (simp (disch := omega) only [↓i_in, ↓i_isCouple, ↓i_isBridge, ↓i_isTheme, ↓i_isBarge, i_lt, i_le, i_eq, i_clamp, i_upd, i_m1, Int32.toInt_toInt64, Int32.toInt_add, Int32.toInt_sub, Int32.toInt_mul, bm32, Int32.reduceToInt, Int64.reduceToInt, Nat.reduceLT, Nat.reduceEqDiff, reduceIte, true_or, or_true, true_and, and_true, false_or, or_false, not_true_eq_false, not_false_eq_true, eq_self] <;> omega)), (by first | omega | (simp (disch := omega) only [↓i_in, ↓i_isCouple, ↓i_isBridge, ↓i_isTheme, ↓i_isBarge, i_lt, i_le, i_eq, i_clamp, i_upd, i_m1, Int32.toInt_toInt64, Int32.toInt_add, Int32.toInt_sub, Int32.toInt_mul, bm32, Int32.reduceToInt, Int64.reduceToInt, Nat.reduceLT, Nat.reduceEqDiff, reduceIte, true_or, or_true, true_and, and_true, false_or, or_false, not_true_eq_false, not_false_eq_true, eq_self] <;> omega)), (by first | omega | (simp (disch := omega) only [↓i_in, ↓i_isCouple, ↓i_isBridge, ↓i_isTheme, ↓i_isBarge, i_lt, i_le, i_eq, i_clamp, i_upd, i_m1, Int32.toInt_toInt64, Int32.toInt_add, Int32.toInt_sub, Int32.toInt_mul, bm32, Int32.reduceToInt, Int64.reduceToInt, Nat.reduceLT, Nat.reduceEqDiff, reduceIte, true_or, or_true, true_and, and_true, false_or, or_false, not_true_eq_false, not_false_eq_true, eq_self] <;> omega))⟩)
set_option maxHeartbeats 4000000 in
set_option maxRecDepth 100000 in
theorem pl_town_169  : ∀ (n : Nat) w_4l2 w_4m0 w_4m1 w_4m2 w_4m3 w_4m4 w_4m5 w_4m6 w_4m7 w_4m8 w_4m9 w_4m10 w_4m11 w_4m12, (GI w_4m0 ∧ WI w_4m1 ∧ RI w_4m6 ∧ RI w_4m11 ∧ ((w_4m0 14).toInt = 0) ∧ (0 ≤ w_4l2.toInt) ∧ (w_4l2.toInt ≤ 30)) → ∀ r0 r1 r2 r3 r4 r5 r6 r7 r8 r9 r10 r11 r12 r13, f_m_town_169  n w_4l2 w_4m0 w_4m1 w_4m2 w_4m3 w_4m4 w_4m5 w_4m6 w_4m7 w_4m8 w_4m9 w_4m10 w_4m11 w_4m12 = (r0, r1, r2, r3, r4, r5, r6, r7, r8, r9, r10, r11, r12, r13) → GI r1 ∧ WI r2 ∧ RI r7 ∧ RI r12 ∧ ((r1 14).toInt = 0) ∧ (0 ≤ r0.toInt) ∧ (r0.toInt ≤ 30) := by
  intro n
  induction n with
  | zero =>
    intro w_4l2 w_4m0 w_4m1 w_4m2 w_4m3 w_4m4 w_4m5 w_4m6 w_4m7 w_4m8 w_4m9 w_4m10 w_4m11 w_4m12 hI r0 r1 r2 r3 r4 r5 r6 r7 r8 r9 r10 r11 r12 r13 e
    replace e : (w_4l2, w_4m0, w_4m1, w_4m2, w_4m3, w_4m4, w_4m5, w_4m6, w_4m7, w_4m8, w_4m9, w_4m10, w_4m11, w_4m12) = (r0, r1, r2, r3, r4, r5, r6, r7, r8, r9, r10, r11, r12, r13) := e
    cases e
    exact hI
  | succ n ih =>
    intro w_4l2 w_4m0 w_4m1 w_4m2 w_4m3 w_4m4 w_4m5 w_4m6 w_4m7 w_4m8 w_4m9 w_4m10 w_4m11 w_4m12 hI r0 r1 r2 r3 r4 r5 r6 r7 r8 r9 r10 r11 r12 r13 e
    rw [f_m_town_169_s] at e
    have hI0 := hI
    obtain ⟨i_1, i_2, i_3, i_4, i_5, i_6, i_7⟩ := hI0
    have i_1_g := i_1
    obtain ⟨⟨i_1_2a, i_1_2b⟩, ⟨i_1_3a, i_1_3b⟩, ⟨i_1_4a, i_1_4b⟩, ⟨i_1_5a, i_1_5b⟩, ⟨i_1_6a, i_1_6b⟩, ⟨i_1_14a, i_1_14b⟩, ⟨i_1_42a, i_1_42b⟩⟩ := i_1_g
    by_cases c_8 : 30 ≤ w_4l2
    · rw [if_pos c_8] at e
      try simp (disch := omega) only [↓i_in, ↓i_isCouple, ↓i_isBridge, ↓i_isTheme, ↓i_isBarge, i_lt, i_le, i_eq, i_clamp, i_upd, i_m1, Int32.toInt_toInt64, Int32.toInt_add, Int32.toInt_sub, Int32.toInt_mul, bm32, Int32.reduceToInt, Int64.reduceToInt, Nat.reduceLT, Nat.reduceEqDiff, reduceIte, true_or, or_true, true_and, and_true, false_or, or_false, not_true_eq_false, not_false_eq_true, eq_self] at c_8
      cases e
      exact hI
    · rw [if_neg c_8] at e
      try simp (disch := omega) only [↓i_in, ↓i_isCouple, ↓i_isBridge, ↓i_isTheme, ↓i_isBarge, i_lt, i_le, i_eq, i_clamp, i_upd, i_m1, Int32.toInt_toInt64, Int32.toInt_add, Int32.toInt_sub, Int32.toInt_mul, bm32, Int32.reduceToInt, Int64.reduceToInt, Nat.reduceLT, Nat.reduceEqDiff, reduceIte, true_or, or_true, true_and, and_true, false_or, or_false, not_true_eq_false, not_false_eq_true, eq_self] at c_8
      exact ih (w_4l2 + 1) w_4m0 w_4m1 w_4m2 w_4m3 w_4m4 (upd w_4m5 (w_4l2 : Int32).toNatClampNeg (w_4m10 (w_4l2 : Int32).toNatClampNeg)) w_4m6 w_4m7 w_4m8 w_4m9 w_4m10 w_4m11 w_4m12 (⟨i_1, i_2, i_3, i_4, (by first | omega | (simp (disch := omega) only [↓i_in, ↓i_isCouple, ↓i_isBridge, ↓i_isTheme, ↓i_isBarge, i_lt, i_le, i_eq, i_clamp, i_upd, i_m1, Int32.toInt_toInt64, Int32.toInt_add, Int32.toInt_sub, Int32.toInt_mul, bm32, Int32.reduceToInt, Int64.reduceToInt, Nat.reduceLT, Nat.reduceEqDiff, reduceIte, true_or, or_true, true_and, and_true, false_or, or_false, not_true_eq_false, not_false_eq_true, eq_self] <;> omega)), (by first | omega | (simp (disch := omega) only [↓i_in, ↓i_isCouple, ↓i_isBridge, ↓i_isTheme, ↓i_isBarge, i_lt, i_le, i_eq, i_clamp, i_upd, i_m1, Int32.toInt_toInt64, Int32.toInt_add, Int32.toInt_sub, Int32.toInt_mul, bm32, Int32.reduceToInt, Int64.reduceToInt, Nat.reduceLT, Nat.reduceEqDiff, reduceIte, true_or, or_true, true_and, and_true, false_or, or_false, not_true_eq_false, not_false_eq_true, eq_self] <;> omega)), (by first | omega | (simp (disch := omega) only [↓i_in, ↓i_isCouple, ↓i_isBridge, ↓i_isTheme, ↓i_isBarge, i_lt, i_le, i_eq, i_clamp, i_upd, i_m1, Int32.toInt_toInt64, Int32.toInt_add, Int32.toInt_sub, Int32.toInt_mul, bm32, Int32.reduceToInt, Int64.reduceToInt, Nat.reduceLT, Nat.reduceEqDiff, reduceIte, true_or, or_true, true_and, and_true, false_or, or_false, not_true_eq_false, not_false_eq_true, eq_self] <;> omega))⟩) _ _ _ _ _ _ _ _ _ _ _ _ _ _ e
set_option maxHeartbeats 4000000 in
set_option maxRecDepth 100000 in
theorem sl_town_195  {K : Int32 → (Nat → Int32) → (Nat → Int32) → (Nat → Int32) → (Nat → Int32) → (Nat → Int32) → (Nat → Int32) → (Nat → Int32) → (Nat → Int32) → (Nat → Int32) → (Nat → Int32) → (Nat → Int32) → (Nat → Int32) → (Nat → Int32) → Prop} (hK : ∀ w_5l2 w_5m0 w_5m1 w_5m2 w_5m3 w_5m4 w_5m5 w_5m6 w_5m7 w_5m8 w_5m9 w_5m10 w_5m11 w_5m12, (GI w_5m0 ∧ WI w_5m1 ∧ RI w_5m6 ∧ RI w_5m11 ∧ ((w_5m0 14).toInt = 0) ∧ (0 ≤ w_5l2.toInt) ∧ (w_5l2.toInt ≤ 7)) → K w_5l2 w_5m0 w_5m1 w_5m2 w_5m3 w_5m4 w_5m5 w_5m6 w_5m7 w_5m8 w_5m9 w_5m10 w_5m11 w_5m12) : ∀ (n : Nat) w_5l2 w_5m0 w_5m1 w_5m2 w_5m3 w_5m4 w_5m5 w_5m6 w_5m7 w_5m8 w_5m9 w_5m10 w_5m11 w_5m12, (GI w_5m0 ∧ WI w_5m1 ∧ RI w_5m6 ∧ RI w_5m11 ∧ ((w_5m0 14).toInt = 0) ∧ (0 ≤ w_5l2.toInt) ∧ (w_5l2.toInt ≤ 7)) → S_m_town_195  K n w_5l2 w_5m0 w_5m1 w_5m2 w_5m3 w_5m4 w_5m5 w_5m6 w_5m7 w_5m8 w_5m9 w_5m10 w_5m11 w_5m12 := by
  intro n
  induction n with
  | zero => intro w_5l2 w_5m0 w_5m1 w_5m2 w_5m3 w_5m4 w_5m5 w_5m6 w_5m7 w_5m8 w_5m9 w_5m10 w_5m11 w_5m12 hI; exact trivial
  | succ n ih =>
    intro w_5l2 w_5m0 w_5m1 w_5m2 w_5m3 w_5m4 w_5m5 w_5m6 w_5m7 w_5m8 w_5m9 w_5m10 w_5m11 w_5m12 hI
    rw [S_m_town_195_s]
    have hI0 := hI
    obtain ⟨i_1, i_2, i_3, i_4, i_5, i_6, i_7⟩ := hI0
    have i_1_g := i_1
    obtain ⟨⟨i_1_2a, i_1_2b⟩, ⟨i_1_3a, i_1_3b⟩, ⟨i_1_4a, i_1_4b⟩, ⟨i_1_5a, i_1_5b⟩, ⟨i_1_6a, i_1_6b⟩, ⟨i_1_14a, i_1_14b⟩, ⟨i_1_42a, i_1_42b⟩⟩ := i_1_g
    refine ⟨fun c_8 => ?_, fun c_8 => ?_⟩
    · skip
      try simp (disch := omega) only [↓i_in, ↓i_isCouple, ↓i_isBridge, ↓i_isTheme, ↓i_isBarge, i_lt, i_le, i_eq, i_clamp, i_upd, i_m1, Int32.toInt_toInt64, Int32.toInt_add, Int32.toInt_sub, Int32.toInt_mul, bm32, Int32.reduceToInt, Int64.reduceToInt, Nat.reduceLT, Nat.reduceEqDiff, reduceIte, true_or, or_true, true_and, and_true, false_or, or_false, not_true_eq_false, not_false_eq_true, eq_self] at c_8
      exact hK w_5l2 w_5m0 w_5m1 w_5m2 w_5m3 w_5m4 w_5m5 w_5m6 w_5m7 w_5m8 w_5m9 w_5m10 w_5m11 w_5m12 hI
    · skip
      try simp (disch := omega) only [↓i_in, ↓i_isCouple, ↓i_isBridge, ↓i_isTheme, ↓i_isBarge, i_lt, i_le, i_eq, i_clamp, i_upd, i_m1, Int32.toInt_toInt64, Int32.toInt_add, Int32.toInt_sub, Int32.toInt_mul, bm32, Int32.reduceToInt, Int64.reduceToInt, Nat.reduceLT, Nat.reduceEqDiff, reduceIte, true_or, or_true, true_and, and_true, false_or, or_false, not_true_eq_false, not_false_eq_true, eq_self] at c_8
      refine ⟨vp_in_iff.mpr (by first | omega | (simp (disch := omega) only [↓i_in, ↓i_isCouple, ↓i_isBridge, ↓i_isTheme, ↓i_isBarge, i_lt, i_le, i_eq, i_clamp, i_upd, i_m1, Int32.toInt_toInt64, Int32.toInt_add, Int32.toInt_sub, Int32.toInt_mul, bm32, Int32.reduceToInt, Int64.reduceToInt, Nat.reduceLT, Nat.reduceEqDiff, reduceIte, true_or, or_true, true_and, and_true, false_or, or_false, not_true_eq_false, not_false_eq_true, eq_self] <;> omega)), ?_⟩
      refine ⟨vp_in_iff.mpr (by first | omega | (simp (disch := omega) only [↓i_in, ↓i_isCouple, ↓i_isBridge, ↓i_isTheme, ↓i_isBarge, i_lt, i_le, i_eq, i_clamp, i_upd, i_m1, Int32.toInt_toInt64, Int32.toInt_add, Int32.toInt_sub, Int32.toInt_mul, bm32, Int32.reduceToInt, Int64.reduceToInt, Nat.reduceLT, Nat.reduceEqDiff, reduceIte, true_or, or_true, true_and, and_true, false_or, or_false, not_true_eq_false, not_false_eq_true, eq_self] <;> omega)), ?_⟩
      refine ⟨vp_in_iff.mpr (by first | omega | (simp (disch := omega) only [↓i_in, ↓i_isCouple, ↓i_isBridge, ↓i_isTheme, ↓i_isBarge, i_lt, i_le, i_eq, i_clamp, i_upd, i_m1, Int32.toInt_toInt64, Int32.toInt_add, Int32.toInt_sub, Int32.toInt_mul, bm32, Int32.reduceToInt, Int64.reduceToInt, Nat.reduceLT, Nat.reduceEqDiff, reduceIte, true_or, or_true, true_and, and_true, false_or, or_false, not_true_eq_false, not_false_eq_true, eq_self] <;> omega)), ?_⟩
      refine ⟨vp_in_iff.mpr (by first | omega | (simp (disch := omega) only [↓i_in, ↓i_isCouple, ↓i_isBridge, ↓i_isTheme, ↓i_isBarge, i_lt, i_le, i_eq, i_clamp, i_upd, i_m1, Int32.toInt_toInt64, Int32.toInt_add, Int32.toInt_sub, Int32.toInt_mul, bm32, Int32.reduceToInt, Int64.reduceToInt, Nat.reduceLT, Nat.reduceEqDiff, reduceIte, true_or, or_true, true_and, and_true, false_or, or_false, not_true_eq_false, not_false_eq_true, eq_self] <;> omega)), ?_⟩
      exact ih (w_5l2 + 1) w_5m0 w_5m1 w_5m2 w_5m3 w_5m4 w_5m5 (upd w_5m6 (w_5l2 : Int32).toNatClampNeg (w_5m11 (w_5l2 : Int32).toNatClampNeg)) (upd w_5m7 (w_5l2 : Int32).toNatClampNeg (w_5m12 (w_5l2 : Int32).toNatClampNeg)) w_5m8 w_5m9 w_5m10 w_5m11 w_5m12 (⟨i_1, i_2, (RI_updr i_3 i_4), i_4, (by first | omega | (simp (disch := omega) only [↓i_in, ↓i_isCouple, ↓i_isBridge, ↓i_isTheme, ↓i_isBarge, i_lt, i_le, i_eq, i_clamp, i_upd, i_m1, Int32.toInt_toInt64, Int32.toInt_add, Int32.toInt_sub, Int32.toInt_mul, bm32, Int32.reduceToInt, Int64.reduceToInt, Nat.reduceLT, Nat.reduceEqDiff, reduceIte, true_or, or_true, true_and, and_true, false_or, or_false, not_true_eq_false, not_false_eq_true, eq_self] <;> omega)), (by first | omega | (simp (disch := omega) only [↓i_in, ↓i_isCouple, ↓i_isBridge, ↓i_isTheme, ↓i_isBarge, i_lt, i_le, i_eq, i_clamp, i_upd, i_m1, Int32.toInt_toInt64, Int32.toInt_add, Int32.toInt_sub, Int32.toInt_mul, bm32, Int32.reduceToInt, Int64.reduceToInt, Nat.reduceLT, Nat.reduceEqDiff, reduceIte, true_or, or_true, true_and, and_true, false_or, or_false, not_true_eq_false, not_false_eq_true, eq_self] <;> omega)), (by first | omega | (simp (disch := omega) only [↓i_in, ↓i_isCouple, ↓i_isBridge, ↓i_isTheme, ↓i_isBarge, i_lt, i_le, i_eq, i_clamp, i_upd, i_m1, Int32.toInt_toInt64, Int32.toInt_add, Int32.toInt_sub, Int32.toInt_mul, bm32, Int32.reduceToInt, Int64.reduceToInt, Nat.reduceLT, Nat.reduceEqDiff, reduceIte, true_or, or_true, true_and, and_true, false_or, or_false, not_true_eq_false, not_false_eq_true, eq_self] <;> omega))⟩)
set_option maxHeartbeats 4000000 in
set_option maxRecDepth 100000 in
theorem pl_town_195  : ∀ (n : Nat) w_5l2 w_5m0 w_5m1 w_5m2 w_5m3 w_5m4 w_5m5 w_5m6 w_5m7 w_5m8 w_5m9 w_5m10 w_5m11 w_5m12, (GI w_5m0 ∧ WI w_5m1 ∧ RI w_5m6 ∧ RI w_5m11 ∧ ((w_5m0 14).toInt = 0) ∧ (0 ≤ w_5l2.toInt) ∧ (w_5l2.toInt ≤ 7)) → ∀ r0 r1 r2 r3 r4 r5 r6 r7 r8 r9 r10 r11 r12 r13, f_m_town_195  n w_5l2 w_5m0 w_5m1 w_5m2 w_5m3 w_5m4 w_5m5 w_5m6 w_5m7 w_5m8 w_5m9 w_5m10 w_5m11 w_5m12 = (r0, r1, r2, r3, r4, r5, r6, r7, r8, r9, r10, r11, r12, r13) → GI r1 ∧ WI r2 ∧ RI r7 ∧ RI r12 ∧ ((r1 14).toInt = 0) ∧ (0 ≤ r0.toInt) ∧ (r0.toInt ≤ 7) := by
  intro n
  induction n with
  | zero =>
    intro w_5l2 w_5m0 w_5m1 w_5m2 w_5m3 w_5m4 w_5m5 w_5m6 w_5m7 w_5m8 w_5m9 w_5m10 w_5m11 w_5m12 hI r0 r1 r2 r3 r4 r5 r6 r7 r8 r9 r10 r11 r12 r13 e
    replace e : (w_5l2, w_5m0, w_5m1, w_5m2, w_5m3, w_5m4, w_5m5, w_5m6, w_5m7, w_5m8, w_5m9, w_5m10, w_5m11, w_5m12) = (r0, r1, r2, r3, r4, r5, r6, r7, r8, r9, r10, r11, r12, r13) := e
    cases e
    exact hI
  | succ n ih =>
    intro w_5l2 w_5m0 w_5m1 w_5m2 w_5m3 w_5m4 w_5m5 w_5m6 w_5m7 w_5m8 w_5m9 w_5m10 w_5m11 w_5m12 hI r0 r1 r2 r3 r4 r5 r6 r7 r8 r9 r10 r11 r12 r13 e
    rw [f_m_town_195_s] at e
    have hI0 := hI
    obtain ⟨i_1, i_2, i_3, i_4, i_5, i_6, i_7⟩ := hI0
    have i_1_g := i_1
    obtain ⟨⟨i_1_2a, i_1_2b⟩, ⟨i_1_3a, i_1_3b⟩, ⟨i_1_4a, i_1_4b⟩, ⟨i_1_5a, i_1_5b⟩, ⟨i_1_6a, i_1_6b⟩, ⟨i_1_14a, i_1_14b⟩, ⟨i_1_42a, i_1_42b⟩⟩ := i_1_g
    by_cases c_8 : 7 ≤ w_5l2
    · rw [if_pos c_8] at e
      try simp (disch := omega) only [↓i_in, ↓i_isCouple, ↓i_isBridge, ↓i_isTheme, ↓i_isBarge, i_lt, i_le, i_eq, i_clamp, i_upd, i_m1, Int32.toInt_toInt64, Int32.toInt_add, Int32.toInt_sub, Int32.toInt_mul, bm32, Int32.reduceToInt, Int64.reduceToInt, Nat.reduceLT, Nat.reduceEqDiff, reduceIte, true_or, or_true, true_and, and_true, false_or, or_false, not_true_eq_false, not_false_eq_true, eq_self] at c_8
      cases e
      exact hI
    · rw [if_neg c_8] at e
      try simp (disch := omega) only [↓i_in, ↓i_isCouple, ↓i_isBridge, ↓i_isTheme, ↓i_isBarge, i_lt, i_le, i_eq, i_clamp, i_upd, i_m1, Int32.toInt_toInt64, Int32.toInt_add, Int32.toInt_sub, Int32.toInt_mul, bm32, Int32.reduceToInt, Int64.reduceToInt, Nat.reduceLT, Nat.reduceEqDiff, reduceIte, true_or, or_true, true_and, and_true, false_or, or_false, not_true_eq_false, not_false_eq_true, eq_self] at c_8
      exact ih (w_5l2 + 1) w_5m0 w_5m1 w_5m2 w_5m3 w_5m4 w_5m5 (upd w_5m6 (w_5l2 : Int32).toNatClampNeg (w_5m11 (w_5l2 : Int32).toNatClampNeg)) (upd w_5m7 (w_5l2 : Int32).toNatClampNeg (w_5m12 (w_5l2 : Int32).toNatClampNeg)) w_5m8 w_5m9 w_5m10 w_5m11 w_5m12 (⟨i_1, i_2, (RI_updr i_3 i_4), i_4, (by first | omega | (simp (disch := omega) only [↓i_in, ↓i_isCouple, ↓i_isBridge, ↓i_isTheme, ↓i_isBarge, i_lt, i_le, i_eq, i_clamp, i_upd, i_m1, Int32.toInt_toInt64, Int32.toInt_add, Int32.toInt_sub, Int32.toInt_mul, bm32, Int32.reduceToInt, Int64.reduceToInt, Nat.reduceLT, Nat.reduceEqDiff, reduceIte, true_or, or_true, true_and, and_true, false_or, or_false, not_true_eq_false, not_false_eq_true, eq_self] <;> omega)), (by first | omega | (simp (disch := omega) only [↓i_in, ↓i_isCouple, ↓i_isBridge, ↓i_isTheme, ↓i_isBarge, i_lt, i_le, i_eq, i_clamp, i_upd, i_m1, Int32.toInt_toInt64, Int32.toInt_add, Int32.toInt_sub, Int32.toInt_mul, bm32, Int32.reduceToInt, Int64.reduceToInt, Nat.reduceLT, Nat.reduceEqDiff, reduceIte, true_or, or_true, true_and, and_true, false_or, or_false, not_true_eq_false, not_false_eq_true, eq_self] <;> omega)), (by first | omega | (simp (disch := omega) only [↓i_in, ↓i_isCouple, ↓i_isBridge, ↓i_isTheme, ↓i_isBarge, i_lt, i_le, i_eq, i_clamp, i_upd, i_m1, Int32.toInt_toInt64, Int32.toInt_add, Int32.toInt_sub, Int32.toInt_mul, bm32, Int32.reduceToInt, Int64.reduceToInt, Nat.reduceLT, Nat.reduceEqDiff, reduceIte, true_or, or_true, true_and, and_true, false_or, or_false, not_true_eq_false, not_false_eq_true, eq_self] <;> omega))⟩) _ _ _ _ _ _ _ _ _ _ _ _ _ _ e
theorem PI_start {G : Nat → Int32} (h : GI G) : PI (upd (upd (upd (upd (upd (upd (upd (upd (upd (upd G 15 0) 18 0) 19 (-1)) 20 0) 21 1) 22 0) 23 0) 24 0) 25 0) 26 0) := by
  have h0 := h
  obtain ⟨_, _, _, _, _, ⟨a, b⟩, _⟩ := h0
  refine ⟨GI_upd (GI_upd (GI_upd (GI_upd (GI_upd (GI_upd (GI_upd (GI_upd (GI_upd (GI_upd h (by decide)) (by decide)) (by decide)) (by decide)) (by decide)) (by decide)) (by decide)) (by decide)) (by decide)) (by decide), ?_⟩
  simp only [i_upd, Nat.reduceEqDiff, reduceIte, Int32.reduceToInt]
  omega
set_option maxHeartbeats 4000000 in
set_option maxRecDepth 100000 in
theorem s_town {G : Nat → Int32} {f0 : Nat → Int32} {f1 : Nat → Int32} {f8 : Nat → Int32} {f9 : Nat → Int32} {f10 : Nat → Int32} {f11 : Nat → Int32} {f12 : Nat → Int32} {f13 : Nat → Int32} {f27 : Nat → Int32} {f28 : Nat → Int32} {f29 : Nat → Int32} {f30 : Nat → Int32} {f31 : Nat → Int32} (h_0 : GI G) (h_1 : WI f0) (h_2 : RI f11) (h_3 : RI f30) : S_m_town G f0 f1 f8 f9 f10 f11 f12 f13 f27 f28 f29 f30 f31 := by
  unfold S_m_town
  have h_0_g := h_0
  obtain ⟨⟨h_0_2a, h_0_2b⟩, ⟨h_0_3a, h_0_3b⟩, ⟨h_0_4a, h_0_4b⟩, ⟨h_0_5a, h_0_5b⟩, ⟨h_0_6a, h_0_6b⟩, ⟨h_0_14a, h_0_14b⟩, ⟨h_0_42a, h_0_42b⟩⟩ := h_0_g
  refine sl_town_52 ?_ 300 1 (upd (upd (upd (upd (upd (upd (upd (upd (upd (upd G 15 0) 18 0) 19 (-1)) 20 0) 21 1) 22 0) 23 0) 24 0) 25 0) 26 0) f0 f1 f8 f9 f10 f11 f12 f27 f28 f29 f30 f31 (⟨(PI_start h_0), h_1, h_2, h_3⟩) (by first | omega | (simp (disch := omega) only [↓i_in, ↓i_isCouple, ↓i_isBridge, ↓i_isTheme, ↓i_isBarge, i_lt, i_le, i_eq, i_clamp, i_upd, i_m1, Int32.toInt_toInt64, Int32.toInt_add, Int32.toInt_sub, Int32.toInt_mul, bm32, Int32.reduceToInt, Int64.reduceToInt, Nat.reduceLT, Nat.reduceEqDiff, reduceIte, true_or, or_true, true_and, and_true, false_or, or_false, not_true_eq_false, not_false_eq_true, eq_self] <;> omega))
  intro w_1l1 w_1m0 w_1m1 w_1m2 w_1m3 w_1m4 w_1m5 w_1m6 w_1m7 w_1m8 w_1m9 w_1m10 w_1m11 w_1m12 i_1
  obtain ⟨i_2, i_3, i_4, i_5⟩ := i_1
  have i_2_g := i_2
  obtain ⟨⟨⟨i_2_2a, i_2_2b⟩, ⟨i_2_3a, i_2_3b⟩, ⟨i_2_4a, i_2_4b⟩, ⟨i_2_5a, i_2_5b⟩, ⟨i_2_6a, i_2_6b⟩, ⟨i_2_14a, i_2_14b⟩, ⟨i_2_42a, i_2_42b⟩⟩, ⟨i_2_15a, i_2_15b⟩, ⟨i_2_20a, i_2_20b⟩, ⟨i_2_21a, i_2_21b⟩, ⟨i_2_23a, i_2_23b⟩, ⟨i_2_24a, i_2_24b⟩⟩ := i_2_g
  refine ⟨fun c_6 => ?_, fun c_6 => ?_⟩
  · exact trivial
  · skip
    try simp (disch := omega) only [↓i_in, ↓i_isCouple, ↓i_isBridge, ↓i_isTheme, ↓i_isBarge, i_lt, i_le, i_eq, i_clamp, i_upd, i_m1, Int32.toInt_toInt64, Int32.toInt_add, Int32.toInt_sub, Int32.toInt_mul, bm32, Int32.reduceToInt, Int64.reduceToInt, Nat.reduceLT, Nat.reduceEqDiff, reduceIte, true_or, or_true, true_and, and_true, false_or, or_false, not_true_eq_false, not_false_eq_true, eq_self] at c_6
    refine sl_town_131 ?_ (((6 : Int32).toInt - (0 : Int32).toInt).toNat + 1) 0 (upd (upd (upd (upd (upd (upd w_1m0 14 0) 3 (w_1m0 20)) 4 (w_1m0 21)) 5 (w_1m0 23)) 6 (w_1m0 24)) 7 (w_1m0 25)) w_1m1 w_1m2 w_1m3 w_1m4 w_1m5 w_1m6 w_1m7 w_1m8 w_1m9 w_1m10 w_1m11 w_1m12 (⟨(GI_upd (GI_u6 (GI_u5 (GI_u4 (GI_u3 (GI_u14 i_2.1 (by first | omega | (simp (disch := omega) only [↓i_in, ↓i_isCouple, ↓i_isBridge, ↓i_isTheme, ↓i_isBarge, i_lt, i_le, i_eq, i_clamp, i_upd, i_m1, Int32.toInt_toInt64, Int32.toInt_add, Int32.toInt_sub, Int32.toInt_mul, bm32, Int32.reduceToInt, Int64.reduceToInt, Nat.reduceLT, Nat.reduceEqDiff, reduceIte, true_or, or_true, true_and, and_true, false_or, or_false, not_true_eq_false, not_false_eq_true, eq_self] <;> omega)) (by first | omega | (simp (disch := omega) only [↓i_in, ↓i_isCouple, ↓i_isBridge, ↓i_isTheme, ↓i_isBarge, i_lt, i_le, i_eq, i_clamp, i_upd, i_m1, Int32.toInt_toInt64, Int32.toInt_add, Int32.toInt_sub, Int32.toInt_mul, bm32, Int32.reduceToInt, Int64.reduceToInt, Nat.reduceLT, Nat.reduceEqDiff, reduceIte, true_or, or_true, true_and, and_true, false_or, or_false, not_true_eq_false, not_false_eq_true, eq_self] <;> omega))) (by first | omega | (simp (disch := omega) only [↓i_in, ↓i_isCouple, ↓i_isBridge, ↓i_isTheme, ↓i_isBarge, i_lt, i_le, i_eq, i_clamp, i_upd, i_m1, Int32.toInt_toInt64, Int32.toInt_add, Int32.toInt_sub, Int32.toInt_mul, bm32, Int32.reduceToInt, Int64.reduceToInt, Nat.reduceLT, Nat.reduceEqDiff, reduceIte, true_or, or_true, true_and, and_true, false_or, or_false, not_true_eq_false, not_false_eq_true, eq_self] <;> omega)) (by first | omega | (simp (disch := omega) only [↓i_in, ↓i_isCouple, ↓i_isBridge, ↓i_isTheme, ↓i_isBarge, i_lt, i_le, i_eq, i_clamp, i_upd, i_m1, Int32.toInt_toInt64, Int32.toInt_add, Int32.toInt_sub, Int32.toInt_mul, bm32, Int32.reduceToInt, Int64.reduceToInt, Nat.reduceLT, Nat.reduceEqDiff, reduceIte, true_or, or_true, true_and, and_true, false_or, or_false, not_true_eq_false, not_false_eq_true, eq_self] <;> omega))) (by first | omega | (simp (disch := omega) only [↓i_in, ↓i_isCouple, ↓i_isBridge, ↓i_isTheme, ↓i_isBarge, i_lt, i_le, i_eq, i_clamp, i_upd, i_m1, Int32.toInt_toInt64, Int32.toInt_add, Int32.toInt_sub, Int32.toInt_mul, bm32, Int32.reduceToInt, Int64.reduceToInt, Nat.reduceLT, Nat.reduceEqDiff, reduceIte, true_or, or_true, true_and, and_true, false_or, or_false, not_true_eq_false, not_false_eq_true, eq_self] <;> omega)) (by first | omega | (simp (disch := omega) only [↓i_in, ↓i_isCouple, ↓i_isBridge, ↓i_isTheme, ↓i_isBarge, i_lt, i_le, i_eq, i_clamp, i_upd, i_m1, Int32.toInt_toInt64, Int32.toInt_add, Int32.toInt_sub, Int32.toInt_mul, bm32, Int32.reduceToInt, Int64.reduceToInt, Nat.reduceLT, Nat.reduceEqDiff, reduceIte, true_or, or_true, true_and, and_true, false_or, or_false, not_true_eq_false, not_false_eq_true, eq_self] <;> omega))) (by first | omega | (simp (disch := omega) only [↓i_in, ↓i_isCouple, ↓i_isBridge, ↓i_isTheme, ↓i_isBarge, i_lt, i_le, i_eq, i_clamp, i_upd, i_m1, Int32.toInt_toInt64, Int32.toInt_add, Int32.toInt_sub, Int32.toInt_mul, bm32, Int32.reduceToInt, Int64.reduceToInt, Nat.reduceLT, Nat.reduceEqDiff, reduceIte, true_or, or_true, true_and, and_true, false_or, or_false, not_true_eq_false, not_false_eq_true, eq_self] <;> omega)) (by first | omega | (simp (disch := omega) only [↓i_in, ↓i_isCouple, ↓i_isBridge, ↓i_isTheme, ↓i_isBarge, i_lt, i_le, i_eq, i_clamp, i_upd, i_m1, Int32.toInt_toInt64, Int32.toInt_add, Int32.toInt_sub, Int32.toInt_mul, bm32, Int32.reduceToInt, Int64.reduceToInt, Nat.reduceLT, Nat.reduceEqDiff, reduceIte, true_or, or_true, true_and, and_true, false_or, or_false, not_true_eq_false, not_false_eq_true, eq_self] <;> omega))) (by first | omega | (simp (disch := omega) only [↓i_in, ↓i_isCouple, ↓i_isBridge, ↓i_isTheme, ↓i_isBarge, i_lt, i_le, i_eq, i_clamp, i_upd, i_m1, Int32.toInt_toInt64, Int32.toInt_add, Int32.toInt_sub, Int32.toInt_mul, bm32, Int32.reduceToInt, Int64.reduceToInt, Nat.reduceLT, Nat.reduceEqDiff, reduceIte, true_or, or_true, true_and, and_true, false_or, or_false, not_true_eq_false, not_false_eq_true, eq_self] <;> omega)) (by first | omega | (simp (disch := omega) only [↓i_in, ↓i_isCouple, ↓i_isBridge, ↓i_isTheme, ↓i_isBarge, i_lt, i_le, i_eq, i_clamp, i_upd, i_m1, Int32.toInt_toInt64, Int32.toInt_add, Int32.toInt_sub, Int32.toInt_mul, bm32, Int32.reduceToInt, Int64.reduceToInt, Nat.reduceLT, Nat.reduceEqDiff, reduceIte, true_or, or_true, true_and, and_true, false_or, or_false, not_true_eq_false, not_false_eq_true, eq_self] <;> omega))) (by decide)), i_3, i_4, i_5, (by first | omega | (simp (disch := omega) only [↓i_in, ↓i_isCouple, ↓i_isBridge, ↓i_isTheme, ↓i_isBarge, i_lt, i_le, i_eq, i_clamp, i_upd, i_m1, Int32.toInt_toInt64, Int32.toInt_add, Int32.toInt_sub, Int32.toInt_mul, bm32, Int32.reduceToInt, Int64.reduceToInt, Nat.reduceLT, Nat.reduceEqDiff, reduceIte, true_or, or_true, true_and, and_true, false_or, or_false, not_true_eq_false, not_false_eq_true, eq_self] <;> omega)), (by first | omega | (simp (disch := omega) only [↓i_in, ↓i_isCouple, ↓i_isBridge, ↓i_isTheme, ↓i_isBarge, i_lt, i_le, i_eq, i_clamp, i_upd, i_m1, Int32.toInt_toInt64, Int32.toInt_add, Int32.toInt_sub, Int32.toInt_mul, bm32, Int32.reduceToInt, Int64.reduceToInt, Nat.reduceLT, Nat.reduceEqDiff, reduceIte, true_or, or_true, true_and, and_true, false_or, or_false, not_true_eq_false, not_false_eq_true, eq_self] <;> omega)), (by first | omega | (simp (disch := omega) only [↓i_in, ↓i_isCouple, ↓i_isBridge, ↓i_isTheme, ↓i_isBarge, i_lt, i_le, i_eq, i_clamp, i_upd, i_m1, Int32.toInt_toInt64, Int32.toInt_add, Int32.toInt_sub, Int32.toInt_mul, bm32, Int32.reduceToInt, Int64.reduceToInt, Nat.reduceLT, Nat.reduceEqDiff, reduceIte, true_or, or_true, true_and, and_true, false_or, or_false, not_true_eq_false, not_false_eq_true, eq_self] <;> omega))⟩)
    intro w_3l2 w_3m0 w_3m1 w_3m2 w_3m3 w_3m4 w_3m5 w_3m6 w_3m7 w_3m8 w_3m9 w_3m10 w_3m11 w_3m12 i_7
    obtain ⟨i_8, i_9, i_10, i_11, i_12, i_13, i_14⟩ := i_7
    have i_8_g := i_8
    obtain ⟨⟨i_8_2a, i_8_2b⟩, ⟨i_8_3a, i_8_3b⟩, ⟨i_8_4a, i_8_4b⟩, ⟨i_8_5a, i_8_5b⟩, ⟨i_8_6a, i_8_6b⟩, ⟨i_8_14a, i_8_14b⟩, ⟨i_8_42a, i_8_42b⟩⟩ := i_8_g
    refine sl_town_169 ?_ (((30 : Int32).toInt - (0 : Int32).toInt).toNat + 1) 0 w_3m0 w_3m1 w_3m2 w_3m3 w_3m4 w_3m5 w_3m6 w_3m7 w_3m8 w_3m9 w_3m10 w_3m11 w_3m12 (⟨i_8, i_9, i_10, i_11, (by first | omega | (simp (disch := omega) only [↓i_in, ↓i_isCouple, ↓i_isBridge, ↓i_isTheme, ↓i_isBarge, i_lt, i_le, i_eq, i_clamp, i_upd, i_m1, Int32.toInt_toInt64, Int32.toInt_add, Int32.toInt_sub, Int32.toInt_mul, bm32, Int32.reduceToInt, Int64.reduceToInt, Nat.reduceLT, Nat.reduceEqDiff, reduceIte, true_or, or_true, true_and, and_true, false_or, or_false, not_true_eq_false, not_false_eq_true, eq_self] <;> omega)), (by first | omega | (simp (disch := omega) only [↓i_in, ↓i_isCouple, ↓i_isBridge, ↓i_isTheme, ↓i_isBarge, i_lt, i_le, i_eq, i_clamp, i_upd, i_m1, Int32.toInt_toInt64, Int32.toInt_add, Int32.toInt_sub, Int32.toInt_mul, bm32, Int32.reduceToInt, Int64.reduceToInt, Nat.reduceLT, Nat.reduceEqDiff, reduceIte, true_or, or_true, true_and, and_true, false_or, or_false, not_true_eq_false, not_false_eq_true, eq_self] <;> omega)), (by first | omega | (simp (disch := omega) only [↓i_in, ↓i_isCouple, ↓i_isBridge, ↓i_isTheme, ↓i_isBarge, i_lt, i_le, i_eq, i_clamp, i_upd, i_m1, Int32.toInt_toInt64, Int32.toInt_add, Int32.toInt_sub, Int32.toInt_mul, bm32, Int32.reduceToInt, Int64.reduceToInt, Nat.reduceLT, Nat.reduceEqDiff, reduceIte, true_or, or_true, true_and, and_true, false_or, or_false, not_true_eq_false, not_false_eq_true, eq_self] <;> omega))⟩)
    intro w_4l2 w_4m0 w_4m1 w_4m2 w_4m3 w_4m4 w_4m5 w_4m6 w_4m7 w_4m8 w_4m9 w_4m10 w_4m11 w_4m12 i_15
    obtain ⟨i_16, i_17, i_18, i_19, i_20, i_21, i_22⟩ := i_15
    have i_16_g := i_16
    obtain ⟨⟨i_16_2a, i_16_2b⟩, ⟨i_16_3a, i_16_3b⟩, ⟨i_16_4a, i_16_4b⟩, ⟨i_16_5a, i_16_5b⟩, ⟨i_16_6a, i_16_6b⟩, ⟨i_16_14a, i_16_14b⟩, ⟨i_16_42a, i_16_42b⟩⟩ := i_16_g
    refine sl_town_195 ?_ (((7 : Int32).toInt - (0 : Int32).toInt).toNat + 1) 0 w_4m0 w_4m1 w_4m2 w_4m3 w_4m4 w_4m5 w_4m6 w_4m7 w_4m8 w_4m9 w_4m10 w_4m11 w_4m12 (⟨i_16, i_17, i_18, i_19, (by first | omega | (simp (disch := omega) only [↓i_in, ↓i_isCouple, ↓i_isBridge, ↓i_isTheme, ↓i_isBarge, i_lt, i_le, i_eq, i_clamp, i_upd, i_m1, Int32.toInt_toInt64, Int32.toInt_add, Int32.toInt_sub, Int32.toInt_mul, bm32, Int32.reduceToInt, Int64.reduceToInt, Nat.reduceLT, Nat.reduceEqDiff, reduceIte, true_or, or_true, true_and, and_true, false_or, or_false, not_true_eq_false, not_false_eq_true, eq_self] <;> omega)), (by first | omega | (simp (disch := omega) only [↓i_in, ↓i_isCouple, ↓i_isBridge, ↓i_isTheme, ↓i_isBarge, i_lt, i_le, i_eq, i_clamp, i_upd, i_m1, Int32.toInt_toInt64, Int32.toInt_add, Int32.toInt_sub, Int32.toInt_mul, bm32, Int32.reduceToInt, Int64.reduceToInt, Nat.reduceLT, Nat.reduceEqDiff, reduceIte, true_or, or_true, true_and, and_true, false_or, or_false, not_true_eq_false, not_false_eq_true, eq_self] <;> omega)), (by first | omega | (simp (disch := omega) only [↓i_in, ↓i_isCouple, ↓i_isBridge, ↓i_isTheme, ↓i_isBarge, i_lt, i_le, i_eq, i_clamp, i_upd, i_m1, Int32.toInt_toInt64, Int32.toInt_add, Int32.toInt_sub, Int32.toInt_mul, bm32, Int32.reduceToInt, Int64.reduceToInt, Nat.reduceLT, Nat.reduceEqDiff, reduceIte, true_or, or_true, true_and, and_true, false_or, or_false, not_true_eq_false, not_false_eq_true, eq_self] <;> omega))⟩)
    intro w_5l2 w_5m0 w_5m1 w_5m2 w_5m3 w_5m4 w_5m5 w_5m6 w_5m7 w_5m8 w_5m9 w_5m10 w_5m11 w_5m12 i_23
    obtain ⟨i_24, i_25, i_26, i_27, i_28, i_29, i_30⟩ := i_23
    have i_24_g := i_24
    obtain ⟨⟨i_24_2a, i_24_2b⟩, ⟨i_24_3a, i_24_3b⟩, ⟨i_24_4a, i_24_4b⟩, ⟨i_24_5a, i_24_5b⟩, ⟨i_24_6a, i_24_6b⟩, ⟨i_24_14a, i_24_14b⟩, ⟨i_24_42a, i_24_42b⟩⟩ := i_24_g
    refine ⟨(s_begins i_25), ?_⟩
    exact trivial
set_option maxHeartbeats 4000000 in
set_option maxRecDepth 100000 in
theorem p_town {G : Nat → Int32} {f0 : Nat → Int32} {f1 : Nat → Int32} {f8 : Nat → Int32} {f9 : Nat → Int32} {f10 : Nat → Int32} {f11 : Nat → Int32} {f12 : Nat → Int32} {f13 : Nat → Int32} {f27 : Nat → Int32} {f28 : Nat → Int32} {f29 : Nat → Int32} {f30 : Nat → Int32} {f31 : Nat → Int32} (h_0 : GI G) (h_1 : WI f0) (h_2 : RI f11) (h_3 : RI f30) : ∀ (r : Int32) (u1 : (Nat → Int32)) (u2 : (Nat → Int32)) (u3 : (Nat → Int32)) (u4 : (Nat → Int32)) (u5 : (Nat → Int32)) (u6 : (Nat → Int32)) (u7 : (Nat → Int32)) (u8 : (Nat → Int32)) (u9 : (Nat → Int32)) (u10 : (Nat → Int32)) (u11 : (Nat → Int32)) (u12 : (Nat → Int32)) (u13 : (Nat → Int32)), f_m_town G f0 f1 f8 f9 f10 f11 f12 f13 f27 f28 f29 f30 f31 = (r, u1, u2, u3, u4, u5, u6, u7, u8, u9, u10, u11, u12, u13) → GI u1 ∧ WI u2 ∧ RI u7 ∧ RI u12 ∧ ((u1 14).toInt = 0) := by
  have h_0_g := h_0
  obtain ⟨⟨h_0_2a, h_0_2b⟩, ⟨h_0_3a, h_0_3b⟩, ⟨h_0_4a, h_0_4b⟩, ⟨h_0_5a, h_0_5b⟩, ⟨h_0_6a, h_0_6b⟩, ⟨h_0_14a, h_0_14b⟩, ⟨h_0_42a, h_0_42b⟩⟩ := h_0_g
  intro r u1 u2 u3 u4 u5 u6 u7 u8 u9 u10 u11 u12 u13 e
  unfold f_m_town at e
  generalize x_1 : (f_m_town_52 f13 300 1 (upd (upd (upd (upd (upd (upd (upd (upd (upd (upd G 15 0) 18 0) 19 (-1)) 20 0) 21 1) 22 0) 23 0) 24 0) 25 0) 26 0) f0 f1 f8 f9 f10 f11 f12 f27 f28 f29 f30 f31) = z_2 at e
  obtain ⟨w_1l1, w_1m0, w_1m1, w_1m2, w_1m3, w_1m4, w_1m5, w_1m6, w_1m7, w_1m8, w_1m9, w_1m10, w_1m11, w_1m12⟩ := z_2
  replace e : ((if w_1l1 = 0 then (((-10) - (w_1m0 18)), (upd w_1m0 14 0), w_1m1, w_1m2, w_1m3, w_1m4, w_1m5, w_1m6, w_1m7, w_1m8, w_1m9, w_1m10, w_1m11, w_1m12) else (match ((f_m_town_131  (((6 : Int32).toInt - (0 : Int32).toInt).toNat + 1) 0 (upd (upd (upd (upd (upd (upd w_1m0 14 0) 3 (w_1m0 20)) 4 (w_1m0 21)) 5 (w_1m0 23)) 6 (w_1m0 24)) 7 (w_1m0 25)) w_1m1 w_1m2 w_1m3 w_1m4 w_1m5 w_1m6 w_1m7 w_1m8 w_1m9 w_1m10 w_1m11 w_1m12) : Int32 × (Nat → Int32) × (Nat → Int32) × (Nat → Int32) × (Nat → Int32) × (Nat → Int32) × (Nat → Int32) × (Nat → Int32) × (Nat → Int32) × (Nat → Int32) × (Nat → Int32) × (Nat → Int32) × (Nat → Int32) × (Nat → Int32)) with | (w_3l2, w_3m0, w_3m1, w_3m2, w_3m3, w_3m4, w_3m5, w_3m6, w_3m7, w_3m8, w_3m9, w_3m10, w_3m11, w_3m12) => (match ((f_m_town_169  (((30 : Int32).toInt - (0 : Int32).toInt).toNat + 1) 0 w_3m0 w_3m1 w_3m2 w_3m3 w_3m4 w_3m5 w_3m6 w_3m7 w_3m8 w_3m9 w_3m10 w_3m11 w_3m12) : Int32 × (Nat → Int32) × (Nat → Int32) × (Nat → Int32) × (Nat → Int32) × (Nat → Int32) × (Nat → Int32) × (Nat → Int32) × (Nat → Int32) × (Nat → Int32) × (Nat → Int32) × (Nat → Int32) × (Nat → Int32) × (Nat → Int32)) with | (w_4l2, w_4m0, w_4m1, w_4m2, w_4m3, w_4m4, w_4m5, w_4m6, w_4m7, w_4m8, w_4m9, w_4m10, w_4m11, w_4m12) => (match ((f_m_town_195  (((7 : Int32).toInt - (0 : Int32).toInt).toNat + 1) 0 w_4m0 w_4m1 w_4m2 w_4m3 w_4m4 w_4m5 w_4m6 w_4m7 w_4m8 w_4m9 w_4m10 w_4m11 w_4m12) : Int32 × (Nat → Int32) × (Nat → Int32) × (Nat → Int32) × (Nat → Int32) × (Nat → Int32) × (Nat → Int32) × (Nat → Int32) × (Nat → Int32) × (Nat → Int32) × (Nat → Int32) × (Nat → Int32) × (Nat → Int32) × (Nat → Int32)) with | (w_5l2, w_5m0, w_5m1, w_5m2, w_5m3, w_5m4, w_5m5, w_5m6, w_5m7, w_5m8, w_5m9, w_5m10, w_5m11, w_5m12) => ((w_5m0 3), (upd (upd w_5m0 42 0) 2 0), (f_m_begins w_5m0 w_5m1 w_5m4), (upd (upd w_5m2 (0 : Int32).toNatClampNeg (vp_nar .boolean 0)) (1 : Int32).toNatClampNeg (vp_nar .boolean 0)), w_5m3, w_5m4, w_5m5, w_5m6, w_5m7, w_5m8, w_5m9, w_5m10, w_5m11, w_5m12))))) : Int32 × (Nat → Int32) × (Nat → Int32) × (Nat → Int32) × (Nat → Int32) × (Nat → Int32) × (Nat → Int32) × (Nat → Int32) × (Nat → Int32) × (Nat → Int32) × (Nat → Int32) × (Nat → Int32) × (Nat → Int32) × (Nat → Int32)) = (r, u1, u2, u3, u4, u5, u6, u7, u8, u9, u10, u11, u12, u13) := e
  have p_3 := pl_town_52 300 1 (upd (upd (upd (upd (upd (upd (upd (upd (upd (upd G 15 0) 18 0) 19 (-1)) 20 0) 21 1) 22 0) 23 0) 24 0) 25 0) 26 0) f0 f1 f8 f9 f10 f11 f12 f27 f28 f29 f30 f31 (⟨(PI_start h_0), h_1, h_2, h_3⟩) _ _ _ _ _ _ _ _ _ _ _ _ _ _ x_1
  obtain ⟨i_4, i_5, i_6, i_7⟩ := p_3
  have i_4_g := i_4
  obtain ⟨⟨⟨i_4_2a, i_4_2b⟩, ⟨i_4_3a, i_4_3b⟩, ⟨i_4_4a, i_4_4b⟩, ⟨i_4_5a, i_4_5b⟩, ⟨i_4_6a, i_4_6b⟩, ⟨i_4_14a, i_4_14b⟩, ⟨i_4_42a, i_4_42b⟩⟩, ⟨i_4_15a, i_4_15b⟩, ⟨i_4_20a, i_4_20b⟩, ⟨i_4_21a, i_4_21b⟩, ⟨i_4_23a, i_4_23b⟩, ⟨i_4_24a, i_4_24b⟩⟩ := i_4_g
  by_cases c_8 : w_1l1 = 0
  · rw [if_pos c_8] at e
    try simp (disch := omega) only [↓i_in, ↓i_isCouple, ↓i_isBridge, ↓i_isTheme, ↓i_isBarge, i_lt, i_le, i_eq, i_clamp, i_upd, i_m1, Int32.toInt_toInt64, Int32.toInt_add, Int32.toInt_sub, Int32.toInt_mul, bm32, Int32.reduceToInt, Int64.reduceToInt, Nat.reduceLT, Nat.reduceEqDiff, reduceIte, true_or, or_true, true_and, and_true, false_or, or_false, not_true_eq_false, not_false_eq_true, eq_self] at c_8
    simp only [Prod.mk.injEq] at e
    obtain ⟨e_0, e_1, e_2, e_3, e_4, e_5, e_6, e_7, e_8, e_9, e_10, e_11, e_12, e_13⟩ := e
    subst e_0
    subst e_1
    subst e_2
    subst e_3
    subst e_4
    subst e_5
    subst e_6
    subst e_7
    subst e_8
    subst e_9
    subst e_10
    subst e_11
    subst e_12
    subst e_13
    exact ⟨(GI_u14 i_4.1 (by first | omega | (simp (disch := omega) only [↓i_in, ↓i_isCouple, ↓i_isBridge, ↓i_isTheme, ↓i_isBarge, i_lt, i_le, i_eq, i_clamp, i_upd, i_m1, Int32.toInt_toInt64, Int32.toInt_add, Int32.toInt_sub, Int32.toInt_mul, bm32, Int32.reduceToInt, Int64.reduceToInt, Nat.reduceLT, Nat.reduceEqDiff, reduceIte, true_or, or_true, true_and, and_true, false_or, or_false, not_true_eq_false, not_false_eq_true, eq_self] <;> omega)) (by first | omega | (simp (disch := omega) only [↓i_in, ↓i_isCouple, ↓i_isBridge, ↓i_isTheme, ↓i_isBarge, i_lt, i_le, i_eq, i_clamp, i_upd, i_m1, Int32.toInt_toInt64, Int32.toInt_add, Int32.toInt_sub, Int32.toInt_mul, bm32, Int32.reduceToInt, Int64.reduceToInt, Nat.reduceLT, Nat.reduceEqDiff, reduceIte, true_or, or_true, true_and, and_true, false_or, or_false, not_true_eq_false, not_false_eq_true, eq_self] <;> omega))), i_5, i_6, i_7, (by first | omega | (simp (disch := omega) only [↓i_in, ↓i_isCouple, ↓i_isBridge, ↓i_isTheme, ↓i_isBarge, i_lt, i_le, i_eq, i_clamp, i_upd, i_m1, Int32.toInt_toInt64, Int32.toInt_add, Int32.toInt_sub, Int32.toInt_mul, bm32, Int32.reduceToInt, Int64.reduceToInt, Nat.reduceLT, Nat.reduceEqDiff, reduceIte, true_or, or_true, true_and, and_true, false_or, or_false, not_true_eq_false, not_false_eq_true, eq_self] <;> omega))⟩
  · rw [if_neg c_8] at e
    try simp (disch := omega) only [↓i_in, ↓i_isCouple, ↓i_isBridge, ↓i_isTheme, ↓i_isBarge, i_lt, i_le, i_eq, i_clamp, i_upd, i_m1, Int32.toInt_toInt64, Int32.toInt_add, Int32.toInt_sub, Int32.toInt_mul, bm32, Int32.reduceToInt, Int64.reduceToInt, Nat.reduceLT, Nat.reduceEqDiff, reduceIte, true_or, or_true, true_and, and_true, false_or, or_false, not_true_eq_false, not_false_eq_true, eq_self] at c_8
    generalize x_9 : (f_m_town_131  (((6 : Int32).toInt - (0 : Int32).toInt).toNat + 1) 0 (upd (upd (upd (upd (upd (upd w_1m0 14 0) 3 (w_1m0 20)) 4 (w_1m0 21)) 5 (w_1m0 23)) 6 (w_1m0 24)) 7 (w_1m0 25)) w_1m1 w_1m2 w_1m3 w_1m4 w_1m5 w_1m6 w_1m7 w_1m8 w_1m9 w_1m10 w_1m11 w_1m12) = z_10 at e
    obtain ⟨w_3l2, w_3m0, w_3m1, w_3m2, w_3m3, w_3m4, w_3m5, w_3m6, w_3m7, w_3m8, w_3m9, w_3m10, w_3m11, w_3m12⟩ := z_10
    replace e : ((match ((f_m_town_169  (((30 : Int32).toInt - (0 : Int32).toInt).toNat + 1) 0 w_3m0 w_3m1 w_3m2 w_3m3 w_3m4 w_3m5 w_3m6 w_3m7 w_3m8 w_3m9 w_3m10 w_3m11 w_3m12) : Int32 × (Nat → Int32) × (Nat → Int32) × (Nat → Int32) × (Nat → Int32) × (Nat → Int32) × (Nat → Int32) × (Nat → Int32) × (Nat → Int32) × (Nat → Int32) × (Nat → Int32) × (Nat → Int32) × (Nat → Int32) × (Nat → Int32)) with | (w_4l2, w_4m0, w_4m1, w_4m2, w_4m3, w_4m4, w_4m5, w_4m6, w_4m7, w_4m8, w_4m9, w_4m10, w_4m11, w_4m12) => (match ((f_m_town_195  (((7 : Int32).toInt - (0 : Int32).toInt).toNat + 1) 0 w_4m0 w_4m1 w_4m2 w_4m3 w_4m4 w_4m5 w_4m6 w_4m7 w_4m8 w_4m9 w_4m10 w_4m11 w_4m12) : Int32 × (Nat → Int32) × (Nat → Int32) × (Nat → Int32) × (Nat → Int32) × (Nat → Int32) × (Nat → Int32) × (Nat → Int32) × (Nat → Int32) × (Nat → Int32) × (Nat → Int32) × (Nat → Int32) × (Nat → Int32) × (Nat → Int32)) with | (w_5l2, w_5m0, w_5m1, w_5m2, w_5m3, w_5m4, w_5m5, w_5m6, w_5m7, w_5m8, w_5m9, w_5m10, w_5m11, w_5m12) => ((w_5m0 3), (upd (upd w_5m0 42 0) 2 0), (f_m_begins w_5m0 w_5m1 w_5m4), (upd (upd w_5m2 (0 : Int32).toNatClampNeg (vp_nar .boolean 0)) (1 : Int32).toNatClampNeg (vp_nar .boolean 0)), w_5m3, w_5m4, w_5m5, w_5m6, w_5m7, w_5m8, w_5m9, w_5m10, w_5m11, w_5m12))) : Int32 × (Nat → Int32) × (Nat → Int32) × (Nat → Int32) × (Nat → Int32) × (Nat → Int32) × (Nat → Int32) × (Nat → Int32) × (Nat → Int32) × (Nat → Int32) × (Nat → Int32) × (Nat → Int32) × (Nat → Int32) × (Nat → Int32)) = (r, u1, u2, u3, u4, u5, u6, u7, u8, u9, u10, u11, u12, u13) := e
    have p_11 := pl_town_131 (((6 : Int32).toInt - (0 : Int32).toInt).toNat + 1) 0 (upd (upd (upd (upd (upd (upd w_1m0 14 0) 3 (w_1m0 20)) 4 (w_1m0 21)) 5 (w_1m0 23)) 6 (w_1m0 24)) 7 (w_1m0 25)) w_1m1 w_1m2 w_1m3 w_1m4 w_1m5 w_1m6 w_1m7 w_1m8 w_1m9 w_1m10 w_1m11 w_1m12 (⟨(GI_upd (GI_u6 (GI_u5 (GI_u4 (GI_u3 (GI_u14 i_4.1 (by first | omega | (simp (disch := omega) only [↓i_in, ↓i_isCouple, ↓i_isBridge, ↓i_isTheme, ↓i_isBarge, i_lt, i_le, i_eq, i_clamp, i_upd, i_m1, Int32.toInt_toInt64, Int32.toInt_add, Int32.toInt_sub, Int32.toInt_mul, bm32, Int32.reduceToInt, Int64.reduceToInt, Nat.reduceLT, Nat.reduceEqDiff, reduceIte, true_or, or_true, true_and, and_true, false_or, or_false, not_true_eq_false, not_false_eq_true, eq_self] <;> omega)) (by first | omega | (simp (disch := omega) only [↓i_in, ↓i_isCouple, ↓i_isBridge, ↓i_isTheme, ↓i_isBarge, i_lt, i_le, i_eq, i_clamp, i_upd, i_m1, Int32.toInt_toInt64, Int32.toInt_add, Int32.toInt_sub, Int32.toInt_mul, bm32, Int32.reduceToInt, Int64.reduceToInt, Nat.reduceLT, Nat.reduceEqDiff, reduceIte, true_or, or_true, true_and, and_true, false_or, or_false, not_true_eq_false, not_false_eq_true, eq_self] <;> omega))) (by first | omega | (simp (disch := omega) only [↓i_in, ↓i_isCouple, ↓i_isBridge, ↓i_isTheme, ↓i_isBarge, i_lt, i_le, i_eq, i_clamp, i_upd, i_m1, Int32.toInt_toInt64, Int32.toInt_add, Int32.toInt_sub, Int32.toInt_mul, bm32, Int32.reduceToInt, Int64.reduceToInt, Nat.reduceLT, Nat.reduceEqDiff, reduceIte, true_or, or_true, true_and, and_true, false_or, or_false, not_true_eq_false, not_false_eq_true, eq_self] <;> omega)) (by first | omega | (simp (disch := omega) only [↓i_in, ↓i_isCouple, ↓i_isBridge, ↓i_isTheme, ↓i_isBarge, i_lt, i_le, i_eq, i_clamp, i_upd, i_m1, Int32.toInt_toInt64, Int32.toInt_add, Int32.toInt_sub, Int32.toInt_mul, bm32, Int32.reduceToInt, Int64.reduceToInt, Nat.reduceLT, Nat.reduceEqDiff, reduceIte, true_or, or_true, true_and, and_true, false_or, or_false, not_true_eq_false, not_false_eq_true, eq_self] <;> omega))) (by first | omega | (simp (disch := omega) only [↓i_in, ↓i_isCouple, ↓i_isBridge, ↓i_isTheme, ↓i_isBarge, i_lt, i_le, i_eq, i_clamp, i_upd, i_m1, Int32.toInt_toInt64, Int32.toInt_add, Int32.toInt_sub, Int32.toInt_mul, bm32, Int32.reduceToInt, Int64.reduceToInt, Nat.reduceLT, Nat.reduceEqDiff, reduceIte, true_or, or_true, true_and, and_true, false_or, or_false, not_true_eq_false, not_false_eq_true, eq_self] <;> omega)) (by first | omega | (simp (disch := omega) only [↓i_in, ↓i_isCouple, ↓i_isBridge, ↓i_isTheme, ↓i_isBarge, i_lt, i_le, i_eq, i_clamp, i_upd, i_m1, Int32.toInt_toInt64, Int32.toInt_add, Int32.toInt_sub, Int32.toInt_mul, bm32, Int32.reduceToInt, Int64.reduceToInt, Nat.reduceLT, Nat.reduceEqDiff, reduceIte, true_or, or_true, true_and, and_true, false_or, or_false, not_true_eq_false, not_false_eq_true, eq_self] <;> omega))) (by first | omega | (simp (disch := omega) only [↓i_in, ↓i_isCouple, ↓i_isBridge, ↓i_isTheme, ↓i_isBarge, i_lt, i_le, i_eq, i_clamp, i_upd, i_m1, Int32.toInt_toInt64, Int32.toInt_add, Int32.toInt_sub, Int32.toInt_mul, bm32, Int32.reduceToInt, Int64.reduceToInt, Nat.reduceLT, Nat.reduceEqDiff, reduceIte, true_or, or_true, true_and, and_true, false_or, or_false, not_true_eq_false, not_false_eq_true, eq_self] <;> omega)) (by first | omega | (simp (disch := omega) only [↓i_in, ↓i_isCouple, ↓i_isBridge, ↓i_isTheme, ↓i_isBarge, i_lt, i_le, i_eq, i_clamp, i_upd, i_m1, Int32.toInt_toInt64, Int32.toInt_add, Int32.toInt_sub, Int32.toInt_mul, bm32, Int32.reduceToInt, Int64.reduceToInt, Nat.reduceLT, Nat.reduceEqDiff, reduceIte, true_or, or_true, true_and, and_true, false_or, or_false, not_true_eq_false, not_false_eq_true, eq_self] <;> omega))) (by first | omega | (simp (disch := omega) only [↓i_in, ↓i_isCouple, ↓i_isBridge, ↓i_isTheme, ↓i_isBarge, i_lt, i_le, i_eq, i_clamp, i_upd, i_m1, Int32.toInt_toInt64, Int32.toInt_add, Int32.toInt_sub, Int32.toInt_mul, bm32, Int32.reduceToInt, Int64.reduceToInt, Nat.reduceLT, Nat.reduceEqDiff, reduceIte, true_or, or_true, true_and, and_true, false_or, or_false, not_true_eq_false, not_false_eq_true, eq_self] <;> omega)) (by first | omega | (simp (disch := omega) only [↓i_in, ↓i_isCouple, ↓i_isBridge, ↓i_isTheme, ↓i_isBarge, i_lt, i_le, i_eq, i_clamp, i_upd, i_m1, Int32.toInt_toInt64, Int32.toInt_add, Int32.toInt_sub, Int32.toInt_mul, bm32, Int32.reduceToInt, Int64.reduceToInt, Nat.reduceLT, Nat.reduceEqDiff, reduceIte, true_or, or_true, true_and, and_true, false_or, or_false, not_true_eq_false, not_false_eq_true, eq_self] <;> omega))) (by decide)), i_5, i_6, i_7, (by first | omega | (simp (disch := omega) only [↓i_in, ↓i_isCouple, ↓i_isBridge, ↓i_isTheme, ↓i_isBarge, i_lt, i_le, i_eq, i_clamp, i_upd, i_m1, Int32.toInt_toInt64, Int32.toInt_add, Int32.toInt_sub, Int32.toInt_mul, bm32, Int32.reduceToInt, Int64.reduceToInt, Nat.reduceLT, Nat.reduceEqDiff, reduceIte, true_or, or_true, true_and, and_true, false_or, or_false, not_true_eq_false, not_false_eq_true, eq_self] <;> omega)), (by first | omega | (simp (disch := omega) only [↓i_in, ↓i_isCouple, ↓i_isBridge, ↓i_isTheme, ↓i_isBarge, i_lt, i_le, i_eq, i_clamp, i_upd, i_m1, Int32.toInt_toInt64, Int32.toInt_add, Int32.toInt_sub, Int32.toInt_mul, bm32, Int32.reduceToInt, Int64.reduceToInt, Nat.reduceLT, Nat.reduceEqDiff, reduceIte, true_or, or_true, true_and, and_true, false_or, or_false, not_true_eq_false, not_false_eq_true, eq_self] <;> omega)), (by first | omega | (simp (disch := omega) only [↓i_in, ↓i_isCouple, ↓i_isBridge, ↓i_isTheme, ↓i_isBarge, i_lt, i_le, i_eq, i_clamp, i_upd, i_m1, Int32.toInt_toInt64, Int32.toInt_add, Int32.toInt_sub, Int32.toInt_mul, bm32, Int32.reduceToInt, Int64.reduceToInt, Nat.reduceLT, Nat.reduceEqDiff, reduceIte, true_or, or_true, true_and, and_true, false_or, or_false, not_true_eq_false, not_false_eq_true, eq_self] <;> omega))⟩) _ _ _ _ _ _ _ _ _ _ _ _ _ _ x_9
    obtain ⟨i_12, i_13, i_14, i_15, i_16, i_17, i_18⟩ := p_11
    have i_12_g := i_12
    obtain ⟨⟨i_12_2a, i_12_2b⟩, ⟨i_12_3a, i_12_3b⟩, ⟨i_12_4a, i_12_4b⟩, ⟨i_12_5a, i_12_5b⟩, ⟨i_12_6a, i_12_6b⟩, ⟨i_12_14a, i_12_14b⟩, ⟨i_12_42a, i_12_42b⟩⟩ := i_12_g
    generalize x_19 : (f_m_town_169  (((30 : Int32).toInt - (0 : Int32).toInt).toNat + 1) 0 w_3m0 w_3m1 w_3m2 w_3m3 w_3m4 w_3m5 w_3m6 w_3m7 w_3m8 w_3m9 w_3m10 w_3m11 w_3m12) = z_20 at e
    obtain ⟨w_4l2, w_4m0, w_4m1, w_4m2, w_4m3, w_4m4, w_4m5, w_4m6, w_4m7, w_4m8, w_4m9, w_4m10, w_4m11, w_4m12⟩ := z_20
    replace e : ((match ((f_m_town_195  (((7 : Int32).toInt - (0 : Int32).toInt).toNat + 1) 0 w_4m0 w_4m1 w_4m2 w_4m3 w_4m4 w_4m5 w_4m6 w_4m7 w_4m8 w_4m9 w_4m10 w_4m11 w_4m12) : Int32 × (Nat → Int32) × (Nat → Int32) × (Nat → Int32) × (Nat → Int32) × (Nat → Int32) × (Nat → Int32) × (Nat → Int32) × (Nat → Int32) × (Nat → Int32) × (Nat → Int32) × (Nat → Int32) × (Nat → Int32) × (Nat → Int32)) with | (w_5l2, w_5m0, w_5m1, w_5m2, w_5m3, w_5m4, w_5m5, w_5m6, w_5m7, w_5m8, w_5m9, w_5m10, w_5m11, w_5m12) => ((w_5m0 3), (upd (upd w_5m0 42 0) 2 0), (f_m_begins w_5m0 w_5m1 w_5m4), (upd (upd w_5m2 (0 : Int32).toNatClampNeg (vp_nar .boolean 0)) (1 : Int32).toNatClampNeg (vp_nar .boolean 0)), w_5m3, w_5m4, w_5m5, w_5m6, w_5m7, w_5m8, w_5m9, w_5m10, w_5m11, w_5m12)) : Int32 × (Nat → Int32) × (Nat → Int32) × (Nat → Int32) × (Nat → Int32) × (Nat → Int32) × (Nat → Int32) × (Nat → Int32) × (Nat → Int32) × (Nat → Int32) × (Nat → Int32) × (Nat → Int32) × (Nat → Int32) × (Nat → Int32)) = (r, u1, u2, u3, u4, u5, u6, u7, u8, u9, u10, u11, u12, u13) := e
    have p_21 := pl_town_169 (((30 : Int32).toInt - (0 : Int32).toInt).toNat + 1) 0 w_3m0 w_3m1 w_3m2 w_3m3 w_3m4 w_3m5 w_3m6 w_3m7 w_3m8 w_3m9 w_3m10 w_3m11 w_3m12 (⟨i_12, i_13, i_14, i_15, (by first | omega | (simp (disch := omega) only [↓i_in, ↓i_isCouple, ↓i_isBridge, ↓i_isTheme, ↓i_isBarge, i_lt, i_le, i_eq, i_clamp, i_upd, i_m1, Int32.toInt_toInt64, Int32.toInt_add, Int32.toInt_sub, Int32.toInt_mul, bm32, Int32.reduceToInt, Int64.reduceToInt, Nat.reduceLT, Nat.reduceEqDiff, reduceIte, true_or, or_true, true_and, and_true, false_or, or_false, not_true_eq_false, not_false_eq_true, eq_self] <;> omega)), (by first | omega | (simp (disch := omega) only [↓i_in, ↓i_isCouple, ↓i_isBridge, ↓i_isTheme, ↓i_isBarge, i_lt, i_le, i_eq, i_clamp, i_upd, i_m1, Int32.toInt_toInt64, Int32.toInt_add, Int32.toInt_sub, Int32.toInt_mul, bm32, Int32.reduceToInt, Int64.reduceToInt, Nat.reduceLT, Nat.reduceEqDiff, reduceIte, true_or, or_true, true_and, and_true, false_or, or_false, not_true_eq_false, not_false_eq_true, eq_self] <;> omega)), (by first | omega | (simp (disch := omega) only [↓i_in, ↓i_isCouple, ↓i_isBridge, ↓i_isTheme, ↓i_isBarge, i_lt, i_le, i_eq, i_clamp, i_upd, i_m1, Int32.toInt_toInt64, Int32.toInt_add, Int32.toInt_sub, Int32.toInt_mul, bm32, Int32.reduceToInt, Int64.reduceToInt, Nat.reduceLT, Nat.reduceEqDiff, reduceIte, true_or, or_true, true_and, and_true, false_or, or_false, not_true_eq_false, not_false_eq_true, eq_self] <;> omega))⟩) _ _ _ _ _ _ _ _ _ _ _ _ _ _ x_19
    obtain ⟨i_22, i_23, i_24, i_25, i_26, i_27, i_28⟩ := p_21
    have i_22_g := i_22
    obtain ⟨⟨i_22_2a, i_22_2b⟩, ⟨i_22_3a, i_22_3b⟩, ⟨i_22_4a, i_22_4b⟩, ⟨i_22_5a, i_22_5b⟩, ⟨i_22_6a, i_22_6b⟩, ⟨i_22_14a, i_22_14b⟩, ⟨i_22_42a, i_22_42b⟩⟩ := i_22_g
    generalize x_29 : (f_m_town_195  (((7 : Int32).toInt - (0 : Int32).toInt).toNat + 1) 0 w_4m0 w_4m1 w_4m2 w_4m3 w_4m4 w_4m5 w_4m6 w_4m7 w_4m8 w_4m9 w_4m10 w_4m11 w_4m12) = z_30 at e
    obtain ⟨w_5l2, w_5m0, w_5m1, w_5m2, w_5m3, w_5m4, w_5m5, w_5m6, w_5m7, w_5m8, w_5m9, w_5m10, w_5m11, w_5m12⟩ := z_30
    replace e : (((w_5m0 3), (upd (upd w_5m0 42 0) 2 0), (f_m_begins w_5m0 w_5m1 w_5m4), (upd (upd w_5m2 (0 : Int32).toNatClampNeg (vp_nar .boolean 0)) (1 : Int32).toNatClampNeg (vp_nar .boolean 0)), w_5m3, w_5m4, w_5m5, w_5m6, w_5m7, w_5m8, w_5m9, w_5m10, w_5m11, w_5m12) : Int32 × (Nat → Int32) × (Nat → Int32) × (Nat → Int32) × (Nat → Int32) × (Nat → Int32) × (Nat → Int32) × (Nat → Int32) × (Nat → Int32) × (Nat → Int32) × (Nat → Int32) × (Nat → Int32) × (Nat → Int32) × (Nat → Int32)) = (r, u1, u2, u3, u4, u5, u6, u7, u8, u9, u10, u11, u12, u13) := e
    have p_31 := pl_town_195 (((7 : Int32).toInt - (0 : Int32).toInt).toNat + 1) 0 w_4m0 w_4m1 w_4m2 w_4m3 w_4m4 w_4m5 w_4m6 w_4m7 w_4m8 w_4m9 w_4m10 w_4m11 w_4m12 (⟨i_22, i_23, i_24, i_25, (by first | omega | (simp (disch := omega) only [↓i_in, ↓i_isCouple, ↓i_isBridge, ↓i_isTheme, ↓i_isBarge, i_lt, i_le, i_eq, i_clamp, i_upd, i_m1, Int32.toInt_toInt64, Int32.toInt_add, Int32.toInt_sub, Int32.toInt_mul, bm32, Int32.reduceToInt, Int64.reduceToInt, Nat.reduceLT, Nat.reduceEqDiff, reduceIte, true_or, or_true, true_and, and_true, false_or, or_false, not_true_eq_false, not_false_eq_true, eq_self] <;> omega)), (by first | omega | (simp (disch := omega) only [↓i_in, ↓i_isCouple, ↓i_isBridge, ↓i_isTheme, ↓i_isBarge, i_lt, i_le, i_eq, i_clamp, i_upd, i_m1, Int32.toInt_toInt64, Int32.toInt_add, Int32.toInt_sub, Int32.toInt_mul, bm32, Int32.reduceToInt, Int64.reduceToInt, Nat.reduceLT, Nat.reduceEqDiff, reduceIte, true_or, or_true, true_and, and_true, false_or, or_false, not_true_eq_false, not_false_eq_true, eq_self] <;> omega)), (by first | omega | (simp (disch := omega) only [↓i_in, ↓i_isCouple, ↓i_isBridge, ↓i_isTheme, ↓i_isBarge, i_lt, i_le, i_eq, i_clamp, i_upd, i_m1, Int32.toInt_toInt64, Int32.toInt_add, Int32.toInt_sub, Int32.toInt_mul, bm32, Int32.reduceToInt, Int64.reduceToInt, Nat.reduceLT, Nat.reduceEqDiff, reduceIte, true_or, or_true, true_and, and_true, false_or, or_false, not_true_eq_false, not_false_eq_true, eq_self] <;> omega))⟩) _ _ _ _ _ _ _ _ _ _ _ _ _ _ x_29
    obtain ⟨i_32, i_33, i_34, i_35, i_36, i_37, i_38⟩ := p_31
    have i_32_g := i_32
    obtain ⟨⟨i_32_2a, i_32_2b⟩, ⟨i_32_3a, i_32_3b⟩, ⟨i_32_4a, i_32_4b⟩, ⟨i_32_5a, i_32_5b⟩, ⟨i_32_6a, i_32_6b⟩, ⟨i_32_14a, i_32_14b⟩, ⟨i_32_42a, i_32_42b⟩⟩ := i_32_g
    simp only [Prod.mk.injEq] at e
    obtain ⟨e_0, e_1, e_2, e_3, e_4, e_5, e_6, e_7, e_8, e_9, e_10, e_11, e_12, e_13⟩ := e
    subst e_0
    subst e_1
    subst e_2
    subst e_3
    subst e_4
    subst e_5
    subst e_6
    subst e_7
    subst e_8
    subst e_9
    subst e_10
    subst e_11
    subst e_12
    subst e_13
    exact ⟨(GI_u2 (GI_u42 i_32 (by first | omega | (simp (disch := omega) only [↓i_in, ↓i_isCouple, ↓i_isBridge, ↓i_isTheme, ↓i_isBarge, i_lt, i_le, i_eq, i_clamp, i_upd, i_m1, Int32.toInt_toInt64, Int32.toInt_add, Int32.toInt_sub, Int32.toInt_mul, bm32, Int32.reduceToInt, Int64.reduceToInt, Nat.reduceLT, Nat.reduceEqDiff, reduceIte, true_or, or_true, true_and, and_true, false_or, or_false, not_true_eq_false, not_false_eq_true, eq_self] <;> omega)) (by first | omega | (simp (disch := omega) only [↓i_in, ↓i_isCouple, ↓i_isBridge, ↓i_isTheme, ↓i_isBarge, i_lt, i_le, i_eq, i_clamp, i_upd, i_m1, Int32.toInt_toInt64, Int32.toInt_add, Int32.toInt_sub, Int32.toInt_mul, bm32, Int32.reduceToInt, Int64.reduceToInt, Nat.reduceLT, Nat.reduceEqDiff, reduceIte, true_or, or_true, true_and, and_true, false_or, or_false, not_true_eq_false, not_false_eq_true, eq_self] <;> omega))) (by first | omega | (simp (disch := omega) only [↓i_in, ↓i_isCouple, ↓i_isBridge, ↓i_isTheme, ↓i_isBarge, i_lt, i_le, i_eq, i_clamp, i_upd, i_m1, Int32.toInt_toInt64, Int32.toInt_add, Int32.toInt_sub, Int32.toInt_mul, bm32, Int32.reduceToInt, Int64.reduceToInt, Nat.reduceLT, Nat.reduceEqDiff, reduceIte, true_or, or_true, true_and, and_true, false_or, or_false, not_true_eq_false, not_false_eq_true, eq_self] <;> omega)) (by first | omega | (simp (disch := omega) only [↓i_in, ↓i_isCouple, ↓i_isBridge, ↓i_isTheme, ↓i_isBarge, i_lt, i_le, i_eq, i_clamp, i_upd, i_m1, Int32.toInt_toInt64, Int32.toInt_add, Int32.toInt_sub, Int32.toInt_mul, bm32, Int32.reduceToInt, Int64.reduceToInt, Nat.reduceLT, Nat.reduceEqDiff, reduceIte, true_or, or_true, true_and, and_true, false_or, or_false, not_true_eq_false, not_false_eq_true, eq_self] <;> omega))), (p_begins i_33), i_34, i_35, (by first | omega | (simp (disch := omega) only [↓i_in, ↓i_isCouple, ↓i_isBridge, ↓i_isTheme, ↓i_isBarge, i_lt, i_le, i_eq, i_clamp, i_upd, i_m1, Int32.toInt_toInt64, Int32.toInt_add, Int32.toInt_sub, Int32.toInt_mul, bm32, Int32.reduceToInt, Int64.reduceToInt, Nat.reduceLT, Nat.reduceEqDiff, reduceIte, true_or, or_true, true_and, and_true, false_or, or_false, not_true_eq_false, not_false_eq_true, eq_self] <;> omega))⟩
end
section
/-! the class's reader and the reference's, side by side: letters, blanks, numbers, signs -/
theorem rl_tw {f : Nat → Int32} {i : Nat} {x y : Int32} : upd (upd f i x) i y = upd f i y := by
  funext j
  by_cases c : j = i
  · subst c
    rw [pk_us, pk_us]
  · rw [pk_un c, pk_un c, pk_un c]
theorem rl_self {f : Nat → Int32} {i : Nat} : upd f i (f i) = f := by
  funext j
  by_cases c : j = i
  · subst c
    rw [pk_us]
  · rw [pk_un c]
theorem rl_sw {f : Nat → Int32} {i j : Nat} {x y : Int32} (h : i ≠ j) : upd (upd f i x) j y = upd (upd f j y) i x := by
  funext k
  by_cases c : k = i
  · subst c
    rw [pk_un h, pk_us, pk_us]
  · by_cases d : k = j
    · subst d
      rw [pk_us, pk_un c, pk_us]
    · rw [pk_un d, pk_un c, pk_un c, pk_un d]
theorem i_add {a b : Int32} (h1 : -2147483648 ≤ a.toInt + b.toInt) (h2 : a.toInt + b.toInt < 2147483648) : (a + b).toInt = a.toInt + b.toInt := by
  rw [Int32.toInt_add, bm32 h1 h2]
theorem i_sub {a b : Int32} (h1 : -2147483648 ≤ a.toInt - b.toInt) (h2 : a.toInt - b.toInt < 2147483648) : (a - b).toInt = a.toInt - b.toInt := by
  rw [Int32.toInt_sub, bm32 h1 h2]
theorem i_mul {a b : Int32} (h1 : -2147483648 ≤ a.toInt * b.toInt) (h2 : a.toInt * b.toInt < 2147483648) : (a * b).toInt = a.toInt * b.toInt := by
  rw [Int32.toInt_mul, bm32 h1 h2]
theorem i_1 : (1 : Int32).toInt = 1 := rfl
theorem i_0 : (0 : Int32).toInt = 0 := rfl
theorem i_a1 {a : Int32} (h0 : -2147483648 ≤ a.toInt) (h : a.toInt < 2147483647) : (a + 1).toInt = a.toInt + 1 := by
  rw [i_add (by rw [i_1]; omega) (by rw [i_1]; omega), i_1]
def ltr (L : Int32) (f : Nat → Int32) (k : Int32) : Int32 := if L ≤ k then -1 else f k.toNatClampNeg
theorem ltr_m (G f : Nat → Int32) (k : Int32) : f_m_letterAt G f k = ltr (G 14) f k := rfl
theorem ltr_e {L k : Int32} {f : Nat → Int32} (r0 r1 r5 r6 : Int32) (h0 : 0 ≤ k.toInt) (hL : L.toInt ≤ 240) : f_e_letter_x5 r0 r1 L k r5 r6 f = ltr L f k := by
  unfold f_e_letter_x5 ltr
  have c0 : ¬ k < 0 := by
    rw [i_lt, i_0]
    omega
  rw [if_neg c0]
  by_cases c : L ≤ k
  · rw [if_pos c, if_pos c]
  · have c1 : ¬ 240 ≤ k := by
      rw [i_le] at c ⊢
      simp only [Int32.reduceToInt]
      omega
    rw [if_neg c, if_neg c, if_neg c1]
theorem ltr_lt {L k c : Int32} {f : Nat → Int32} (h : ltr L f k = c) (hc : c ≠ -1) : k.toInt < L.toInt := by
  by_cases q : L ≤ k
  · unfold ltr at h
    rw [if_pos q] at h
    exact absurd h.symm hc
  · rw [i_le] at q
    omega
theorem here_loop {f : Nat → Int32} {L : Int32} (hL : L.toInt ≤ 240) : ∀ (n m : Nat) (i : Int32) (G : Nat → Int32), G 14 = L → 0 ≤ i.toInt → i.toInt ≤ (G 15).toInt → (G 15).toInt ≤ L.toInt → L.toInt - (G 15).toInt < n → 240 - i.toInt < m → ∃ k j : Int32, (G 15).toInt ≤ k.toInt ∧ k.toInt ≤ L.toInt ∧ ltr L f k ≠ 32 ∧ f_m_here_0 f n G = upd G 15 k ∧ ∀ r0 r1 r4 r5 r6, f_e_next_x5_2 r0 r1 L r4 r5 r6 f m i (G 15) = (j, k) := by
  intro n
  induction n with
  | zero => intro m i G hG h0 h1 h2 h3; omega
  | succ n ih =>
    intro m i G hG h0 h1 h2 h3 h4
    cases m with
    | zero => omega
    | succ m =>
      by_cases c : ltr L f (G 15) = 32
      · have hlt := ltr_lt c (by decide)
        have e1 := i_a1 (a := G 15) (by omega) (by omega)
        have e2 := i_a1 (a := i) (by omega) (by omega)
        have c1 : ¬ 240 ≤ i := by
          rw [i_le]
          simp only [Int32.reduceToInt]
          omega
        obtain ⟨k, j, a1, a2, a3, a4, a5⟩ := ih m (i + 1) (upd G 15 (G 15 + 1)) (by rw [pk_un (by decide)]; exact hG) (by omega) (by rw [pk_us]; omega) (by rw [pk_us]; omega) (by rw [pk_us]; omega) (by omega)
        rw [pk_us] at a1
        refine ⟨k, j, by omega, a2, a3, ?_, fun r0 r1 r4 r5 r6 => ?_⟩
        · rw [f_m_here_0_s, ltr_m, hG, if_pos c, a4, rl_tw]
        · have := a5 r0 r1 r4 r5 r6
          rw [pk_us] at this
          rw [f_e_next_x5_2_s, if_neg c1, ltr_e _ _ _ _ (by omega) hL, if_pos c, this]
      · refine ⟨G 15, i, by omega, h2, c, ?_, fun r0 r1 r4 r5 r6 => ?_⟩
        · rw [f_m_here_0_s, ltr_m, hG, if_neg c, rl_self]
        · rw [f_e_next_x5_2_s]
          by_cases q : 240 ≤ i
          · rw [if_pos q]
          · rw [if_neg q, ltr_e _ _ _ _ (by omega) hL, if_neg c]
theorem here_spec {G f : Nat → Int32} (h0 : 0 ≤ (G 15).toInt) (h1 : (G 15).toInt ≤ (G 14).toInt) (h2 : (G 14).toInt ≤ 240) : ∃ k : Int32, (G 15).toInt ≤ k.toInt ∧ k.toInt ≤ (G 14).toInt ∧ ltr (G 14) f k ≠ 32 ∧ f_m_here G f = (ltr (G 14) f k, upd (upd G 15 k) 16 k) ∧ ∀ r0 r1 r5 r6, f_e_next_x5 r0 r1 (G 14) (G 15) r5 r6 f = (ltr (G 14) f k, k) := by
  obtain ⟨k, j, a1, a2, a3, a4, a5⟩ := here_loop (f := f) h2 300 241 0 G rfl (by decide) (by rw [i_0]; exact h0) h1 (by omega) (by rw [i_0]; omega)
  refine ⟨k, a1, a2, a3, ?_, fun r0 r1 r5 r6 => ?_⟩
  · unfold f_m_here
    rw [a4]
    dsimp only
    rw [pk_us, ltr_m, pk_un (by decide), pk_un (by decide)]
  · unfold f_e_next_x5
    have e : ((240 : Int32).toInt - (0 : Int32).toInt).toNat + 1 = 241 := rfl
    rw [e, a5]
    dsimp only
    rw [ltr_e _ _ _ _ (by omega) h2]
/-- blanks that have been passed are passed -/
theorem here_again {G f : Nat → Int32} {k : Int32} (h0 : 0 ≤ k.toInt) (h2 : (G 14).toInt ≤ 240) (hk : ltr (G 14) f k ≠ 32) (hG : G 15 = k) : f_m_here G f = (ltr (G 14) f k, upd G 16 k) ∧ ∀ r0 r1 r5 r6, f_e_next_x5 r0 r1 (G 14) k r5 r6 f = (ltr (G 14) f k, k) := by
  refine ⟨?_, fun r0 r1 r5 r6 => ?_⟩
  · unfold f_m_here
    rw [f_m_here_0_s, ltr_m, hG, if_neg hk]
    dsimp only
    rw [ltr_m, pk_un (by decide), hG]
  · unfold f_e_next_x5
    have e : ((240 : Int32).toInt - (0 : Int32).toInt).toNat + 1 = 240 + 1 := rfl
    rw [e, f_e_next_x5_2_s, if_neg (by decide), ltr_e _ _ _ _ h0 h2, if_neg hk]
    dsimp only
    rw [ltr_e _ _ _ _ h0 h2]
theorem fig_m (c : Int32) : f_m_in c.toInt64 48 57 = 0 ↔ ¬ (48 ≤ c.toInt ∧ c.toInt ≤ 57) := by
  rw [i_in, Int32.toInt_toInt64]
  exact Iff.rfl
theorem fig_e (r0 r1 r3 r4 r5 r6 c : Int32) : f_e_isFigure_x5 r0 r1 r3 r4 r5 r6 c = 0 ↔ ¬ (48 ≤ c.toInt ∧ c.toInt ≤ 57) := by
  unfold f_e_isFigure_x5
  by_cases c1 : c < 48
  · rw [if_pos c1]
    simp only [i_lt, Int32.reduceToInt] at c1
    exact ⟨fun _ => by omega, fun _ => rfl⟩
  · rw [if_neg c1]
    simp only [i_lt, Int32.reduceToInt] at c1
    by_cases c2 : 57 < c
    · rw [if_pos c2]
      simp only [i_lt, Int32.reduceToInt] at c2
      exact ⟨fun _ => by omega, fun _ => rfl⟩
    · rw [if_neg c2]
      simp only [i_lt, Int32.reduceToInt] at c2
      exact ⟨fun q => absurd q (by decide), fun q => absurd ⟨by omega, by omega⟩ q⟩
theorem rl_4 {f : Nat → Int32} {x y p v : Int32} : upd (upd (upd (upd f 17 x) 15 y) 17 v) 15 p = upd (upd f 17 v) 15 p := by
  funext j
  by_cases h : j = 15
  · subst h
    rw [pk_us, pk_us]
  · rw [pk_un h, pk_un h]
    by_cases h2 : j = 17
    · subst h2
      rw [pk_us, pk_us]
    · rw [pk_un h2, pk_un h, pk_un h2, pk_un h2]
theorem num_loop {f : Nat → Int32} {L : Int32} (hL : L.toInt ≤ 240) : ∀ (n m : Nat) (i : Int32) (G : Nat → Int32), G 14 = L → 0 ≤ i.toInt → 0 ≤ (G 16).toInt → (G 15).toInt = (G 16).toInt + i.toInt → (G 15).toInt ≤ L.toInt → L.toInt - (G 15).toInt < n → 240 - i.toInt < m → ∃ p v j : Int32, (G 15).toInt ≤ p.toInt ∧ p.toInt ≤ L.toInt ∧ f_m_takesNumber_32 f n G = upd (upd G 17 v) 15 p ∧ (48 ≤ (ltr L f (G 15)).toInt ∧ (ltr L f (G 15)).toInt ≤ 57 → (G 15).toInt < p.toInt) ∧ ∀ r0 r1 r4 r5 r6 lo hi a b, f_e_number_x5_42 r0 r1 L r4 r5 r6 f lo hi m i (G 17) a b (G 15) = (j, v, a, b, p) := by
  intro n
  induction n with
  | zero => intro m i G hG h0 h1 h2 h3 h4; omega
  | succ n ih =>
    intro m i G hG h0 h1 h2 h3 h4 h5
    cases m with
    | zero => omega
    | succ m =>
      by_cases c : 48 ≤ (ltr L f (G 15)).toInt ∧ (ltr L f (G 15)).toInt ≤ 57
      · have hlt := ltr_lt (L := L) (f := f) (k := G 15) rfl (by intro q; rw [q, i_m1] at c; omega)
        have e1 := i_a1 (a := G 15) (by omega) (by omega)
        have e2 := i_a1 (a := i) (by omega) (by omega)
        have e3 := i_sub (a := G 15) (b := G 16) (by omega) (by omega)
        have c1 : ¬ 240 ≤ i := by
          rw [i_le]
          simp only [Int32.reduceToInt]
          omega
        have c2 : ¬ f_m_in (f_m_letterAt G f (G 15)).toInt64 48 57 = 0 := by
          rw [fig_m, ltr_m, hG]
          exact fun q => q c
        have c3 : ∀ r0 r1 r5 r6, ¬ f_e_isFigure_x5 r0 r1 L (G 15) r5 r6 (f_e_letter_x5 r0 r1 L (G 15) r5 r6 f) = 0 := by
          intro r0 r1 r5 r6
          rw [fig_e, ltr_e _ _ _ _ (by omega) hL]
          exact fun q => q c
        have key : ∀ v1 : Int32, ∃ p v j : Int32, (G 15).toInt + 1 ≤ p.toInt ∧ p.toInt ≤ L.toInt ∧ f_m_takesNumber_32 f n (upd (upd G 17 v1) 15 (G 15 + 1)) = upd (upd G 17 v) 15 p ∧ ∀ r0 r1 r4 r5 r6 lo hi a b, f_e_number_x5_42 r0 r1 L r4 r5 r6 f lo hi m (i + 1) v1 a b (G 15 + 1) = (j, v, a, b, p) := by
          intro v1
          obtain ⟨p, v, j, a1, a2, a3, _, a4⟩ := ih m (i + 1) (upd (upd G 17 v1) 15 (G 15 + 1)) (by rw [pk_un (by decide), pk_un (by decide)]; exact hG) (by omega) (by rw [pk_un (by decide), pk_un (by decide)]; exact h1) (by rw [pk_us, pk_un (by decide), pk_un (by decide)]; omega) (by rw [pk_us]; omega) (by rw [pk_us]; omega) (by omega)
          rw [pk_us] at a1
          refine ⟨p, v, j, by omega, a2, ?_, fun r0 r1 r4 r5 r6 lo hi a b => ?_⟩
          · rw [a3, rl_4]
          · have := a4 r0 r1 r4 r5 r6 lo hi a b
            rw [pk_us, pk_un (by decide), pk_us] at this
            exact this
        by_cases c4 : 3 ≤ i
        · have c5 : 3 ≤ G 15 - G 16 := by
            simp only [i_le, Int32.reduceToInt] at c4 ⊢
            omega
          obtain ⟨p, v, j, a1, a2, a3, a4⟩ := key (G 17)
          refine ⟨p, v, j, by omega, a2, ?_, fun _ => by omega, fun r0 r1 r4 r5 r6 lo hi a b => ?_⟩
          · rw [f_m_takesNumber_32_s, if_neg c2, if_pos c5, a3]
          · rw [f_e_number_x5_42_s, if_neg c1, if_neg (c3 _ _ _ _), if_pos c4, a4]
        · have c5 : ¬ 3 ≤ G 15 - G 16 := by
            simp only [i_le, Int32.reduceToInt] at c4 ⊢
            omega
          obtain ⟨p, v, j, a1, a2, a3, a4⟩ := key (10 * G 17 + ltr L f (G 15) - 48)
          refine ⟨p, v, j, by omega, a2, ?_, fun _ => by omega, fun r0 r1 r4 r5 r6 lo hi a b => ?_⟩
          · rw [f_m_takesNumber_32_s, if_neg c2, if_neg c5, ltr_m, hG, a3]
          · rw [f_e_number_x5_42_s, if_neg c1, if_neg (c3 _ _ _ _), if_neg c4, ltr_e _ _ _ _ (by omega) hL, Int32.mul_comm, a4]
      · refine ⟨G 15, G 17, i, by omega, h3, ?_, fun q => absurd q c, fun r0 r1 r4 r5 r6 lo hi a b => ?_⟩
        · have c2 : f_m_in (f_m_letterAt G f (G 15)).toInt64 48 57 = 0 := by
            rw [fig_m, ltr_m, hG]
            exact c
          rw [f_m_takesNumber_32_s, if_pos c2, rl_self, rl_self]
        · rw [f_e_number_x5_42_s]
          by_cases q : 240 ≤ i
          · rw [if_pos q]
          · have c3 : f_e_isFigure_x5 a b L (G 15) r5 r6 (f_e_letter_x5 a b L (G 15) r5 r6 f) = 0 := by
              rw [fig_e, ltr_e _ _ _ _ (by omega) hL]
              exact c
            rw [if_neg q, if_pos c3]
/-- where the reader stands, and no fault so far -/
def PS (G : Nat → Int32) : Prop := 0 ≤ (G 15).toInt ∧ (G 15).toInt ≤ (G 14).toInt ∧ (G 14).toInt ≤ 240 ∧ G 18 = 0
/-- but for at, start, number, faulty, faultAt -/
def PQ (G H : Nat → Int32) : Prop := ∀ j, j < 15 ∨ 20 ≤ j → H j = G j
theorem PQ.trans {A B C : Nat → Int32} (h : PQ A B) (q : PQ B C) : PQ A C := fun j hj => (q j hj).trans (h j hj)
theorem PQ.refl (A : Nat → Int32) : PQ A A := fun _ _ => rfl
theorem PQ_upd {A B : Nat → Int32} {k : Nat} {x : Int32} (h : PQ A B) (h1 : 15 ≤ k) (h2 : k < 20) : PQ A (upd B k x) := fun j hj => (pk_un (by omega)).trans (h j hj)
theorem number_eq {G f : Nat → Int32} {lo hi : Int32} (hp : PS G) : ∃ (r v a b p : Int32) (H : Nat → Int32), f_m_takesNumber G f lo hi = (r, H) ∧ (∀ r5 r6, f_e_number_x5 0 (G 19) (G 14) (G 15) r5 r6 f lo hi = (v, a, b, p)) ∧ PQ G H ∧ a = H 18 ∧ b = H 19 ∧ ((r = 1 ∧ a = 0 ∧ b = G 19 ∧ p = H 15 ∧ v = H 17 ∧ lo.toInt ≤ v.toInt ∧ v.toInt ≤ hi.toInt ∧ (G 15).toInt < p.toInt ∧ p.toInt ≤ (G 14).toInt) ∨ (r = 0 ∧ a ≠ 0)) := by
  obtain ⟨h0, h1, h2, h3⟩ := hp
  obtain ⟨k, k0, k1, k2, km, ke⟩ := here_spec (f := f) h0 h1 h2
  have q2 : PQ G (upd (upd G 15 k) 16 k) := PQ_upd (PQ_upd (PQ.refl G) (by decide) (by decide)) (by decide) (by decide)
  by_cases c : 48 ≤ (ltr (G 14) f k).toInt ∧ (ltr (G 14) f k).toInt ≤ 57
  · obtain ⟨p, v, j, a1, a2, a3, a4, a5⟩ := num_loop (f := f) h2 300 241 0 (upd (upd (upd G 15 k) 16 k) 17 0) rfl (by decide) (by rw [pk_un (by decide), pk_us]; omega) (by rw [pk_un (by decide), pk_un (by decide), pk_us, pk_un (by decide), pk_us, i_0]; omega) (by rw [pk_un (by decide), pk_un (by decide), pk_us]; exact k1) (by rw [pk_un (by decide), pk_un (by decide), pk_us]; omega) (by rw [i_0]; omega)
    have e15 : (upd (upd (upd G 15 k) 16 k) 17 0) 15 = k := by rw [pk_un (by decide), pk_un (by decide), pk_us]
    rw [e15] at a1 a4
    have a6 : ∀ r5 r6 a b, f_e_number_x5_42 0 (G 19) (G 14) (G 15) r5 r6 f lo hi 241 0 0 a b k = (j, v, a, b, p) := by
      intro r5 r6 a b
      have := a5 0 (G 19) (G 15) r5 r6 lo hi a b
      rw [e15, pk_us] at this
      exact this
    have hp := a4 c
    have n1 : ¬ f_m_in (ltr (G 14) f k).toInt64 48 57 = 0 := by
      rw [fig_m]
      exact fun q => q c
    have n2 : ∀ r5 r6, ¬ f_e_isFigure_x5 0 (G 19) (G 14) k r5 r6 (ltr (G 14) f k) = 0 := by
      intro r5 r6
      rw [fig_e]
      exact fun q => q c
    have e16 : (upd (upd (upd (upd (upd G 15 k) 16 k) 17 0) 17 v) 15 p) 16 = k := by rw [pk_un (by decide), pk_un (by decide), pk_un (by decide), pk_us]
    have e17 : (upd (upd (upd (upd (upd G 15 k) 16 k) 17 0) 17 v) 15 p) 17 = v := by rw [pk_un (by decide), pk_us]
    have es := i_sub (a := p) (b := k) (by omega) (by omega)
    have q5 : PQ G (upd (upd (upd (upd (upd G 15 k) 16 k) 17 0) 17 v) 15 p) := PQ_upd (PQ_upd (PQ_upd q2 (by decide) (by decide)) (by decide) (by decide)) (by decide) (by decide)
    have hm : f_m_takesNumber G f lo hi = (if 4 ≤ p - k then (0, upd (upd (upd (upd (upd (upd (upd G 15 k) 16 k) 17 0) 17 v) 15 p) 18 2) 19 k) else if f_m_in v.toInt64 lo.toInt64 hi.toInt64 = 0 then (0, upd (upd (upd (upd (upd (upd (upd G 15 k) 16 k) 17 0) 17 v) 15 p) 18 2) 19 k) else (1, upd (upd (upd (upd (upd G 15 k) 16 k) 17 0) 17 v) 15 p)) := by
      unfold f_m_takesNumber
      rw [km]
      dsimp only
      rw [if_neg n1, a3]
      try dsimp only
      rw [pk_us, e16, e17]
      unfold f_m_fails
      dsimp only
      rw [if_pos rfl]
    have he : ∀ r5 r6, f_e_number_x5 0 (G 19) (G 14) (G 15) r5 r6 f lo hi = (if 3 < p - k then (lo, 2, k, p) else if v < lo then (lo, 2, k, p) else if v ≤ hi then (v, 0, G 19, p) else (lo, 2, k, p)) := by
      intro r5 r6
      unfold f_e_number_x5
      have e : ((240 : Int32).toInt - (0 : Int32).toInt).toNat + 1 = 241 := rfl
      rw [if_pos rfl, ke]
      dsimp only
      rw [if_neg (n2 _ _), e, a6]
      rfl
    have bad : ∃ (r v' a b p' : Int32) (H : Nat → Int32), ((0 : Int32), upd (upd (upd (upd (upd (upd (upd G 15 k) 16 k) 17 0) 17 v) 15 p) 18 2) 19 k) = (r, H) ∧ (lo, (2 : Int32), k, p) = (v', a, b, p') ∧ PQ G H ∧ a = H 18 ∧ b = H 19 ∧ ((r = 1 ∧ a = 0 ∧ b = G 19 ∧ p' = H 15 ∧ v' = H 17 ∧ lo.toInt ≤ v'.toInt ∧ v'.toInt ≤ hi.toInt ∧ (G 15).toInt < p'.toInt ∧ p'.toInt ≤ (G 14).toInt) ∨ (r = 0 ∧ a ≠ 0)) :=
      ⟨0, lo, 2, k, p, _, rfl, rfl, PQ_upd (PQ_upd q5 (by decide) (by decide)) (by decide) (by decide), by rw [pk_un (by decide), pk_us], by rw [pk_us], Or.inr ⟨rfl, by decide⟩⟩
    by_cases c4 : 4 ≤ p - k
    · have c5 : 3 < p - k := by
        simp only [i_le, i_lt, Int32.reduceToInt] at c4 ⊢
        omega
      obtain ⟨r, v', a, b, p', H, b1, b2, b3⟩ := bad
      refine ⟨r, v', a, b, p', H, ?_, fun r5 r6 => ?_, b3⟩
      · rw [hm, if_pos c4, b1]
      · rw [he, if_pos c5, b2]
    · have c5 : ¬ 3 < p - k := by
        simp only [i_le, i_lt, Int32.reduceToInt] at c4 ⊢
        omega
      have ein : f_m_in v.toInt64 lo.toInt64 hi.toInt64 = 0 ↔ ¬ (lo.toInt ≤ v.toInt ∧ v.toInt ≤ hi.toInt) := by
        rw [i_in, Int32.toInt_toInt64, Int32.toInt_toInt64, Int32.toInt_toInt64]
      by_cases c6 : lo.toInt ≤ v.toInt ∧ v.toInt ≤ hi.toInt
      · refine ⟨1, v, 0, G 19, p, upd (upd (upd (upd (upd G 15 k) 16 k) 17 0) 17 v) 15 p, ?_, fun r5 r6 => ?_, q5, ?_, ?_, Or.inl ⟨rfl, rfl, rfl, ?_, ?_, c6.1, c6.2, by omega, a2⟩⟩
        · rw [hm, if_neg c4, if_neg (fun q => ein.mp q c6)]
        · rw [he, if_neg c5, if_neg (by rw [i_lt]; omega), if_pos (by rw [i_le]; omega)]
        · rw [pk_un (by decide), pk_un (by decide), pk_un (by decide), pk_un (by decide), pk_un (by decide), h3]
        · rw [pk_un (by decide), pk_un (by decide), pk_un (by decide), pk_un (by decide), pk_un (by decide)]
        · rw [pk_us]
        · rw [e17]
      · obtain ⟨r, v', a, b, p', H, b1, b2, b3⟩ := bad
        refine ⟨r, v', a, b, p', H, ?_, fun r5 r6 => ?_, b3⟩
        · rw [hm, if_neg c4, if_pos (ein.mpr c6), b1]
        · rw [he, if_neg c5]
          by_cases c7 : v < lo
          · rw [if_pos c7, b2]
          · have c8 : ¬ v ≤ hi := by
              rw [i_lt] at c7
              rw [i_le]
              omega
            rw [if_neg c7, if_neg c8, b2]
  · refine ⟨0, lo, 1, k, k, upd (upd (upd (upd G 15 k) 16 k) 18 1) 19 k, ?_, fun r5 r6 => ?_, PQ_upd (PQ_upd q2 (by decide) (by decide)) (by decide) (by decide), ?_, ?_, Or.inr ⟨rfl, by decide⟩⟩
    · have n1 : f_m_in (ltr (G 14) f k).toInt64 48 57 = 0 := by
        rw [fig_m]
        exact c
      unfold f_m_takesNumber
      rw [km]
      dsimp only
      rw [if_pos n1, pk_us]
      rfl
    · have n2 : f_e_isFigure_x5 0 (G 19) (G 14) k r5 r6 (ltr (G 14) f k) = 0 := by
        rw [fig_e]
        exact c
      unfold f_e_number_x5
      rw [if_pos rfl, ke]
      dsimp only
      rw [if_pos n2]
      rfl
    · rw [pk_un (by decide), pk_us]
    · rw [pk_us]
theorem number_off {r0 r1 r3 r4 r5 r6 lo hi : Int32} {f : Nat → Int32} (h : r0 ≠ 0) : f_e_number_x5 r0 r1 r3 r4 r5 r6 f lo hi = (lo, r0, r1, r4) := by
  unfold f_e_number_x5
  rw [if_neg h]
theorem expect_off {r0 r1 r3 r4 r5 r6 c : Int32} {f : Nat → Int32} (h : r0 ≠ 0) : f_e_expect_x5 r0 r1 r3 r4 r5 r6 f c = (r0, r1, r4) := by
  unfold f_e_expect_x5
  rw [if_neg h]
/-- a sign that must stand there: place is where the class stands, at where the reference stands: blanks alone may lie between -/
theorem expect_eq {G f : Nat → Int32} {c p : Int32} (hp : PS G) (hc : c ≠ -1) (hq : p = G 15 ∨ ∃ k, (∀ r0 r1 r5 r6, f_e_next_x5 r0 r1 (G 14) p r5 r6 f = (ltr (G 14) f k, k)) ∧ G 15 = k ∧ ltr (G 14) f k ≠ 32) : ∃ (r a b z : Int32) (H : Nat → Int32), f_m_takes G f c = (r, H) ∧ (∀ r5 r6, f_e_expect_x5 0 (G 19) (G 14) p r5 r6 f c = (a, b, z)) ∧ PQ G H ∧ a = H 18 ∧ b = H 19 ∧ ((r = 1 ∧ a = 0 ∧ b = G 19 ∧ z = H 15 ∧ (G 15).toInt < z.toInt ∧ z.toInt ≤ (G 14).toInt) ∨ (r = 0 ∧ a ≠ 0)) := by
  obtain ⟨h0, h1, h2, h3⟩ := hp
  have key : ∃ k : Int32, (G 15).toInt ≤ k.toInt ∧ k.toInt ≤ (G 14).toInt ∧ f_m_here G f = (ltr (G 14) f k, upd (upd G 15 k) 16 k) ∧ ∀ r0 r1 r5 r6, f_e_next_x5 r0 r1 (G 14) p r5 r6 f = (ltr (G 14) f k, k) := by
    rcases hq with rfl | ⟨k, ke, kg, kn⟩
    · obtain ⟨k, k0, k1, k2, km, ke⟩ := here_spec (f := f) h0 h1 h2
      exact ⟨k, k0, k1, km, ke⟩
    · refine ⟨k, by rw [kg]; exact Int.le_refl _, by rw [← kg]; exact h1, ?_, ke⟩
      rw [(here_again (by rw [← kg]; exact h0) h2 kn kg).1, ← kg, rl_self]
  obtain ⟨k, k0, k1, km, ke⟩ := key
  have q2 : PQ G (upd (upd G 15 k) 16 k) := PQ_upd (PQ_upd (PQ.refl G) (by decide) (by decide)) (by decide) (by decide)
  by_cases d : ltr (G 14) f k = c
  · have hlt := ltr_lt d hc
    have e1 := i_a1 (a := k) (by omega) (by omega)
    refine ⟨1, 0, G 19, k + 1, upd (upd (upd G 15 k) 16 k) 15 (k + 1), ?_, fun r5 r6 => ?_, PQ_upd q2 (by decide) (by decide), ?_, ?_, Or.inl ⟨rfl, rfl, rfl, ?_, by omega, by omega⟩⟩
    · unfold f_m_takes
      rw [km]
      dsimp only
      rw [if_pos d, pk_un (by decide), pk_us]
    · unfold f_e_expect_x5
      rw [if_pos rfl, ke]
      dsimp only
      rw [if_pos d]
    · rw [pk_un (by decide), pk_un (by decide), pk_un (by decide), h3]
    · rw [pk_un (by decide), pk_un (by decide), pk_un (by decide)]
    · rw [pk_us]
  · refine ⟨0, 1, k, k, upd (upd (upd (upd G 15 k) 16 k) 18 1) 19 k, ?_, fun r5 r6 => ?_, PQ_upd (PQ_upd q2 (by decide) (by decide)) (by decide) (by decide), ?_, ?_, Or.inr ⟨rfl, by decide⟩⟩
    · unfold f_m_takes
      rw [km]
      dsimp only
      rw [if_neg d, pk_us]
      rfl
    · unfold f_e_expect_x5
      rw [if_pos rfl, ke]
      dsimp only
      rw [if_neg d]
      rfl
    · rw [pk_un (by decide), pk_us]
    · rw [pk_us]
end
section
/-! the clauses, side by side -/
def AG (f g : Nat → Int32) (n lo hi : Int) : Prop := ∀ k : Nat, (k : Int) < n → f k = g k ∧ lo ≤ (g k).toInt ∧ (g k).toInt ≤ hi
def AF (f g : Nat → Int32) (n m : Int) : Prop := ∀ c t : Nat, (c : Int) < n → (t : Int) < m → f (5 * c + t) = g (5 * c + t) ∧ 0 ≤ (g (5 * c + t)).toInt ∧ (g (5 * c + t)).toInt ≤ 9
theorem put_in {n : Nat} {f : Nat → Int32} {i x : Int32} (h0 : 0 ≤ i.toInt) (h1 : i.toInt < n) : putF n f i x = upd f i.toNatClampNeg x := by
  unfold putF
  rw [if_neg]
  rw [i_lt, i_0, i_clamp]
  omega
theorem at_in {n : Nat} {f : Nat → Int32} {i : Int32} (h0 : 0 ≤ i.toInt) (h1 : i.toInt < n) : atF n f i = f i.toNatClampNeg := by
  unfold atF
  rw [if_neg]
  rw [i_lt, i_0, i_clamp]
  omega
theorem AG_snoc {f g : Nat → Int32} {i v : Int32} {lo hi : Int} {m : Nat} (h : AG f g i.toInt lo hi) (h0 : 0 ≤ i.toInt) (h1 : i.toInt < m) (hlo : lo ≤ v.toInt) (hhi : v.toInt ≤ hi) : AG (putF m f i v) (upd g i.toNatClampNeg v) (i.toInt + 1) lo hi := by
  intro k hk
  rw [put_in h0 h1]
  by_cases c : k = i.toNatClampNeg
  · subst c
    rw [pk_us, pk_us]
    exact ⟨rfl, hlo, hhi⟩
  · rw [pk_un c, pk_un c]
    refine h k ?_
    rw [i_clamp] at c
    omega
noncomputable def thenS (f : Nat → Int32) (r : Int32) (H : Nat → Int32) : Int32 × (Nat → Int32) := if r = 0 then (0, H) else (match f_m_takes H f 59 with | (r', H') => (if r' = 0 then (0, H') else (1, H')))
theorem thenS_0 {f H : Nat → Int32} : thenS f 0 H = (0, H) := if_pos rfl
theorem thenS_1 {f H H' : Nat → Int32} {r : Int32} (h : f_m_takes H f 59 = (r, H')) (hr : r = 1 ∨ r = 0) : thenS f 1 H = (r, H') := by
  unfold thenS
  rw [if_neg (by decide), h]
  dsimp only
  rcases hr with rfl | rfl
  · rw [if_neg (by decide)]
  · rw [if_pos rfl]
/-- but for at .. readBridges -/
def BQ (G H : Nat → Int32) : Prop := ∀ j, j < 15 ∨ 21 ≤ j → H j = G j
theorem br_loop {f : Nat → Int32} : ∀ (n m : Nat) (G arr brr : Nat → Int32), PS G → 1 ≤ (G 20).toInt → (G 20).toInt ≤ 6 → 7 - (G 20).toInt ≤ n → 6 - (G 20).toInt < m → AG brr arr (G 20).toInt 1 60 → ∃ (r rb a b z a1 b1 z1 u0 j : Int32) (Hb H h27 ga : Nat → Int32), (match (match f_m_here G f with | (r_11, u_10) => (if r_11 = 44 then f_m_takesBridges_2 f n 1 (upd u_10 15 ((u_10 15) + 1)) arr else f_m_takesBridges_2 f n 0 (upd u_10 15 ((u_10 15) + 0)) arr)) with | Sum.inl (_, w0, w1) => ((1 : Int32), w0, w1) | Sum.inr o => o) = (rb, Hb, h27) ∧ thenS f rb Hb = (r, H) ∧ (∀ q0 q1 q4 r5 r6 t0 t1 t2 t3 t4 fta, f_e_readBridges_x5_22 q0 q1 (G 14) q4 r5 r6 f t0 t1 t2 t3 t4 fta m (G 20) 0 (G 19) (G 15) (G 20) brr = (j, a1, b1, z1, u0, ga)) ∧ (∀ r5 r6, f_e_expect_x5 a1 b1 (G 14) z1 r5 r6 f 59 = (a, b, z)) ∧ BQ G H ∧ a = H 18 ∧ b = H 19 ∧ ((r = 1 ∧ a = 0 ∧ b = G 19 ∧ z = H 15 ∧ (G 15).toInt < z.toInt ∧ z.toInt ≤ (G 14).toInt ∧ u0 = H 20 ∧ 1 ≤ u0.toInt ∧ u0.toInt ≤ 6 ∧ AG ga h27 u0.toInt 1 60) ∨ (r = 0 ∧ a ≠ 0)) := by
  intro n
  induction n with
  | zero => intro m G arr brr hp h1 h2 h3; omega
  | succ n ih =>
    intro m G arr brr hp h1 h2 h3 h4 hA
    cases m with
    | zero => omega
    | succ m =>
      have hp0 := hp
      obtain ⟨p0, p1, p2, p3⟩ := hp
      obtain ⟨k, k0, k1, k2, km, ke⟩ := here_spec (f := f) p0 p1 p2
      rw [km]
      dsimp only
      have u15 : (upd (upd G 15 k) 16 k) 15 = k := by rw [pk_un (by decide), pk_us]
      rw [u15]
      by_cases c : ltr (G 14) f k = 44
      · rw [if_pos c]
        have hlt := ltr_lt c (by decide)
        have e1 := i_a1 (a := k) (by omega) (by omega)
        have g14 : (upd (upd (upd G 15 k) 16 k) 15 (k + 1)) 14 = G 14 := by rw [pk_un (by decide), pk_un (by decide), pk_un (by decide)]
        have g15 : (upd (upd (upd G 15 k) 16 k) 15 (k + 1)) 15 = k + 1 := by rw [pk_us]
        have g16 : (upd (upd (upd G 15 k) 16 k) 15 (k + 1)) 16 = k := by rw [pk_un (by decide), pk_us]
        have g18 : (upd (upd (upd G 15 k) 16 k) 15 (k + 1)) 18 = 0 := by rw [pk_un (by decide), pk_un (by decide), pk_un (by decide)]; exact p3
        have g19 : (upd (upd (upd G 15 k) 16 k) 15 (k + 1)) 19 = G 19 := by rw [pk_un (by decide), pk_un (by decide), pk_un (by decide)]
        have g20 : (upd (upd (upd G 15 k) 16 k) 15 (k + 1)) 20 = G 20 := by rw [pk_un (by decide), pk_un (by decide), pk_un (by decide)]
        have gq : PQ G (upd (upd (upd G 15 k) 16 k) 15 (k + 1)) := PQ_upd (PQ_upd (PQ_upd (PQ.refl G) (by decide) (by decide)) (by decide) (by decide)) (by decide) (by decide)
        generalize upd (upd (upd G 15 k) 16 k) 15 (k + 1) = G1 at g14 g15 g16 g18 g19 g20 gq ⊢
        rw [f_m_takesBridges_2_s, if_neg (by decide), g20]
        by_cases c6 : G 20 = 6
        · rw [if_pos c6, g16]
          unfold f_m_fails
          dsimp only
          refine ⟨0, 0, 1, k, k, 0, G 19, G 15, G 20, G 20, _, _, _, brr, rfl, thenS_0, fun q0 q1 q4 r5 r6 t0 t1 t2 t3 t4 fta => ?_, fun r5 r6 => ?_, ?_, ?_, ?_, Or.inr ⟨rfl, by decide⟩⟩
          · rw [f_e_readBridges_x5_22_s, if_pos (by rw [c6]; decide)]
          · unfold f_e_expect_x5
            rw [if_pos rfl, ke]
            dsimp only
            rw [if_neg (by rw [c]; decide)]
            rfl
          · exact fun j hj => (pk_un (by omega)).trans ((pk_un (by omega)).trans (gq j (by omega)))
          · rw [pk_un (by decide), pk_us]
          · rw [pk_us]
        · have d6 : (G 20).toInt < 6 := by
            rw [i_eq] at c6
            simp only [Int32.reduceToInt] at c6
            omega
          rw [if_neg c6]
          obtain ⟨r, v, a, b, p, H, n1, n2, n3, n4, n5, n6⟩ := number_eq (G := G1) (f := f) (lo := 1) (hi := 60) ⟨by rw [g15]; omega, by rw [g14, g15]; omega, by rw [g14]; exact p2, g18⟩
          rw [g14, g15, g19] at n2
          rw [n1]
          dsimp only
          have st : ∀ q0 q1 q4 r5 r6 t0 t1 t2 t3 t4 fta, f_e_readBridges_x5_22 q0 q1 (G 14) q4 r5 r6 f t0 t1 t2 t3 t4 fta (m + 1) (G 20) 0 (G 19) (G 15) (G 20) brr = f_e_readBridges_x5_22 q0 q1 (G 14) q4 r5 r6 f t0 t1 t2 t3 t4 fta m (G 20 + 1) a b p (G 20 + 1) (putF 6 brr (G 20) v) := by
            intro q0 q1 q4 r5 r6 t0 t1 t2 t3 t4 fta
            rw [f_e_readBridges_x5_22_s, if_neg (by rw [i_le]; simp only [Int32.reduceToInt]; omega), if_pos rfl, ke]
            dsimp only
            rw [if_pos c, n2]
          rcases n6 with ⟨rfl, rfl, rfl, rfl, rfl, l1, l2, l3, l4⟩ | ⟨rfl, ha⟩
          · rw [if_neg (by decide)]
            have h20 : H 20 = G 20 := (n3 20 (by decide)).trans g20
            have h14 : H 14 = G 14 := (n3 14 (by decide)).trans g14
            have e2 := i_a1 (a := G 20) (by omega) (by omega)
            have a14 : (upd H 20 (G 20 + 1)) 14 = G 14 := by rw [pk_un (by decide)]; exact h14
            have a15 : (upd H 20 (G 20 + 1)) 15 = H 15 := by rw [pk_un (by decide)]
            have a18 : (upd H 20 (G 20 + 1)) 18 = 0 := by rw [pk_un (by decide)]; exact n4.symm
            have a19 : (upd H 20 (G 20 + 1)) 19 = G 19 := by rw [pk_un (by decide), ← n5]; exact g19
            have a20 : (upd H 20 (G 20 + 1)) 20 = G 20 + 1 := by rw [pk_us]
            obtain ⟨r, rb, a, b, z, a1, b1, z1, u0, j, Hb, K, h27, ga, m1, m2, m3, m4, m5, m6, m7, m8⟩ := ih m (upd H 20 (G 20 + 1)) (upd arr (G 20).toNatClampNeg (H 17)) (putF 6 brr (G 20) (H 17)) ⟨by rw [a15]; rw [g15] at l3; omega, by rw [a15, a14]; rw [g14] at l4; exact l4, by rw [a14]; exact p2, a18⟩ (by rw [a20]; omega) (by rw [a20]; omega) (by rw [a20]; omega) (by rw [a20]; omega) (by rw [a20, e2]; exact AG_snoc hA (by omega) (by omega) l1 l2)
            rw [h20]
            refine ⟨r, rb, a, b, z, a1, b1, z1, u0, j, Hb, K, h27, ga, m1, m2, fun q0 q1 q4 r5 r6 t0 t1 t2 t3 t4 fta => ?_, ?_, ?_, m6, m7, ?_⟩
            · have := m3 q0 q1 q4 r5 r6 t0 t1 t2 t3 t4 fta
              rw [a14, a15, a19, a20] at this
              rw [st, g19]
              exact this
            · rw [a14] at m4
              exact m4
            · exact fun j hj => (m5 j hj).trans ((pk_un (by omega)).trans ((n3 j (by omega)).trans (gq j (by omega))))
            · rcases m8 with ⟨x1, x2, x3, x4, x5, x6, x7⟩ | q
              · rw [a19] at x3
                rw [a15] at x5
                rw [a14] at x6
                rw [g15] at l3
                exact Or.inl ⟨x1, x2, x3, x4, by omega, x6, x7⟩
              · exact Or.inr q
          · rw [if_pos rfl]
            refine ⟨0, 0, a, b, p, a, b, p, G 20 + 1, G 20 + 1, H, H, arr, putF 6 brr (G 20) v, rfl, thenS_0, fun q0 q1 q4 r5 r6 t0 t1 t2 t3 t4 fta => ?_, fun r5 r6 => expect_off ha, ?_, n4, n5, Or.inr ⟨rfl, ha⟩⟩
            · rw [st]
              cases m with
              | zero => omega
              | succ m =>
                rw [f_e_readBridges_x5_22_s]
                by_cases q : 6 ≤ G 20 + 1
                · rw [if_pos q]
                · rw [if_neg q, if_neg ha]
            · exact fun j hj => (n3 j (by omega)).trans (gq j (by omega))
      · rw [if_neg c, f_m_takesBridges_2_s, if_pos rfl]
        dsimp only
        rw [Int32.add_zero]
        have g14 : (upd (upd (upd G 15 k) 16 k) 15 k) 14 = G 14 := by rw [pk_un (by decide), pk_un (by decide), pk_un (by decide)]
        have g15 : (upd (upd (upd G 15 k) 16 k) 15 k) 15 = k := by rw [pk_us]
        have g18 : (upd (upd (upd G 15 k) 16 k) 15 k) 18 = 0 := by rw [pk_un (by decide), pk_un (by decide), pk_un (by decide)]; exact p3
        have g19 : (upd (upd (upd G 15 k) 16 k) 15 k) 19 = G 19 := by rw [pk_un (by decide), pk_un (by decide), pk_un (by decide)]
        have g20 : (upd (upd (upd G 15 k) 16 k) 15 k) 20 = G 20 := by rw [pk_un (by decide), pk_un (by decide), pk_un (by decide)]
        have gq : PQ G (upd (upd (upd G 15 k) 16 k) 15 k) := PQ_upd (PQ_upd (PQ_upd (PQ.refl G) (by decide) (by decide)) (by decide) (by decide)) (by decide) (by decide)
        generalize upd (upd (upd G 15 k) 16 k) 15 k = G1 at g14 g15 g18 g19 g20 gq ⊢
        have ex : ∃ z1 : Int32, (∀ q0 q1 q4 r5 r6 t0 t1 t2 t3 t4 fta, f_e_readBridges_x5_22 q0 q1 (G 14) q4 r5 r6 f t0 t1 t2 t3 t4 fta (m + 1) (G 20) 0 (G 19) (G 15) (G 20) brr = (G 20, 0, G 19, z1, G 20, brr)) ∧ (z1 = G1 15 ∨ ∃ k, (∀ r0 r1 r5 r6, f_e_next_x5 r0 r1 (G1 14) z1 r5 r6 f = (ltr (G1 14) f k, k)) ∧ G1 15 = k ∧ ltr (G1 14) f k ≠ 32) := by
          by_cases q : 6 ≤ G 20
          · refine ⟨G 15, fun q0 q1 q4 r5 r6 t0 t1 t2 t3 t4 fta => ?_, Or.inr ⟨k, ?_, g15, ?_⟩⟩
            · rw [f_e_readBridges_x5_22_s, if_pos q]
            · rw [g14]
              exact ke
            · rw [g14]
              exact k2
          · refine ⟨k, fun q0 q1 q4 r5 r6 t0 t1 t2 t3 t4 fta => ?_, Or.inl g15.symm⟩
            rw [f_e_readBridges_x5_22_s, if_neg q, if_pos rfl, ke]
            dsimp only
            rw [if_neg c]
        obtain ⟨z1, y1, y2⟩ := ex
        obtain ⟨r, a, b, z, H, x1, x2, x3, x4, x5, x6⟩ := expect_eq (G := G1) (f := f) (c := 59) (p := z1) ⟨by rw [g15]; omega, by rw [g14, g15]; exact k1, by rw [g14]; exact p2, g18⟩ (by decide) y2
        rw [g14, g19] at x2
        refine ⟨r, 1, a, b, z, 0, G 19, z1, G 20, G 20, G1, H, arr, brr, rfl, thenS_1 x1 ?_, y1, x2, ?_, x4, x5, ?_⟩
        · rcases x6 with q | q
          · exact Or.inl q.1
          · exact Or.inr q.1
        · exact fun j hj => (x3 j (by omega)).trans (gq j (by omega))
        · rcases x6 with ⟨w1, w2, w3, w4, w5, w6⟩ | q
          · rw [g19] at w3
            rw [g15] at w5
            rw [g14] at w6
            have h20 : H 20 = G 20 := (x3 20 (by decide)).trans g20
            exact Or.inl ⟨w1, w2, w3, w4, by omega, w6, h20.symm, h1, h2, hA⟩
          · exact Or.inr q
theorem bridges_eq {G f arr brr : Nat → Int32} (hp : PS G) (h20 : G 20 = 0) : ∃ (r rb a b z a1 b1 z1 u0 : Int32) (Hb H h27 ga : Nat → Int32), f_m_takesBridges G f arr = (rb, Hb, h27) ∧ thenS f rb Hb = (r, H) ∧ (∀ r5 r6 t0 t1 t2 t3 t4, f_e_readBridges_x5 0 (G 19) (G 14) (G 15) r5 r6 f t0 t1 t2 t3 t4 brr = (a1, b1, z1, u0, ga)) ∧ (∀ r5 r6, f_e_expect_x5 a1 b1 (G 14) z1 r5 r6 f 59 = (a, b, z)) ∧ BQ G H ∧ a = H 18 ∧ b = H 19 ∧ ((r = 1 ∧ a = 0 ∧ b = G 19 ∧ z = H 15 ∧ (G 15).toInt < z.toInt ∧ z.toInt ≤ (G 14).toInt ∧ u0 = H 20 ∧ 1 ≤ u0.toInt ∧ u0.toInt ≤ 6 ∧ AG ga h27 u0.toInt 1 60) ∨ (r = 0 ∧ a ≠ 0)) := by
  obtain ⟨r, v, a, b, p, H, n1, n2, n3, n4, n5, n6⟩ := number_eq (f := f) (lo := 1) (hi := 60) hp
  obtain ⟨p0, p1, p2, p3⟩ := hp
  have hb : f_m_takesBridges G f arr = (match (f_m_takesBridges_2 f 10 1 G arr) with | Sum.inl (_, w0, w1) => ((1 : Int32), w0, w1) | Sum.inr o => o) := rfl
  have st : ∀ r5 r6 t0 t1 t2 t3 t4, f_e_readBridges_x5 0 (G 19) (G 14) (G 15) r5 r6 f t0 t1 t2 t3 t4 brr = (match (f_e_readBridges_x5_22 0 (G 19) (G 14) (G 15) r5 r6 f t0 t1 t2 t3 t4 brr 6 1 a b p 1 (putF 6 brr 0 v)) with | (w_8l2, w_8m0, w_8m1, w_8m2, w_8m3, w_8m4) => (w_8m0, w_8m1, w_8m2, w_8m3, w_8m4)) := by
    intro r5 r6 t0 t1 t2 t3 t4
    unfold f_e_readBridges_x5
    rw [n2]
    rfl
  rw [hb, f_m_takesBridges_2_s, if_neg (by decide), if_neg (by rw [h20]; decide), n1]
  dsimp only
  rcases n6 with ⟨rfl, rfl, rfl, rfl, rfl, l1, l2, l3, l4⟩ | ⟨rfl, ha⟩
  · rw [if_neg (by decide)]
    have g20 : H 20 = 0 := (n3 20 (by decide)).trans h20
    have g14 : H 14 = G 14 := n3 14 (by decide)
    rw [g20]
    have e1 : (0 + 1 : Int32) = 1 := rfl
    rw [e1]
    have a14 : (upd H 20 1) 14 = G 14 := by rw [pk_un (by decide)]; exact g14
    have a15 : (upd H 20 1) 15 = H 15 := by rw [pk_un (by decide)]
    have a18 : (upd H 20 1) 18 = 0 := by rw [pk_un (by decide)]; exact n4.symm
    have a19 : (upd H 20 1) 19 = G 19 := by rw [pk_un (by decide), ← n5]
    have a20 : (upd H 20 1) 20 = 1 := by rw [pk_us]
    have hA : AG (putF 6 brr 0 (H 17)) (upd arr (0 : Int32).toNatClampNeg (H 17)) ((0 : Int32).toInt + 1) 1 60 := AG_snoc (fun k hk => absurd hk (by rw [i_0]; omega)) (by decide) (by decide) l1 l2
    obtain ⟨r, rb, a, b, z, a1, b1, z1, u0, j, Hb, K, h27, ga, m1, m2, m3, m4, m5, m6, m7, m8⟩ := br_loop (f := f) 9 6 (upd H 20 1) (upd arr (0 : Int32).toNatClampNeg (H 17)) (putF 6 brr 0 (H 17)) ⟨by rw [a15]; omega, by rw [a15, a14]; exact l4, by rw [a14]; exact p2, a18⟩ (by rw [a20]; decide) (by rw [a20]; decide) (by rw [a20]; decide) (by rw [a20]; decide) (by rw [a20]; exact hA)
    refine ⟨r, rb, a, b, z, a1, b1, z1, u0, Hb, K, h27, ga, m1, m2, fun r5 r6 t0 t1 t2 t3 t4 => ?_, ?_, ?_, m6, m7, ?_⟩
    · have := m3 0 (G 19) (G 15) r5 r6 t0 t1 t2 t3 t4 brr
      rw [a14, a15, a19, a20] at this
      rw [st, this]
    · rw [a14] at m4
      exact m4
    · exact fun j hj => (m5 j hj).trans ((pk_un (by omega)).trans (n3 j (by omega)))
    · rcases m8 with ⟨x1, x2, x3, x4, x5, x6, x7⟩ | q
      · rw [a19] at x3
        rw [a15] at x5
        rw [a14] at x6
        exact Or.inl ⟨x1, x2, x3, x4, by omega, x6, x7⟩
      · exact Or.inr q
  · rw [if_pos rfl]
    refine ⟨0, 0, a, b, p, a, b, p, 1, H, H, arr, putF 6 brr 0 v, rfl, thenS_0, fun r5 r6 t0 t1 t2 t3 t4 => ?_, fun r5 r6 => expect_off ha, ?_, n4, n5, Or.inr ⟨rfl, ha⟩⟩
    · rw [st, f_e_readBridges_x5_22_s, if_neg (by decide), if_neg ha]
    · exact fun j hj => n3 j (by omega)
end
section
/-! couples, barges, themes, snow, side by side -/
theorem i_mul5 {c t : Int32} (h0 : 0 ≤ c.toInt) (h1 : c.toInt ≤ 5) (h2 : 0 ≤ t.toInt) (h3 : t.toInt ≤ 4) : (5 * c + t).toInt = 5 * c.toInt + t.toInt ∧ (c * 5 + t).toInt = 5 * c.toInt + t.toInt := by
  have e5 : (5 : Int32).toInt = 5 := rfl
  have e1 : (5 * c).toInt = 5 * c.toInt := by
    rw [i_mul (by rw [e5]; omega) (by rw [e5]; omega), e5]
  have e2 : (c * 5).toInt = 5 * c.toInt := by
    rw [Int32.mul_comm]
    exact e1
  constructor
  · rw [i_add (by omega) (by omega), e1]
  · rw [i_add (by omega) (by omega), e2]
theorem cp_off {r0 r1 r3 r4 r5 r6 t0 t1 t2 t3 t4 : Int32} {f fb fc : Nat → Int32} : ∀ (m : Nat) (t a b p m3 : Int32) (m4 m5 : Nat → Int32), a ≠ 0 → ∃ (j p' : Int32) (ga : Nat → Int32), f_e_readCouple_x5_22 r0 r1 r3 r4 r5 r6 f t0 t1 t2 t3 t4 fb fc m t a b p m3 m4 m5 = (j, a, b, p', m3, m4, ga) := by
  intro m
  induction m with
  | zero => intro t a b p m3 m4 m5 ha; exact ⟨t, p, m5, rfl⟩
  | succ m ih =>
    intro t a b p m3 m4 m5 ha
    rw [f_e_readCouple_x5_22_s]
    by_cases c : t1 ≤ t
    · exact ⟨t, p, m5, if_pos c⟩
    · rw [if_neg c]
      by_cases c2 : t ≤ 0
      · rw [if_pos c2, number_off ha]
        exact ih _ _ _ _ _ _ _ ha
      · rw [if_neg c2, expect_off ha]
        dsimp only
        rw [number_off ha]
        exact ih _ _ _ _ _ _ _ ha
/-- what a couple's clause has read of forces so far -/
def CF (f g : Nat → Int32) (c t : Int) : Prop := ∀ i : Nat, 5 * c ≤ i → (i : Int) < 5 * c + t → f i = g i ∧ 0 ≤ (g i).toInt ∧ (g i).toInt ≤ 9
theorem CF_snoc {f g : Nat → Int32} {x t v : Int32} {c : Int} (h : CF f g c t.toInt) (hx : x.toInt = 5 * c + t.toInt) (h0 : 0 ≤ x.toInt) (v0 : 0 ≤ v.toInt) (v1 : v.toInt ≤ 9) : CF (upd f x.toNatClampNeg v) (upd g x.toNatClampNeg v) c (t.toInt + 1) := by
  intro i h1 h2
  by_cases q : i = x.toNatClampNeg
  · subst q
    rw [pk_us, pk_us]
    exact ⟨rfl, v0, v1⟩
  · rw [pk_un q, pk_un q]
    refine h i h1 ?_
    rw [i_clamp] at q
    omega
theorem cp_loop {f : Nat → Int32} {c : Int32} (hc0 : 0 ≤ c.toInt) (hc5 : c.toInt ≤ 5) : ∀ (n m : Nat) (t : Int32) (G f28 arr brr : Nat → Int32), PS G → G 23 = c → 0 ≤ t.toInt → t.toInt ≤ (G 21).toInt → (G 21).toInt ≤ 5 → (G 21).toInt - t.toInt < n → (G 21).toInt - t.toInt < m → CF brr arr c.toInt t.toInt → ∃ (a b p j : Int32) (H ga har : Nat → Int32), (∀ r0 r1 r4 r5 r6 t0 t3 t4 fb fc m3 m4, ∃ p' ga', f_e_readCouple_x5_22 r0 r1 (G 14) r4 r5 r6 f t0 (G 21) c t3 t4 fb fc m t 0 (G 19) (G 15) m3 m4 brr = (p', a, b, ga'.1, m3, m4, ga'.2) ∧ (a = 0 → ga' = (p, ga))) ∧ PQ G H ∧ a = H 18 ∧ b = H 19 ∧ ((f_m_takesCouple_27 f n t G f28 arr = Sum.inl (j, H, f28, har) ∧ a = 0 ∧ b = G 19 ∧ p = H 15 ∧ (G 15).toInt ≤ p.toInt ∧ p.toInt ≤ (G 14).toInt ∧ CF ga har c.toInt (G 21).toInt ∧ (∀ i : Nat, (i : Int) < 5 * c.toInt → ga i = brr i ∧ har i = arr i)) ∨ (f_m_takesCouple_27 f n t G f28 arr = Sum.inr (0, H, f28, har) ∧ a ≠ 0)) := by
  intro n
  induction n with
  | zero => intro m t G f28 arr brr hp hc h0 h1 h2 h3; omega
  | succ n ih =>
    intro m t G f28 arr brr hp hc h0 h1 h2 h3 h4 hA
    cases m with
    | zero => omega
    | succ m =>
      have hp0 := hp
      obtain ⟨p0, p1, p2, p3⟩ := hp
      by_cases c1 : G 21 ≤ t
      · refine ⟨0, G 19, G 15, t, G, brr, arr, fun r0 r1 r4 r5 r6 t0 t3 t4 fb fc m3 m4 => ⟨t, (G 15, brr), ?_, fun _ => rfl⟩, PQ.refl G, p3.symm, rfl, Or.inl ⟨?_, rfl, rfl, rfl, by omega, p1, ?_, fun i hi => ⟨rfl, rfl⟩⟩⟩
        · rw [f_e_readCouple_x5_22_s, if_pos c1]
        · rw [f_m_takesCouple_27_s, if_pos c1]
        · rw [i_le] at c1
          have : t.toInt = (G 21).toInt := by omega
          rw [← this]
          exact hA
      · have d1 : t.toInt < (G 21).toInt := by
          rw [i_le] at c1
          omega
        have et := i_a1 (a := t) (by omega) (by omega)
        obtain ⟨x1, x2⟩ := i_mul5 (c := c) (t := t) hc0 hc5 h0 (by omega)
        have ex : (5 * c + t).toNatClampNeg = (c * 5 + t).toNatClampNeg := by rw [i_clamp, i_clamp, x1, x2]
        -- what follows a number that was read from state G1 (place p0')
        have key : ∀ (G1 : Nat → Int32), PS G1 → PQ G G1 → G1 19 = G 19 → (G 15).toInt ≤ (G1 15).toInt → ∃ (r v a0 b0 p0 : Int32) (u : Nat → Int32) (a b p j : Int32) (H ga har : Nat → Int32), f_m_takesNumber G1 f 0 9 = (r, u) ∧ (∀ r5 r6, f_e_number_x5 0 (G 19) (G 14) (G1 15) r5 r6 f 0 9 = (v, a0, b0, p0)) ∧ (∀ r0 r1 r4 r5 r6 t0 t3 t4 fb fc m3 m4, ∃ p' ga', f_e_readCouple_x5_22 r0 r1 (G 14) r4 r5 r6 f t0 (G 21) c t3 t4 fb fc m (t + 1) a0 b0 p0 m3 m4 (putF 30 brr ((c * 5) + t) v) = (p', a, b, ga'.1, m3, m4, ga'.2) ∧ (a = 0 → ga' = (p, ga))) ∧ PQ G H ∧ a = H 18 ∧ b = H 19 ∧ (((if r = 0 then (Sum.inr (0, u, f28, arr)) else (f_m_takesCouple_27 f n (t + 1) u f28 (upd arr (((5 * (u 23)) + t) : Int32).toNatClampNeg (u 17)))) = Sum.inl (j, H, f28, har) ∧ a = 0 ∧ b = G 19 ∧ p = H 15 ∧ (G 15).toInt ≤ p.toInt ∧ p.toInt ≤ (G 14).toInt ∧ CF ga har c.toInt (G 21).toInt ∧ (∀ i : Nat, (i : Int) < 5 * c.toInt → ga i = brr i ∧ har i = arr i)) ∨ ((if r = 0 then (Sum.inr (0, u, f28, arr)) else (f_m_takesCouple_27 f n (t + 1) u f28 (upd arr (((5 * (u 23)) + t) : Int32).toNatClampNeg (u 17)))) = Sum.inr (0, H, f28, har) ∧ a ≠ 0)) := by
          intro G1 hp1 hq1 h19 h15
          obtain ⟨r, v, a, b, p, H, n1, n2, n3, n4, n5, n6⟩ := number_eq (f := f) (lo := 0) (hi := 9) hp1
          have g14 : G1 14 = G 14 := hq1 14 (by decide)
          rw [g14, h19] at n2
          rcases n6 with ⟨rfl, rfl, rfl, rfl, rfl, l1, l2, l3, l4⟩ | ⟨rfl, ha⟩
          · have g23 : H 23 = c := (n3 23 (by decide)).trans ((hq1 23 (by decide)).trans hc)
            have g21 : H 21 = G 21 := (n3 21 (by decide)).trans (hq1 21 (by decide))
            have k14 : H 14 = G 14 := (n3 14 (by decide)).trans g14
            have k19 : H 19 = G 19 := by rw [← n5]; exact h19
            have hput : putF 30 brr ((c * 5) + t) (H 17) = upd brr (5 * c + t).toNatClampNeg (H 17) := by
              rw [put_in (by omega) (by omega), ex]
            obtain ⟨a, b, p, j, K, ga, har, m1, m2, m3, m4, m5⟩ := ih m (t + 1) H f28 (upd arr (5 * c + t).toNatClampNeg (H 17)) (upd brr (5 * c + t).toNatClampNeg (H 17)) ⟨by rw [g14] at l4; omega, by rw [k14]; rw [g14] at l4; exact l4, by rw [k14]; exact p2, n4.symm⟩ g23 (by omega) (by rw [g21]; omega) (by rw [g21]; omega) (by rw [g21]; omega) (by rw [g21]; omega) (by rw [et]; exact CF_snoc hA x1 (by omega) l1 l2)
            refine ⟨1, H 17, 0, G1 19, H 15, H, a, b, p, j, K, ga, har, n1, n2, fun r0 r1 r4 r5 r6 t0 t3 t4 fb fc m3' m4' => ?_, hq1.trans (n3.trans m2), m3, m4, ?_⟩
            · obtain ⟨p', ga', y1, y2⟩ := m1 r0 r1 r4 r5 r6 t0 t3 t4 fb fc m3' m4'
              rw [k14, g21, k19] at y1
              refine ⟨p', ga', ?_, y2⟩
              rw [hput, h19, y1]
            · rw [if_neg (by decide), g23]
              rcases m5 with ⟨y1, y2, y3, y4, y5, y6, y7, y8⟩ | q
              · rw [k19] at y3
                rw [k14] at y6
                rw [g21] at y7
                refine Or.inl ⟨y1, y2, y3, y4, by omega, y6, y7, fun i hi => ?_⟩
                obtain ⟨z1, z2⟩ := y8 i hi
                rw [pk_un (by rw [i_clamp]; omega)] at z1 z2
                exact ⟨z1, z2⟩
              · exact Or.inr q
          · refine ⟨0, v, a, b, p, H, a, b, p, 0, H, brr, arr, n1, n2, fun r0 r1 r4 r5 r6 t0 t3 t4 fb fc m3' m4' => ?_, hq1.trans n3, n4, n5, Or.inr ⟨if_pos rfl, ha⟩⟩
            obtain ⟨j, p', ga', y⟩ := cp_off (r0 := r0) (r1 := r1) (r3 := G 14) (r4 := r4) (r5 := r5) (r6 := r6) (t0 := t0) (t1 := G 21) (t2 := c) (t3 := t3) (t4 := t4) (f := f) (fb := fb) (fc := fc) m (t + 1) a b p m3' m4' (putF 30 brr ((c * 5) + t) v) ha
            exact ⟨j, (p', ga'), y, fun q => absurd q ha⟩
        by_cases c2 : t ≤ 0
        · obtain ⟨r, v, a0, b0, p0, u, a, b, p, j, H, ga, har, k1, k2, m1, m2, m3, m4, m5⟩ := key G hp0 (PQ.refl G) rfl (by omega)
          refine ⟨a, b, p, j, H, ga, har, fun r0 r1 r4 r5 r6 t0 t3 t4 fb fc m3' m4' => ?_, m2, m3, m4, ?_⟩
          · rw [f_e_readCouple_x5_22_s, if_neg c1, if_pos c2, k2]
            exact m1 r0 r1 r4 r5 r6 t0 t3 t4 fb fc m3' m4'
          · rw [f_m_takesCouple_27_s, if_neg c1, if_pos c2, k1]
            exact m5
        · obtain ⟨r, a, b, z, H, x1, x2, x3, x4, x5, x6⟩ := expect_eq (G := G) (f := f) (c := 44) (p := G 15) hp0 (by decide) (Or.inl rfl)
          rw [f_m_takesCouple_27_s, if_neg c1, if_neg c2, x1]
          dsimp only
          rcases x6 with ⟨rfl, rfl, rfl, rfl, w5, w6⟩ | ⟨rfl, ha⟩
          · rw [if_neg (by decide)]
            have k14 : H 14 = G 14 := x3 14 (by decide)
            obtain ⟨r, v, a0, b0, p0, u, a, b, p, j, K, ga, har, k1, k2, m1, m2, m3, m4, m5⟩ := key H ⟨by omega, by rw [k14]; exact w6, by rw [k14]; exact p2, x4.symm⟩ x3 x5.symm (by omega)
            rw [k1]
            dsimp only
            refine ⟨a, b, p, j, K, ga, har, fun r0 r1 r4 r5 r6 t0 t3 t4 fb fc m3' m4' => ?_, m2, m3, m4, m5⟩
            rw [f_e_readCouple_x5_22_s, if_neg c1, if_neg c2, x2]
            dsimp only
            rw [k2]
            exact m1 r0 r1 r4 r5 r6 t0 t3 t4 fb fc m3' m4'
          · rw [if_pos rfl]
            refine ⟨a, b, z, 0, H, brr, arr, fun r0 r1 r4 r5 r6 t0 t3 t4 fb fc m3' m4' => ?_, x3, x4, x5, Or.inr ⟨rfl, ha⟩⟩
            rw [f_e_readCouple_x5_22_s, if_neg c1, if_neg c2, x2]
            dsimp only
            rw [number_off ha]
            dsimp only
            obtain ⟨j, p', ga', y⟩ := cp_off (r0 := r0) (r1 := r1) (r3 := G 14) (r4 := r4) (r5 := r5) (r6 := r6) (t0 := t0) (t1 := G 21) (t2 := c) (t3 := t3) (t4 := t4) (f := f) (fb := fb) (fc := fc) m (t + 1) a b z m3' m4' (putF 30 brr ((c * 5) + t) 0) ha
            exact ⟨j, (p', ga'), y, fun q => absurd q ha⟩
/-- the sign behind a clause -/
theorem finish_eq {f H : Nat → Int32} {L a1 b1 z1 r : Int32} (hL : H 14 = L) (ha : a1 = H 18) (hb : b1 = H 19) (h : (r = 1 ∧ a1 = 0 ∧ z1 = H 15 ∧ 0 ≤ z1.toInt ∧ z1.toInt ≤ L.toInt ∧ L.toInt ≤ 240) ∨ (r = 0 ∧ a1 ≠ 0)) : ∃ (r' a b z : Int32) (K : Nat → Int32), thenS f r H = (r', K) ∧ (∀ r5 r6, f_e_expect_x5 a1 b1 L z1 r5 r6 f 59 = (a, b, z)) ∧ PQ H K ∧ a = K 18 ∧ b = K 19 ∧ ((r' = 1 ∧ a = 0 ∧ a1 = 0 ∧ b = b1 ∧ r = 1 ∧ z = K 15 ∧ (H 15).toInt < z.toInt ∧ z.toInt ≤ L.toInt) ∨ (r' = 0 ∧ a ≠ 0)) := by
  rcases h with ⟨rfl, h1, h2, h3, h4, h5⟩ | ⟨rfl, h1⟩
  · obtain ⟨r, a, b, z, K, x1, x2, x3, x4, x5, x6⟩ := expect_eq (G := H) (f := f) (c := 59) (p := z1) ⟨by rw [← h2]; exact h3, by rw [← h2, hL]; exact h4, by rw [hL]; exact h5, by rw [← ha]; exact h1⟩ (by decide) (Or.inl h2)
    rw [hL, ← hb] at x2
    refine ⟨r, a, b, z, K, thenS_1 x1 ?_, fun r5 r6 => by rw [h1]; exact x2 r5 r6, x3, x4, x5, ?_⟩
    · rcases x6 with q | q
      · exact Or.inl q.1
      · exact Or.inr q.1
    · rcases x6 with ⟨w1, w2, w3, w4, w5, w6⟩ | q
      · rw [hL] at w6
        exact Or.inl ⟨w1, w2, h1, w3.trans hb.symm, rfl, w4, w5, w6⟩
      · exact Or.inr q
  · exact ⟨0, a1, b1, z1, H, thenS_0, fun r5 r6 => expect_off h1, PQ.refl H, ha, hb, Or.inr ⟨rfl, h1⟩⟩
end
section
/-! one clause, side by side -/
theorem thenS_x {α : Type} {X : α} {f H K : Nat → Int32} {r r' : Int32} (h : thenS f r H = (r', K)) : (if r = 0 then ((0 : Int32), H, X) else (match f_m_takes H f 59 with | (r_17, u_16) => (if r_17 = 0 then ((0 : Int32), u_16, X) else ((1 : Int32), u_16, X)))) = (r', K, X) := by
  unfold thenS at h
  by_cases c : r = 0
  · rw [if_pos c] at h ⊢
    cases h
    rfl
  · rw [if_neg c] at h ⊢
    cases q : f_m_takes H f 59 with
    | mk x y =>
      rw [q] at h
      dsimp only at h ⊢
      by_cases d : x = 0
      · rw [if_pos d] at h ⊢
        cases h
        rfl
      · rw [if_neg d] at h ⊢
        cases h
        rfl
theorem couple_eq {G f f28 f29 ftb ftc : Nat → Int32} (r5 r6 t0 t3 t4 : Int32) (hp : PS G) (hc0 : 0 ≤ (G 23).toInt) (hc5 : (G 23).toInt ≤ 5) (ht0 : 0 ≤ (G 21).toInt) (ht5 : (G 21).toInt ≤ 5) (hb : AG ftb f28 (G 23).toInt 0 99) (hf : AF ftc f29 (G 23).toInt (G 21).toInt) : ∃ (r a1 b1 z1 u2 : Int32) (H h28 h29 gb gc : Nat → Int32), f_m_takesCouple G f f28 f29 = (r, H, h28, h29) ∧ f_e_readCouple_x5 0 (G 19) (G 14) (G 15) r5 r6 f t0 (G 21) (G 23) t3 t4 ftb ftc = (a1, b1, z1, u2, gb, gc) ∧ (∀ j, j < 15 ∨ 20 ≤ j → j ≠ 23 → H j = G j) ∧ a1 = H 18 ∧ b1 = H 19 ∧ ((r = 1 ∧ a1 = 0 ∧ b1 = G 19 ∧ z1 = H 15 ∧ (G 15).toInt < z1.toInt ∧ z1.toInt ≤ (G 14).toInt ∧ u2 = H 23 ∧ (H 23).toInt = (G 23).toInt + 1 ∧ AG gb h28 ((G 23).toInt + 1) 0 99 ∧ AF gc h29 ((G 23).toInt + 1) (G 21).toInt) ∨ (r = 0 ∧ a1 ≠ 0)) := by
  obtain ⟨r, v, a, b, p, H, n1, n2, n3, n4, n5, n6⟩ := number_eq (f := f) (lo := 0) (hi := 99) hp
  obtain ⟨p0, p1, p2, p3⟩ := hp
  have st : f_e_readCouple_x5 0 (G 19) (G 14) (G 15) r5 r6 f t0 (G 21) (G 23) t3 t4 ftb ftc = (match (f_e_readCouple_x5_22 0 (G 19) (G 14) (G 15) r5 r6 f t0 (G 21) (G 23) t3 t4 ftb ftc (((G 21).toInt - (0 : Int32).toInt).toNat + 1) 0 a b p (G 23) (putF 6 ftb (G 23) v) ftc) with | (w_8l3, w_8m0, w_8m1, w_8m2, w_8m3, w_8m4, w_8m5) => (w_8m0, w_8m1, w_8m2, ((G 23) + 1), w_8m4, w_8m5)) := by
    unfold f_e_readCouple_x5
    rw [n2]
  rw [st]
  unfold f_m_takesCouple
  rw [n1]
  dsimp (config := { etaStruct := .none }) only
  rcases n6 with ⟨rfl, rfl, rfl, rfl, rfl, l1, l2, l3, l4⟩ | ⟨rfl, ha⟩
  · rw [if_neg (by decide)]
    have g23 : H 23 = G 23 := n3 23 (by decide)
    have g21 : H 21 = G 21 := n3 21 (by decide)
    have g14 : H 14 = G 14 := n3 14 (by decide)
    have e23 := i_a1 (a := G 23) (by omega) (by omega)
    rw [g23]
    obtain ⟨a, b, p, j, K, ga, har, m1, m2, m3, m4, m5⟩ := cp_loop (f := f) hc0 hc5 10 (((G 21).toInt - (0 : Int32).toInt).toNat + 1) 0 H (upd f28 (G 23).toNatClampNeg (H 17)) f29 ftc ⟨by omega, by rw [g14]; exact l4, by rw [g14]; exact p2, n4.symm⟩ g23 (by decide) (by rw [g21]; exact ht0) (by rw [g21]; exact ht5) (by rw [g21, i_0]; omega) (by rw [g21, i_0]; omega) (fun i x y => by rw [i_0] at y; omega)
    obtain ⟨p', ga', y1, y2⟩ := m1 0 (G 19) (G 15) r5 r6 t0 t3 t4 ftb ftc (G 23) (putF 6 ftb (G 23) (H 17))
    rw [g14, g21, ← n5] at y1
    rw [y1]
    dsimp (config := { etaStruct := .none }) only
    have kq : ∀ j, j < 15 ∨ 20 ≤ j → j ≠ 23 → K j = G j := fun j hj _ => (m2 j hj).trans (n3 j hj)
    rcases m5 with ⟨x1, x2, x3, x4, x5, x6, x7, x8⟩ | ⟨x1, x2⟩
    · have hga := y2 x2
      rw [x1]
      dsimp (config := { etaStruct := .none }) only
      have k23 : K 23 = G 23 := (m2 23 (by decide)).trans g23
      rw [k23]
      refine ⟨1, a, b, ga'.1, G 23 + 1, upd K 23 (G 23 + 1), _, har, putF 6 ftb (G 23) (H 17), ga'.2, rfl, rfl, fun j hj hn => (pk_un hn).trans (kq j hj hn), ?_, ?_, Or.inl ⟨rfl, x2, ?_, ?_, ?_, ?_, ?_, ?_, ?_, ?_⟩⟩
      · rw [pk_un (by decide)]
        exact m3
      · rw [pk_un (by decide)]
        exact m4
      · rw [x3, ← n5]
      · rw [hga, pk_un (by decide)]
        exact x4
      · rw [hga]
        dsimp (config := { etaStruct := .none }) only
        omega
      · rw [hga]
        dsimp (config := { etaStruct := .none }) only
        rw [g14] at x6
        exact x6
      · rw [pk_us]
      · rw [pk_us, e23]
      · exact AG_snoc hb hc0 (by omega) l1 l2
      · rw [hga]
        dsimp (config := { etaStruct := .none }) only
        intro c t h1 h2
        rw [g21] at x7
        by_cases q : (c : Int) < (G 23).toInt
        · obtain ⟨z1, z2⟩ := x8 (5 * c + t) (by omega)
          rw [z1, z2]
          exact hf c t q h2
        · exact x7 (5 * c + t) (by omega) (by omega)
    · rw [x1]
      dsimp (config := { etaStruct := .none }) only
      exact ⟨0, a, b, ga'.1, G 23 + 1, K, _, har, putF 6 ftb (G 23) (H 17), ga'.2, rfl, rfl, kq, m3, m4, Or.inr ⟨rfl, x2⟩⟩
  · rw [if_pos rfl]
    obtain ⟨j, p', ga', y⟩ := cp_off (r0 := 0) (r1 := G 19) (r3 := G 14) (r4 := G 15) (r5 := r5) (r6 := r6) (t0 := t0) (t1 := G 21) (t2 := G 23) (t3 := t3) (t4 := t4) (f := f) (fb := ftb) (fc := ftc) (((G 21).toInt - (0 : Int32).toInt).toNat + 1) 0 a b p (G 23) (putF 6 ftb (G 23) v) ftc ha
    rw [y]
    dsimp (config := { etaStruct := .none }) only
    exact ⟨0, a, b, p', G 23 + 1, H, f28, f29, _, ga', rfl, rfl, fun j hj _ => n3 j hj, n4, n5, Or.inr ⟨rfl, ha⟩⟩
theorem barge_eq {G f f30 f31 ftd fte : Nat → Int32} (r5 r6 t1 t2 t4 : Int32) (hp : PS G) (hc0 : 0 ≤ (G 24).toInt) (hc5 : (G 24).toInt ≤ 6) (h20 : 1 ≤ (G 20).toInt) (h26 : (G 20).toInt ≤ 6) (hb : AG ftd f30 (G 24).toInt 0 ((G 20).toInt - 1)) (hf : AG fte f31 (G 24).toInt 1 300) : ∃ (r a1 b1 z1 u3 : Int32) (H h30 h31 gd ge : Nat → Int32), f_m_takesBarge G f f30 f31 = (r, H, h30, h31) ∧ f_e_readBarge_x5 0 (G 19) (G 14) (G 15) r5 r6 f (G 20) t1 t2 (G 24) t4 ftd fte = (a1, b1, z1, u3, gd, ge) ∧ (∀ j, j < 15 ∨ 20 ≤ j → j ≠ 24 → H j = G j) ∧ a1 = H 18 ∧ b1 = H 19 ∧ ((r = 1 ∧ a1 = 0 ∧ b1 = G 19 ∧ z1 = H 15 ∧ (G 15).toInt < z1.toInt ∧ z1.toInt ≤ (G 14).toInt ∧ u3 = H 24 ∧ (H 24).toInt = (G 24).toInt + 1 ∧ AG gd h30 ((G 24).toInt + 1) 0 ((G 20).toInt - 1) ∧ AG ge h31 ((G 24).toInt + 1) 1 300) ∨ (r = 0 ∧ a1 ≠ 0)) := by
  obtain ⟨r, v, a, b, p, H, n1, n2, n3, n4, n5, n6⟩ := number_eq (f := f) (lo := 0) (hi := G 20 - 1) hp
  obtain ⟨p0, p1, p2, p3⟩ := hp
  have es := i_sub (a := G 20) (b := 1) (by rw [i_1]; omega) (by rw [i_1]; omega)
  rw [i_1] at es
  unfold f_e_readBarge_x5 f_m_takesBarge
  rw [n1, n2]
  dsimp (config := { etaStruct := .none }) only
  rcases n6 with ⟨rfl, rfl, rfl, rfl, rfl, l1, l2, l3, l4⟩ | ⟨rfl, ha⟩
  · rw [if_neg (by decide)]
    have g24 : H 24 = G 24 := n3 24 (by decide)
    have g14 : H 14 = G 14 := n3 14 (by decide)
    have e24 := i_a1 (a := G 24) (by omega) (by omega)
    obtain ⟨r, v, a, b, p, K, m1, m2, m3, m4, m5, m6⟩ := number_eq (G := H) (f := f) (lo := 1) (hi := 300) ⟨by omega, by rw [g14]; exact l4, by rw [g14]; exact p2, n4.symm⟩
    rw [g14, ← n5] at m2
    rw [m1, m2]
    dsimp (config := { etaStruct := .none }) only
    have k24 : K 24 = G 24 := (m3 24 (by decide)).trans g24
    have kq : ∀ j, j < 15 ∨ 20 ≤ j → j ≠ 24 → K j = G j := fun j hj _ => (m3 j hj).trans (n3 j hj)
    rcases m6 with ⟨rfl, rfl, rfl, rfl, rfl, y1, y2, y3, y4⟩ | ⟨rfl, ha⟩
    · rw [if_neg (by decide), k24, g24]
      refine ⟨1, 0, H 19, K 15, G 24 + 1, upd K 24 (G 24 + 1), _, _, _, _, rfl, rfl, fun j hj hn => (pk_un hn).trans (kq j hj hn), ?_, ?_, Or.inl ⟨rfl, rfl, n5.symm, ?_, by omega, by rw [g14] at y4; exact y4, ?_, ?_, ?_, ?_⟩⟩
      · rw [pk_un (by decide)]
        exact m4
      · rw [pk_un (by decide)]
        exact m5
      · rw [pk_un (by decide)]
      · rw [pk_us]
      · rw [pk_us, e24]
      · exact AG_snoc hb hc0 (by omega) l1 (by rw [es] at l2; exact l2)
      · exact AG_snoc hf hc0 (by omega) y1 y2
    · rw [if_pos rfl]
      exact ⟨0, a, b, p, G 24 + 1, K, _, _, _, _, rfl, rfl, kq, m4, m5, Or.inr ⟨rfl, ha⟩⟩
  · rw [if_pos rfl, number_off ha]
    dsimp (config := { etaStruct := .none }) only
    exact ⟨0, a, b, p, G 24 + 1, H, _, _, _, _, rfl, rfl, fun j hj _ => n3 j hj, n4, n5, Or.inr ⟨rfl, ha⟩⟩
/-- what has been read, alike -/
def PB (G fta ftb ftc ftd fte f27 f28 f29 f30 f31 : Nat → Int32) : Prop := (0 ≤ (G 20).toInt ∧ (G 20).toInt ≤ 6) ∧ (1 ≤ (G 21).toInt ∧ (G 21).toInt ≤ 5) ∧ (0 ≤ (G 23).toInt ∧ (G 23).toInt ≤ 6) ∧ (0 ≤ (G 24).toInt ∧ (G 24).toInt ≤ 7) ∧ (0 ≤ (G 25).toInt ∧ (G 25).toInt ≤ 1) ∧ ((G 20).toInt = 0 → (G 23).toInt = 0 ∧ (G 24).toInt = 0) ∧ AG fta f27 (G 20).toInt 1 60 ∧ AG ftb f28 (G 23).toInt 0 99 ∧ AF ftc f29 (G 23).toInt (G 21).toInt ∧ AG ftd f30 (G 24).toInt 0 ((G 20).toInt - 1) ∧ AG fte f31 (G 24).toInt 1 300
def CQ (G H : Nat → Int32) : Prop := ∀ j, j < 15 ∨ 27 ≤ j → H j = G j
def CLQ (G f fta ftb ftc ftd fte f27 f28 f29 f30 f31 : Nat → Int32) : Prop := ∃ (r a b z s5 s6 u0 u1 u2 u3 u4 : Int32) (H h27 h28 h29 h30 h31 ga gb gc gd ge : Nat → Int32), f_m_takesClause G f f27 f28 f29 f30 f31 = (r, H, h27, h28, h29, h30, h31) ∧ f_e_readClause_x5 0 (G 19) (G 14) (G 15) (G 22) (G 26) f (G 20) (G 21) (G 23) (G 24) (G 25) fta ftb ftc ftd fte = (a, b, z, s5, s6, u0, u1, u2, u3, u4, ga, gb, gc, gd, ge) ∧ CQ G H ∧ a = H 18 ∧ b = H 19 ∧ ((r = 1 ∧ a = 0 ∧ b = G 19 ∧ z = H 15 ∧ (G 15).toInt < z.toInt ∧ z.toInt ≤ (G 14).toInt ∧ s5 = H 22 ∧ s6 = H 26 ∧ u0 = H 20 ∧ u1 = H 21 ∧ u2 = H 23 ∧ u3 = H 24 ∧ u4 = H 25 ∧ PB H ga gb gc gd ge h27 h28 h29 h30 h31) ∨ (r = 0 ∧ a ≠ 0))
set_option maxHeartbeats 20000000 in
theorem clause_eq {G f fta ftb ftc ftd fte f27 f28 f29 f30 f31 : Nat → Int32} (hp : PS G) (hB : PB G fta ftb ftc ftd fte f27 f28 f29 f30 f31) : CLQ G f fta ftb ftc ftd fte f27 f28 f29 f30 f31 := by
  obtain ⟨p0, p1, p2, p3⟩ := hp
  obtain ⟨k, k0, k1, k2, km, ke⟩ := here_spec (f := f) p0 p1 p2
  have u15 : (upd (upd G 15 k) 16 k) 15 = k := by rw [pk_un (by decide), pk_us]
  have u16 : (upd (upd G 15 k) 16 k) 16 = k := by rw [pk_us]
  have uq : PQ G (upd (upd G 15 k) 16 k) := PQ_upd (PQ_upd (PQ.refl G) (by decide) (by decide)) (by decide) (by decide)
  have u18 : (upd (upd G 15 k) 16 k) 18 = 0 := by rw [pk_un (by decide), pk_un (by decide)]; exact p3
  have u19 : (upd (upd G 15 k) 16 k) 19 = G 19 := by rw [pk_un (by decide), pk_un (by decide)]
  generalize upd (upd G 15 k) 16 k = U at km u15 u16 uq u18 u19
  have u14 := uq 14 (by decide)
  have u20 := uq 20 (by decide)
  have u21 := uq 21 (by decide)
  have u22 := uq 22 (by decide)
  have u23 := uq 23 (by decide)
  have u24 := uq 24 (by decide)
  have u25 := uq 25 (by decide)
  have u26 := uq 26 (by decide)
  have bad : ∀ w : Int32, w ≠ 0 → f_m_takesClause G f f27 f28 f29 f30 f31 = (0, upd (upd U 18 w) 19 k, f27, f28, f29, f30, f31) → f_e_readClause_x5 0 (G 19) (G 14) (G 15) (G 22) (G 26) f (G 20) (G 21) (G 23) (G 24) (G 25) fta ftb ftc ftd fte = (w, k, k, G 22, G 26, G 20, G 21, G 23, G 24, G 25, fta, ftb, ftc, ftd, fte) → CLQ G f fta ftb ftc ftd fte f27 f28 f29 f30 f31 := by
    intro w hw e1 e2
    refine ⟨0, w, k, k, _, _, _, _, _, _, _, _, _, _, _, _, _, _, _, _, _, _, e1, e2, ?_, ?_, ?_, Or.inr ⟨rfl, hw⟩⟩
    · exact fun j hj => (pk_un (by omega)).trans ((pk_un (by omega)).trans (uq j (by omega)))
    · rw [pk_un (by decide), pk_us]
    · rw [pk_us]
  obtain ⟨⟨b1, b2⟩, ⟨b3, b4⟩, ⟨b5, b6⟩, ⟨b7, b8⟩, ⟨b9, b10⟩, b11, b12, b13, b14, b15, b16⟩ := hB
  have l0 : G 20 ≤ 0 ↔ G 20 = 0 := by
    rw [i_le, i_eq, i_0]
    omega
  -- the reader behind the word
  have word : ∀ c : Int32, c ≠ -1 → ltr (G 14) f k = c → PS (upd U 15 (k + 1)) ∧ (upd U 15 (k + 1)) 15 = k + 1 ∧ (k + 1).toInt = k.toInt + 1 ∧ PQ G (upd U 15 (k + 1)) ∧ (upd U 15 (k + 1)) 19 = G 19 := by
    intro c hc e
    have hlt := ltr_lt e hc
    have e1 := i_a1 (a := k) (by omega) (by omega)
    refine ⟨⟨by rw [pk_us]; omega, by rw [pk_us, pk_un (by decide), u14]; omega, by rw [pk_un (by decide), u14]; exact p2, by rw [pk_un (by decide)]; exact u18⟩, pk_us, e1, PQ_upd uq (by decide) (by decide), ?_⟩
    rw [pk_un (by decide)]
    exact u19
  by_cases c98 : ltr (G 14) f k = 98
  · by_cases z20 : G 20 = 0
    · obtain ⟨w1, w2, w3, w4, w5⟩ := word 98 (by decide) c98
      have w14 := w4 14 (by decide)
      have w20 : (upd U 15 (k + 1)) 20 = 0 := (w4 20 (by decide)).trans z20
      generalize hW : upd U 15 (k + 1) = W at w1 w2 w4 w5 w14 w20
      obtain ⟨r, rb, a, b, z, a1, b1, z1, v0, Hb, H, h27, ga, m1, m2, m3, m4, m5, m6, m7, m8⟩ := bridges_eq (f := f) (arr := f27) (brr := fta) w1 w20
      rw [w14, w2, w5] at m3
      rw [w14] at m4
      have hm : f_m_takesClause G f f27 f28 f29 f30 f31 = (r, H, h27, f28, f29, f30, f31) := by
        unfold f_m_takesClause
        rw [km]
        dsimp (config := { etaStruct := .none }) only
        rw [if_pos c98, u20, if_pos (l0.mpr z20), u15, hW, m1]
        exact thenS_x m2
      have he : f_e_readClause_x5 0 (G 19) (G 14) (G 15) (G 22) (G 26) f (G 20) (G 21) (G 23) (G 24) (G 25) fta ftb ftc ftd fte = (a, b, z, G 22, G 26, v0, G 21, G 23, G 24, G 25, ga, ftb, ftc, ftd, fte) := by
        have t1 : f_e_isTooOften_x5 0 (G 19) (G 14) k (G 22) (G 26) (G 20) (G 21) (G 23) (G 24) (G 25) 98 = 0 := by
          unfold f_e_isTooOften_x5
          rw [if_pos rfl, if_pos (l0.mpr z20)]
        unfold f_e_readClause_x5
        rw [ke]
        dsimp (config := { etaStruct := .none }) only
        rw [if_pos c98, if_pos z20, if_pos t1, m3]
        dsimp (config := { etaStruct := .none }) only
        rw [m4]
      have hq : CQ G H := fun j hj => (m5 j (by omega)).trans (w4 j (by omega))
      refine ⟨r, a, b, z, _, _, _, _, _, _, _, H, _, _, _, _, _, _, _, _, _, _, hm, he, hq, m6, m7, ?_⟩
      rcases m8 with ⟨x1, x2, x3, x4, x5, x6, x7, x8, x9, x10⟩ | q
      · have q21 : H 21 = G 21 := (m5 21 (by decide)).trans (w4 21 (by decide))
        have q22 : H 22 = G 22 := (m5 22 (by decide)).trans (w4 22 (by decide))
        have q23 : H 23 = G 23 := (m5 23 (by decide)).trans (w4 23 (by decide))
        have q24 : H 24 = G 24 := (m5 24 (by decide)).trans (w4 24 (by decide))
        have q25 : H 25 = G 25 := (m5 25 (by decide)).trans (w4 25 (by decide))
        have q26 : H 26 = G 26 := (m5 26 (by decide)).trans (w4 26 (by decide))
        have z0 := b11 (by rw [z20, i_0])
        rw [w5] at x3
        rw [w2] at x5
        rw [w14] at x6
        refine Or.inl ⟨x1, x2, x3, x4, by omega, x6, q22.symm, q26.symm, x7, q21.symm, q23.symm, q24.symm, q25.symm, ?_⟩
        unfold PB
        rw [← x7, q21, q23, q24, q25]
        exact ⟨⟨by omega, x9⟩, ⟨b3, b4⟩, ⟨b5, b6⟩, ⟨b7, b8⟩, ⟨b9, b10⟩, fun _ => z0, x10, b13, b14, fun j hj => by rw [z0.2] at hj; omega, b16⟩
      · exact Or.inr q
    · refine bad 3 (by decide) ?_ ?_
      · unfold f_m_takesClause
        rw [km]
        dsimp (config := { etaStruct := .none }) only
        rw [if_pos c98, u20, if_neg (fun q => z20 (l0.mp q)), u16]
        rfl
      · have t1 : ¬ f_e_isTooOften_x5 0 (G 19) (G 14) k (G 22) (G 26) (G 20) (G 21) (G 23) (G 24) (G 25) 98 = 0 := by
          unfold f_e_isTooOften_x5
          rw [if_pos rfl, if_neg (fun q => z20 (l0.mp q))]
          decide
        unfold f_e_readClause_x5
        rw [ke]
        dsimp (config := { etaStruct := .none }) only
        rw [if_pos c98, if_neg z20, if_neg t1]
        rfl
  · by_cases z20 : G 20 = 0
    · refine bad 1 (by decide) ?_ ?_
      · unfold f_m_takesClause
        rw [km]
        dsimp (config := { etaStruct := .none }) only
        rw [if_neg c98, u20, if_pos (l0.mpr z20), u16]
        rfl
      · unfold f_e_readClause_x5
        rw [ke]
        dsimp (config := { etaStruct := .none }) only
        rw [if_neg c98]
        by_cases c116 : ltr (G 14) f k = 116
        · rw [if_pos c116, if_pos z20]
          rfl
        · rw [if_neg c116]
          by_cases c99 : ltr (G 14) f k = 99
          · rw [if_pos c99, if_pos z20]
            rfl
          · rw [if_neg c99]
            by_cases c118 : ltr (G 14) f k = 118
            · rw [if_pos c118, if_pos z20]
              rfl
            · rw [if_neg c118]
              by_cases c115 : ltr (G 14) f k = 115
              · rw [if_pos c115, if_pos z20]
                rfl
              · rw [if_neg c115]
                rfl
    · have n20 : ¬ U 20 ≤ 0 := by
        rw [u20]
        exact fun q => z20 (l0.mp q)
      have one20 : 1 ≤ (G 20).toInt := by
        rw [i_eq, i_0] at z20
        omega
      have b15' := b15
      by_cases c116 : ltr (G 14) f k = 116
      · have t0 : f_e_isTooOften_x5 0 (G 19) (G 14) k (G 22) (G 26) (G 20) (G 21) (G 23) (G 24) (G 25) 116 = (if G 22 = 0 then (if G 23 ≤ 0 then 0 else 1) else 1) := by
          unfold f_e_isTooOften_x5
          rw [if_neg (by decide), if_neg (by decide), if_pos rfl]
        by_cases z22 : G 22 = 0
        · by_cases z23 : G 23 ≤ 0
          · obtain ⟨w1, w2, w3, w4, w5⟩ := word 116 (by decide) c116
            have w14 := w4 14 (by decide)
            generalize hW : upd U 15 (k + 1) = W at w1 w2 w4 w5 w14
            have w1' : PS (upd W 22 1) := ⟨by rw [pk_un (by decide)]; exact w1.1, by rw [pk_un (by decide), pk_un (by decide)]; exact w1.2.1, by rw [pk_un (by decide)]; exact w1.2.2.1, by rw [pk_un (by decide)]; exact w1.2.2.2⟩
            have v14 : (upd W 22 1) 14 = G 14 := by rw [pk_un (by decide)]; exact w14
            have v15 : (upd W 22 1) 15 = k + 1 := by rw [pk_un (by decide)]; exact w2
            have v19 : (upd W 22 1) 19 = G 19 := by rw [pk_un (by decide)]; exact w5
            have v22 : (upd W 22 1) 22 = 1 := pk_us
            have vq : ∀ j, j < 15 ∨ 20 ≤ j → j ≠ 22 → (upd W 22 1) j = G j := fun j hj hn => (pk_un hn).trans (w4 j hj)
            generalize hV : upd W 22 1 = V at w1' v14 v15 v19 v22 vq
            obtain ⟨r, v, a, b, p, H, n1, n2, n3, n4, n5, n6⟩ := number_eq (f := f) (lo := 1) (hi := 5) w1'
            rw [v14, v15, v19] at n2
            have tm : ∃ rt K, f_m_takesThemes W f = (rt, K) ∧ ((rt = 1 ∧ r = 1 ∧ K = upd H 21 (H 17)) ∨ (rt = 0 ∧ r = 0 ∧ K = H)) := by
              unfold f_m_takesThemes
              rw [hV, n1]
              dsimp (config := { etaStruct := .none }) only
              rcases n6 with q | q
              · rw [if_neg (by rw [q.1]; decide)]
                exact ⟨1, _, rfl, Or.inl ⟨rfl, q.1, rfl⟩⟩
              · rw [if_pos q.1]
                exact ⟨0, _, rfl, Or.inr ⟨rfl, q.1, rfl⟩⟩
            obtain ⟨rt, K, y1, y2⟩ := tm
            have fk : K 14 = G 14 ∧ K 18 = H 18 ∧ K 19 = H 19 ∧ K 15 = H 15 := by
              have hh14 : H 14 = G 14 := (n3 14 (by decide)).trans v14
              rcases y2 with ⟨_, _, rfl⟩ | ⟨_, _, rfl⟩
              · exact ⟨by rw [pk_un (by decide)]; exact hh14, by rw [pk_un (by decide)], by rw [pk_un (by decide)], by rw [pk_un (by decide)]⟩
              · exact ⟨hh14, rfl, rfl, rfl⟩
            obtain ⟨r', a', b', z', K', g1, g2, g3, g4, g5, g6⟩ := finish_eq (f := f) (H := K) (L := G 14) (a1 := a) (b1 := b) (z1 := p) (r := rt) fk.1 (by rw [fk.2.1]; exact n4) (by rw [fk.2.2.1]; exact n5) (by
              rcases n6 with ⟨q1, q2, q3, q4, q5, q6, q7, q8, q9⟩ | ⟨q1, q2⟩
              · rcases y2 with ⟨e1, e2, e3⟩ | ⟨e1, e2, e3⟩
                · rw [v15] at q8
                  rw [v14] at q9
                  exact Or.inl ⟨e1, q2, by rw [fk.2.2.2]; exact q4, by omega, q9, p2⟩
                · rw [q1] at e2
                  exact absurd e2 (by decide)
              · rcases y2 with ⟨e1, e2, e3⟩ | ⟨e1, e2, e3⟩
                · rw [q1] at e2
                  exact absurd e2 (by decide)
                · exact Or.inr ⟨e1, q2⟩)
            have hm : f_m_takesClause G f f27 f28 f29 f30 f31 = (r', K', f27, f28, f29, f30, f31) := by
              unfold f_m_takesClause
              rw [km]
              dsimp (config := { etaStruct := .none }) only
              rw [if_neg c98, if_neg n20, if_pos c116, u22, if_pos z22, u23, if_pos z23, u15, hW, y1]
              exact thenS_x g1
            have he : f_e_readClause_x5 0 (G 19) (G 14) (G 15) (G 22) (G 26) f (G 20) (G 21) (G 23) (G 24) (G 25) fta ftb ftc ftd fte = (a', b', z', 1, G 26, G 20, v, G 23, G 24, G 25, fta, ftb, ftc, ftd, fte) := by
              unfold f_e_readClause_x5
              rw [ke]
              dsimp (config := { etaStruct := .none }) only
              rw [if_neg c98, if_pos c116, if_neg z20, t0, if_pos z22, if_pos z23, if_pos rfl, n2]
              dsimp (config := { etaStruct := .none }) only
              rw [g2]
            have kq : ∀ j, j < 15 ∨ 20 ≤ j → j ≠ 21 → j ≠ 22 → K' j = G j := by
              intro j hj h1 h2
              rw [g3 j hj]
              rcases y2 with ⟨_, _, rfl⟩ | ⟨_, _, rfl⟩
              · rw [pk_un h1, n3 j hj, vq j hj h2]
              · rw [n3 j hj, vq j hj h2]
            refine ⟨r', a', b', z', _, _, _, _, _, _, _, K', _, _, _, _, _, _, _, _, _, _, hm, he, fun j hj => kq j (by omega) (by omega) (by omega), g4, g5, ?_⟩
            rcases g6 with ⟨x1, x2, x3, x4, x5, x6, x7, x8⟩ | q
            · rcases n6 with ⟨q1, q2, q3, q4, q5, q6, q7, q8, q9⟩ | ⟨q1, q2⟩
              · rcases y2 with ⟨e1, e2, e3⟩ | ⟨e1, e2, e3⟩
                · have k21 : K' 21 = v := by rw [g3 21 (by decide), e3, pk_us, q5]
                  have k22 : K' 22 = 1 := by rw [g3 22 (by decide), e3, pk_un (by decide), n3 22 (by decide), v22]
                  have k20 := kq 20 (by decide) (by decide) (by decide)
                  have k23 := kq 23 (by decide) (by decide) (by decide)
                  have k24 := kq 24 (by decide) (by decide) (by decide)
                  have k25 := kq 25 (by decide) (by decide) (by decide)
                  have k26 := kq 26 (by decide) (by decide) (by decide)
                  rw [v15] at q8
                  rw [fk.2.2.2, ← q4] at x7
                  rw [i_le, i_0] at z23
                  refine Or.inl ⟨x1, x2, by rw [x4, q3, v19], x6, by omega, x8, k22.symm, k26.symm, k20.symm, k21.symm, k23.symm, k24.symm, k25.symm, ?_⟩
                  unfold PB
                  rw [k20, k21, k23, k24, k25]
                  exact ⟨⟨b1, b2⟩, ⟨q6, q7⟩, ⟨b5, b6⟩, ⟨b7, b8⟩, ⟨b9, b10⟩, b11, b12, b13, fun c t hc _ => by omega, b15, b16⟩
                · rw [q1] at e2
                  exact absurd e2 (by decide)
              · exact absurd x3 q2
            · exact Or.inr q
          · refine bad 3 (by decide) ?_ ?_
            · unfold f_m_takesClause
              rw [km]
              dsimp (config := { etaStruct := .none }) only
              rw [if_neg c98, if_neg n20, if_pos c116, u22, if_pos z22, u23, if_neg z23, u16]
              rfl
            · unfold f_e_readClause_x5
              rw [ke]
              dsimp (config := { etaStruct := .none }) only
              rw [if_neg c98, if_pos c116, if_neg z20, t0, if_pos z22, if_neg z23, if_neg (by decide)]
              rfl
        · refine bad 3 (by decide) ?_ ?_
          · unfold f_m_takesClause
            rw [km]
            dsimp (config := { etaStruct := .none }) only
            rw [if_neg c98, if_neg n20, if_pos c116, u22, if_neg z22, u16]
            rfl
          · unfold f_e_readClause_x5
            rw [ke]
            dsimp (config := { etaStruct := .none }) only
            rw [if_neg c98, if_pos c116, if_neg z20, t0, if_neg z22, if_neg (by decide)]
            rfl
      · by_cases c99 : ltr (G 14) f k = 99
        · have t0 : f_e_isTooOften_x5 0 (G 19) (G 14) k (G 22) (G 26) (G 20) (G 21) (G 23) (G 24) (G 25) 99 = (if G 23 < 6 then 0 else 1) := by
            unfold f_e_isTooOften_x5
            rw [if_neg (by decide), if_pos rfl]
          by_cases z23 : G 23 = 6
          · have z23' : ¬ G 23 < 6 := by rw [z23]; decide
            refine bad 3 (by decide) ?_ ?_
            · unfold f_m_takesClause
              rw [km]
              dsimp (config := { etaStruct := .none }) only
              rw [if_neg c98, if_neg n20, if_neg c116, if_pos c99, u23, if_pos z23, u16]
              rfl
            · unfold f_e_readClause_x5
              rw [ke]
              dsimp (config := { etaStruct := .none }) only
              rw [if_neg c98, if_neg c116, if_pos c99, if_neg z20, t0, if_neg z23', if_neg (by decide)]
              rfl
          · have z23' : G 23 < 6 := by
              rw [i_eq] at z23
              rw [i_lt]
              simp only [Int32.reduceToInt] at z23 ⊢
              omega
            have z23i : (G 23).toInt ≤ 5 := by
              rw [i_lt] at z23'
              simp only [Int32.reduceToInt] at z23'
              omega
            obtain ⟨w1, w2, w3, w4, w5⟩ := word 99 (by decide) c99
            have w14 := w4 14 (by decide)
            have w21 := w4 21 (by decide)
            have w23 := w4 23 (by decide)
            generalize hW : upd U 15 (k + 1) = W at w1 w2 w4 w5 w14 w21 w23
            obtain ⟨r, a1, b1', z1, v2, H, h28, h29, gb, gc, y1, y2, y3, y4, y5, y6⟩ := couple_eq (f := f) (f28 := f28) (f29 := f29) (ftb := ftb) (ftc := ftc) (G 22) (G 26) (G 20) (G 24) (G 25) w1 (by rw [w23]; exact b5) (by rw [w23]; exact z23i) (by rw [w21]; omega) (by rw [w21]; exact b4) (by rw [w23]; exact b13) (by rw [w23, w21]; exact b14)
            rw [w14, w2, w5, w21, w23] at y2
            have h14 : H 14 = G 14 := (y3 14 (by decide) (by decide)).trans w14
            obtain ⟨r', a', b', z', K', g1, g2, g3, g4, g5, g6⟩ := finish_eq (f := f) (H := H) (L := G 14) (a1 := a1) (b1 := b1') (z1 := z1) (r := r) h14 y4 y5 (by
              rcases y6 with ⟨q1, q2, q3, q4, q5, q6, q7⟩ | q
              · rw [w2] at q5
                rw [w14] at q6
                exact Or.inl ⟨q1, q2, q4, by omega, q6, p2⟩
              · exact Or.inr q)
            have hm : f_m_takesClause G f f27 f28 f29 f30 f31 = (r', K', f27, h28, h29, f30, f31) := by
              unfold f_m_takesClause
              rw [km]
              dsimp (config := { etaStruct := .none }) only
              rw [if_neg c98, if_neg n20, if_neg c116, if_pos c99, u23, if_neg z23, u15, hW, y1]
              exact thenS_x g1
            have he : f_e_readClause_x5 0 (G 19) (G 14) (G 15) (G 22) (G 26) f (G 20) (G 21) (G 23) (G 24) (G 25) fta ftb ftc ftd fte = (a', b', z', G 22, G 26, G 20, G 21, v2, G 24, G 25, fta, gb, gc, ftd, fte) := by
              unfold f_e_readClause_x5
              rw [ke]
              dsimp (config := { etaStruct := .none }) only
              rw [if_neg c98, if_neg c116, if_pos c99, if_neg z20, t0, if_pos z23', if_pos rfl, y2]
              dsimp (config := { etaStruct := .none }) only
              rw [g2]
            have kq : ∀ j, j < 15 ∨ 20 ≤ j → j ≠ 23 → K' j = G j := fun j hj hn => (g3 j hj).trans ((y3 j hj hn).trans (w4 j hj))
            refine ⟨r', a', b', z', _, _, _, _, _, _, _, K', _, _, _, _, _, _, _, _, _, _, hm, he, fun j hj => kq j (by omega) (by omega), g4, g5, ?_⟩
            rcases g6 with ⟨x1, x2, x3, x4, x5, x6, x7, x8⟩ | q
            · rcases y6 with ⟨q1, q2, q3, q4, q5, q6, q7, q8, q9, q10⟩ | ⟨q1, q2⟩
              · have k23 : K' 23 = H 23 := g3 23 (by decide)
                have k20 := kq 20 (by decide) (by decide)
                have k21 := kq 21 (by decide) (by decide)
                have k22 := kq 22 (by decide) (by decide)
                have k24 := kq 24 (by decide) (by decide)
                have k25 := kq 25 (by decide) (by decide)
                have k26 := kq 26 (by decide) (by decide)
                rw [w2] at q5
                rw [← q4] at x7
                refine Or.inl ⟨x1, x2, by rw [x4, q3, w5], x6, by omega, x8, k22.symm, k26.symm, k20.symm, k21.symm, by rw [k23]; exact q7, k24.symm, k25.symm, ?_⟩
                rw [w23] at q8 q9 q10
                rw [w21] at q10
                unfold PB
                rw [k20, k21, k23, k24, k25, q8]
                exact ⟨⟨b1, b2⟩, ⟨b3, b4⟩, ⟨by omega, by omega⟩, ⟨b7, b8⟩, ⟨b9, b10⟩, fun q => by omega, b12, q9, q10, b15, b16⟩
              · exact absurd x3 q2
            · exact Or.inr q
        · by_cases c118 : ltr (G 14) f k = 118
          · have t0 : f_e_isTooOften_x5 0 (G 19) (G 14) k (G 22) (G 26) (G 20) (G 21) (G 23) (G 24) (G 25) 118 = (if G 24 < 7 then 0 else 1) := by
              unfold f_e_isTooOften_x5
              rw [if_neg (by decide), if_neg (by decide), if_neg (by decide), if_pos rfl]
            by_cases z24 : G 24 = 7
            · have z24' : ¬ G 24 < 7 := by rw [z24]; decide
              refine bad 3 (by decide) ?_ ?_
              · unfold f_m_takesClause
                rw [km]
                dsimp (config := { etaStruct := .none }) only
                rw [if_neg c98, if_neg n20, if_neg c116, if_neg c99, if_pos c118, u24, if_pos z24, u16]
                rfl
              · unfold f_e_readClause_x5
                rw [ke]
                dsimp (config := { etaStruct := .none }) only
                rw [if_neg c98, if_neg c116, if_neg c99, if_pos c118, if_neg z20, t0, if_neg z24', if_neg (by decide)]
                rfl
            · have z24' : G 24 < 7 := by
                rw [i_eq] at z24
                rw [i_lt]
                simp only [Int32.reduceToInt] at z24 ⊢
                omega
              have z24i : (G 24).toInt ≤ 6 := by
                rw [i_lt] at z24'
                simp only [Int32.reduceToInt] at z24'
                omega
              obtain ⟨w1, w2, w3, w4, w5⟩ := word 118 (by decide) c118
              have w14 := w4 14 (by decide)
              have w20 := w4 20 (by decide)
              have w24 := w4 24 (by decide)
              generalize hW : upd U 15 (k + 1) = W at w1 w2 w4 w5 w14 w20 w24
              obtain ⟨r, a1, b1', z1, v3, H, h30, h31, gd, ge, y1, y2, y3, y4, y5, y6⟩ := barge_eq (f := f) (f30 := f30) (f31 := f31) (ftd := ftd) (fte := fte) (G 22) (G 26) (G 21) (G 23) (G 25) w1 (by rw [w24]; exact b7) (by rw [w24]; exact z24i) (by rw [w20]; exact one20) (by rw [w20]; exact b2) (by rw [w24, w20]; exact b15) (by rw [w24]; exact b16)
              rw [w14, w2, w5, w20, w24] at y2
              have h14 : H 14 = G 14 := (y3 14 (by decide) (by decide)).trans w14
              obtain ⟨r', a', b', z', K', g1, g2, g3, g4, g5, g6⟩ := finish_eq (f := f) (H := H) (L := G 14) (a1 := a1) (b1 := b1') (z1 := z1) (r := r) h14 y4 y5 (by
                rcases y6 with ⟨q1, q2, q3, q4, q5, q6, q7⟩ | q
                · rw [w2] at q5
                  rw [w14] at q6
                  exact Or.inl ⟨q1, q2, q4, by omega, q6, p2⟩
                · exact Or.inr q)
              have hm : f_m_takesClause G f f27 f28 f29 f30 f31 = (r', K', f27, f28, f29, h30, h31) := by
                unfold f_m_takesClause
                rw [km]
                dsimp (config := { etaStruct := .none }) only
                rw [if_neg c98, if_neg n20, if_neg c116, if_neg c99, if_pos c118, u24, if_neg z24, u15, hW, y1]
                exact thenS_x g1
              have he : f_e_readClause_x5 0 (G 19) (G 14) (G 15) (G 22) (G 26) f (G 20) (G 21) (G 23) (G 24) (G 25) fta ftb ftc ftd fte = (a', b', z', G 22, G 26, G 20, G 21, G 23, v3, G 25, fta, ftb, ftc, gd, ge) := by
                unfold f_e_readClause_x5
                rw [ke]
                dsimp (config := { etaStruct := .none }) only
                rw [if_neg c98, if_neg c116, if_neg c99, if_pos c118, if_neg z20, t0, if_pos z24', if_pos rfl, y2]
                dsimp (config := { etaStruct := .none }) only
                rw [g2]
              have kq : ∀ j, j < 15 ∨ 20 ≤ j → j ≠ 24 → K' j = G j := fun j hj hn => (g3 j hj).trans ((y3 j hj hn).trans (w4 j hj))
              refine ⟨r', a', b', z', _, _, _, _, _, _, _, K', _, _, _, _, _, _, _, _, _, _, hm, he, fun j hj => kq j (by omega) (by omega), g4, g5, ?_⟩
              rcases g6 with ⟨x1, x2, x3, x4, x5, x6, x7, x8⟩ | q
              · rcases y6 with ⟨q1, q2, q3, q4, q5, q6, q7, q8, q9, q10⟩ | ⟨q1, q2⟩
                · have k24 : K' 24 = H 24 := g3 24 (by decide)
                  have k20 := kq 20 (by decide) (by decide)
                  have k21 := kq 21 (by decide) (by decide)
                  have k22 := kq 22 (by decide) (by decide)
                  have k23 := kq 23 (by decide) (by decide)
                  have k25 := kq 25 (by decide) (by decide)
                  have k26 := kq 26 (by decide) (by decide)
                  rw [w2] at q5
                  rw [← q4] at x7
                  refine Or.inl ⟨x1, x2, by rw [x4, q3, w5], x6, by omega, x8, k22.symm, k26.symm, k20.symm, k21.symm, k23.symm, by rw [k24]; exact q7, k25.symm, ?_⟩
                  rw [w24] at q8 q9 q10
                  rw [w20] at q9
                  unfold PB
                  rw [k20, k21, k23, k24, k25, q8]
                  exact ⟨⟨b1, b2⟩, ⟨b3, b4⟩, ⟨b5, b6⟩, ⟨by omega, by omega⟩, ⟨b9, b10⟩, fun q => by omega, b12, b13, b14, q9, q10⟩
                · exact absurd x3 q2
              · exact Or.inr q
          · by_cases c115 : ltr (G 14) f k = 115
            · have t0 : f_e_isTooOften_x5 0 (G 19) (G 14) k (G 22) (G 26) (G 20) (G 21) (G 23) (G 24) (G 25) 115 = G 26 := by
                unfold f_e_isTooOften_x5
                rw [if_neg (by decide), if_neg (by decide), if_neg (by decide), if_neg (by decide)]
              by_cases z26 : G 26 = 0
              · obtain ⟨w1, w2, w3, w4, w5⟩ := word 115 (by decide) c115
                have w14 := w4 14 (by decide)
                generalize hW : upd U 15 (k + 1) = W at w1 w2 w4 w5 w14
                have w1' : PS (upd W 26 1) := ⟨by rw [pk_un (by decide)]; exact w1.1, by rw [pk_un (by decide), pk_un (by decide)]; exact w1.2.1, by rw [pk_un (by decide)]; exact w1.2.2.1, by rw [pk_un (by decide)]; exact w1.2.2.2⟩
                have v14 : (upd W 26 1) 14 = G 14 := by rw [pk_un (by decide)]; exact w14
                have v15 : (upd W 26 1) 15 = k + 1 := by rw [pk_un (by decide)]; exact w2
                have v19 : (upd W 26 1) 19 = G 19 := by rw [pk_un (by decide)]; exact w5
                have v26 : (upd W 26 1) 26 = 1 := pk_us
                have vq : ∀ j, j < 15 ∨ 20 ≤ j → j ≠ 26 → (upd W 26 1) j = G j := fun j hj hn => (pk_un hn).trans (w4 j hj)
                generalize hV : upd W 26 1 = V at w1' v14 v15 v19 v26 vq
                obtain ⟨r, v, a, b, p, H, n1, n2, n3, n4, n5, n6⟩ := number_eq (f := f) (lo := 0) (hi := 1) w1'
                rw [v14, v15, v19] at n2
                have tm : ∃ rt K, f_m_takesSnow W f = (rt, K) ∧ ((rt = 1 ∧ r = 1 ∧ K = upd H 25 (H 17)) ∨ (rt = 0 ∧ r = 0 ∧ K = H)) := by
                  unfold f_m_takesSnow
                  rw [hV, n1]
                  dsimp (config := { etaStruct := .none }) only
                  rcases n6 with q | q
                  · rw [if_neg (by rw [q.1]; decide)]
                    exact ⟨1, _, rfl, Or.inl ⟨rfl, q.1, rfl⟩⟩
                  · rw [if_pos q.1]
                    exact ⟨0, _, rfl, Or.inr ⟨rfl, q.1, rfl⟩⟩
                obtain ⟨rt, K, y1, y2⟩ := tm
                have fk : K 14 = G 14 ∧ K 18 = H 18 ∧ K 19 = H 19 ∧ K 15 = H 15 := by
                  have hh14 : H 14 = G 14 := (n3 14 (by decide)).trans v14
                  rcases y2 with ⟨_, _, rfl⟩ | ⟨_, _, rfl⟩
                  · exact ⟨by rw [pk_un (by decide)]; exact hh14, by rw [pk_un (by decide)], by rw [pk_un (by decide)], by rw [pk_un (by decide)]⟩
                  · exact ⟨hh14, rfl, rfl, rfl⟩
                obtain ⟨r', a', b', z', K', g1, g2, g3, g4, g5, g6⟩ := finish_eq (f := f) (H := K) (L := G 14) (a1 := a) (b1 := b) (z1 := p) (r := rt) fk.1 (by rw [fk.2.1]; exact n4) (by rw [fk.2.2.1]; exact n5) (by
                  rcases n6 with ⟨q1, q2, q3, q4, q5, q6, q7, q8, q9⟩ | ⟨q1, q2⟩
                  · rcases y2 with ⟨e1, e2, e3⟩ | ⟨e1, e2, e3⟩
                    · rw [v15] at q8
                      rw [v14] at q9
                      exact Or.inl ⟨e1, q2, by rw [fk.2.2.2]; exact q4, by omega, q9, p2⟩
                    · rw [q1] at e2
                      exact absurd e2 (by decide)
                  · rcases y2 with ⟨e1, e2, e3⟩ | ⟨e1, e2, e3⟩
                    · rw [q1] at e2
                      exact absurd e2 (by decide)
                    · exact Or.inr ⟨e1, q2⟩)
                have hm : f_m_takesClause G f f27 f28 f29 f30 f31 = (r', K', f27, f28, f29, f30, f31) := by
                  unfold f_m_takesClause
                  rw [km]
                  dsimp (config := { etaStruct := .none }) only
                  rw [if_neg c98, if_neg n20, if_neg c116, if_neg c99, if_neg c118, if_pos c115, u26, if_pos z26, u15, hW, y1]
                  exact thenS_x g1
                have he : f_e_readClause_x5 0 (G 19) (G 14) (G 15) (G 22) (G 26) f (G 20) (G 21) (G 23) (G 24) (G 25) fta ftb ftc ftd fte = (a', b', z', G 22, 1, G 20, G 21, G 23, G 24, v, fta, ftb, ftc, ftd, fte) := by
                  unfold f_e_readClause_x5
                  rw [ke]
                  dsimp (config := { etaStruct := .none }) only
                  rw [if_neg c98, if_neg c116, if_neg c99, if_neg c118, if_pos c115, if_neg z20, t0, if_pos z26, n2]
                  dsimp (config := { etaStruct := .none }) only
                  rw [g2]
                have kq : ∀ j, j < 15 ∨ 20 ≤ j → j ≠ 25 → j ≠ 26 → K' j = G j := by
                  intro j hj h1 h2
                  rw [g3 j hj]
                  rcases y2 with ⟨_, _, rfl⟩ | ⟨_, _, rfl⟩
                  · rw [pk_un h1, n3 j hj, vq j hj h2]
                  · rw [n3 j hj, vq j hj h2]
                refine ⟨r', a', b', z', _, _, _, _, _, _, _, K', _, _, _, _, _, _, _, _, _, _, hm, he, fun j hj => kq j (by omega) (by omega) (by omega), g4, g5, ?_⟩
                rcases g6 with ⟨x1, x2, x3, x4, x5, x6, x7, x8⟩ | q
                · rcases n6 with ⟨q1, q2, q3, q4, q5, q6, q7, q8, q9⟩ | ⟨q1, q2⟩
                  · rcases y2 with ⟨e1, e2, e3⟩ | ⟨e1, e2, e3⟩
                    · have k25 : K' 25 = v := by rw [g3 25 (by decide), e3, pk_us, q5]
                      have k26 : K' 26 = 1 := by rw [g3 26 (by decide), e3, pk_un (by decide), n3 26 (by decide), v26]
                      have k20 := kq 20 (by decide) (by decide) (by decide)
                      have k21 := kq 21 (by decide) (by decide) (by decide)
                      have k22 := kq 22 (by decide) (by decide) (by decide)
                      have k23 := kq 23 (by decide) (by decide) (by decide)
                      have k24 := kq 24 (by decide) (by decide) (by decide)
                      rw [v15] at q8
                      rw [fk.2.2.2, ← q4] at x7
                      refine Or.inl ⟨x1, x2, by rw [x4, q3, v19], x6, by omega, x8, k22.symm, k26.symm, k20.symm, k21.symm, k23.symm, k24.symm, k25.symm, ?_⟩
                      unfold PB
                      rw [k20, k21, k23, k24, k25]
                      exact ⟨⟨b1, b2⟩, ⟨b3, b4⟩, ⟨b5, b6⟩, ⟨b7, b8⟩, ⟨q6, q7⟩, b11, b12, b13, b14, b15, b16⟩
                    · rw [q1] at e2
                      exact absurd e2 (by decide)
                  · exact absurd x3 q2
                · exact Or.inr q
              · refine bad 3 (by decide) ?_ ?_
                · unfold f_m_takesClause
                  rw [km]
                  dsimp (config := { etaStruct := .none }) only
                  rw [if_neg c98, if_neg n20, if_neg c116, if_neg c99, if_neg c118, if_pos c115, u26, if_neg z26, u16]
                  rfl
                · unfold f_e_readClause_x5
                  rw [ke]
                  dsimp (config := { etaStruct := .none }) only
                  rw [if_neg c98, if_neg c116, if_neg c99, if_neg c118, if_pos c115, if_neg z20, t0, if_neg z26]
                  rfl
            · refine bad 1 (by decide) ?_ ?_
              · unfold f_m_takesClause
                rw [km]
                dsimp (config := { etaStruct := .none }) only
                rw [if_neg c98, if_neg n20, if_neg c116, if_neg c99, if_neg c118, if_neg c115, u16]
                rfl
              · unfold f_e_readClause_x5
                rw [ke]
                dsimp (config := { etaStruct := .none }) only
                rw [if_neg c98, if_neg c116, if_neg c99, if_neg c118, if_neg c115]
                rfl
end
section
/-! the whole text, side by side -/
theorem PB_of {G H fta ftb ftc ftd fte f27 f28 f29 f30 f31 : Nat → Int32} (q : PQ G H) (h : PB G fta ftb ftc ftd fte f27 f28 f29 f30 f31) : PB H fta ftb ftc ftd fte f27 f28 f29 f30 f31 := by
  unfold PB
  rw [q 20 (by decide), q 21 (by decide), q 23 (by decide), q 24 (by decide), q 25 (by decide)]
  exact h
theorem read_loop {f : Nat → Int32} (f0 f1 f8 f9 f10 f11 f12 : Nat → Int32) : ∀ (n m : Nat) (i : Int32) (G fta ftb ftc ftd fte f27 f28 f29 f30 f31 : Nat → Int32), PS G → PB G fta ftb ftc ftd fte f27 f28 f29 f30 f31 → 0 ≤ i.toInt → i.toInt ≤ (G 15).toInt → (G 14).toInt - (G 15).toInt + 1 < n → 240 - i.toInt < m → ∃ (rg a b z s5 s6 u0 u1 u2 u3 u4 j : Int32) (H h27 h28 h29 h30 h31 ga gb gc gd ge : Nat → Int32), f_m_town_52 f n 1 G f0 f1 f8 f9 f10 f11 f12 f27 f28 f29 f30 f31 = (rg, H, f0, f1, f8, f9, f10, f11, f12, h27, h28, h29, h30, h31) ∧ (∀ (q0 q1 q3 q4 q5 q6 d0 d1 d2 d3 d4 l : Int32) (ca cb cc cd ce : Nat → Int32), f_e_read_x5_42 q0 q1 q3 q4 q5 q6 f d0 d1 d2 d3 d4 ca cb cc cd ce l m i 0 (G 19) (G 14) (G 15) (G 22) (G 26) (G 20) (G 21) (G 23) (G 24) (G 25) fta ftb ftc ftd fte = (j, a, b, G 14, z, s5, s6, u0, u1, u2, u3, u4, ga, gb, gc, gd, ge)) ∧ CQ G H ∧ a = H 18 ∧ b = H 19 ∧ ((rg = 1 ∧ a = 0 ∧ b = G 19 ∧ u0 = H 20 ∧ u1 = H 21 ∧ u2 = H 23 ∧ u3 = H 24 ∧ u4 = H 25 ∧ PB H ga gb gc gd ge h27 h28 h29 h30 h31) ∨ (rg = 0 ∧ a ≠ 0)) := by
  intro n
  induction n with
  | zero => intro m i G fta ftb ftc ftd fte f27 f28 f29 f30 f31 hp hB h0 h1 h2; have := hp.2.1; omega
  | succ n ih =>
    intro m i G fta ftb ftc ftd fte f27 f28 f29 f30 f31 hp hB h0 h1 h2 h3
    obtain ⟨p0, p1, p2, p3⟩ := hp
    cases m with
    | zero => omega
    | succ m =>
      obtain ⟨k, k0, k1, k2, km, ke⟩ := here_spec (f := f) p0 p1 p2
      have u15 : (upd (upd G 15 k) 16 k) 15 = k := by rw [pk_un (by decide), pk_us]
      have uq : PQ G (upd (upd G 15 k) 16 k) := PQ_upd (PQ_upd (PQ.refl G) (by decide) (by decide)) (by decide) (by decide)
      have u18 : (upd (upd G 15 k) 16 k) 18 = 0 := by rw [pk_un (by decide), pk_un (by decide)]; exact p3
      have u19 : (upd (upd G 15 k) 16 k) 19 = G 19 := by rw [pk_un (by decide), pk_un (by decide)]
      generalize upd (upd G 15 k) 16 k = U at km u15 uq u18 u19
      have u14 := uq 14 (by decide)
      have u20 := uq 20 (by decide)
      have u21 := uq 21 (by decide)
      have u22 := uq 22 (by decide)
      have u23 := uq 23 (by decide)
      have u24 := uq 24 (by decide)
      have u25 := uq 25 (by decide)
      have u26 := uq 26 (by decide)
      rw [f_m_town_52_s, if_neg (by decide), km]
      dsimp (config := { etaStruct := .none }) only
      by_cases cE : ltr (G 14) f k = -1
      · rw [if_pos cE]
        have ex : ∃ z : Int32, ∀ (q0 q1 q3 q4 q5 q6 d0 d1 d2 d3 d4 l : Int32) (ca cb cc cd ce : Nat → Int32), f_e_read_x5_42 q0 q1 q3 q4 q5 q6 f d0 d1 d2 d3 d4 ca cb cc cd ce l (m + 1) i 0 (G 19) (G 14) (G 15) (G 22) (G 26) (G 20) (G 21) (G 23) (G 24) (G 25) fta ftb ftc ftd fte = (i, 0, G 19, G 14, z, G 22, G 26, G 20, G 21, G 23, G 24, G 25, fta, ftb, ftc, ftd, fte) := by
          by_cases q : 240 ≤ i
          · refine ⟨G 15, fun q0 q1 q3 q4 q5 q6 d0 d1 d2 d3 d4 l ca cb cc cd ce => ?_⟩
            rw [f_e_read_x5_42_s, if_pos q]
          · refine ⟨k, fun q0 q1 q3 q4 q5 q6 d0 d1 d2 d3 d4 l ca cb cc cd ce => ?_⟩
            rw [f_e_read_x5_42_s, if_neg q, if_pos rfl, ke]
            dsimp (config := { etaStruct := .none }) only
            rw [if_pos cE]
        obtain ⟨z, hz⟩ := ex
        exact ⟨1, 0, G 19, z, G 22, G 26, G 20, G 21, G 23, G 24, G 25, i, U, f27, f28, f29, f30, f31, fta, ftb, ftc, ftd, fte, rfl, hz, fun j hj => uq j (by omega), u18.symm, u19.symm, Or.inl ⟨rfl, rfl, rfl, u20.symm, u21.symm, u23.symm, u24.symm, u25.symm, PB_of uq hB⟩⟩
      · rw [if_neg cE]
        have hlt := ltr_lt (L := G 14) (f := f) (k := k) rfl cE
        have c1 : ¬ 240 ≤ i := by
          rw [i_le]
          simp only [Int32.reduceToInt]
          omega
        have e1 := i_a1 (a := i) (by omega) (by omega)
        obtain ⟨r, a, b, z, s5, s6, v0, v1, v2, v3, v4, H, h27, h28, h29, h30, h31, ga, gb, gc, gd, ge, y1, y2, y3, y4, y5, y6⟩ := clause_eq (f := f) (G := U) ⟨by rw [u15]; omega, by rw [u15, u14]; exact k1, by rw [u14]; exact p2, u18⟩ (PB_of uq hB)
        rw [u14, u15, u19, u20, u21, u22, u23, u24, u25, u26] at y2
        rw [y1]
        dsimp (config := { etaStruct := .none }) only
        have st : ∀ (q0 q1 q3 q4 q5 q6 d0 d1 d2 d3 d4 l : Int32) (ca cb cc cd ce : Nat → Int32), f_e_read_x5_42 q0 q1 q3 q4 q5 q6 f d0 d1 d2 d3 d4 ca cb cc cd ce l (m + 1) i 0 (G 19) (G 14) (G 15) (G 22) (G 26) (G 20) (G 21) (G 23) (G 24) (G 25) fta ftb ftc ftd fte = f_e_read_x5_42 q0 q1 q3 q4 q5 q6 f d0 d1 d2 d3 d4 ca cb cc cd ce l m (i + 1) a b (G 14) z s5 s6 v0 v1 v2 v3 v4 ga gb gc gd ge := by
          intro q0 q1 q3 q4 q5 q6 d0 d1 d2 d3 d4 l ca cb cc cd ce
          rw [f_e_read_x5_42_s, if_neg c1, if_pos rfl, ke]
          dsimp (config := { etaStruct := .none }) only
          rw [if_neg cE, y2]
        have h14 : H 14 = G 14 := (y3 14 (by decide)).trans u14
        rcases y6 with ⟨rfl, rfl, x3, rfl, x5, x6, rfl, rfl, rfl, rfl, rfl, rfl, rfl, hB'⟩ | ⟨rfl, ha⟩
        · rw [u15] at x5
          rw [u14] at x6
          rw [u19] at x3
          obtain ⟨rg, a, b', z, s5, s6, w0, w1, w2, w3, w4, j, K, k27, k28, k29, k30, k31, ea, eb, ec, ed, ee, m1, m2, m3, m4, m5, m6⟩ := ih m (i + 1) H ga gb gc gd ge h27 h28 h29 h30 h31 ⟨by omega, by rw [h14]; exact x6, by rw [h14]; exact p2, y4.symm⟩ hB' (by omega) (by omega) (by rw [h14]; omega) (by omega)
          refine ⟨rg, a, b', z, s5, s6, w0, w1, w2, w3, w4, j, K, k27, k28, k29, k30, k31, ea, eb, ec, ed, ee, m1, fun q0 q1 q3 q4 q5 q6 d0 d1 d2 d3 d4 l ca cb cc cd ce => ?_, fun j hj => (m3 j hj).trans ((y3 j hj).trans (uq j (by omega))), m4, m5, ?_⟩
          · have := m2 q0 q1 q3 q4 q5 q6 d0 d1 d2 d3 d4 l ca cb cc cd ce
            rw [h14, ← y5] at this
            rw [st, this]
          · rcases m6 with ⟨z1, z2, z3, z4⟩ | q
            · rw [← y5, x3] at z3
              exact Or.inl ⟨z1, z2, z3, z4⟩
            · exact Or.inr q
        · refine ⟨0, a, b, z, s5, s6, v0, v1, v2, v3, v4, i + 1, H, h27, h28, h29, h30, h31, ga, gb, gc, gd, ge, ?_, fun q0 q1 q3 q4 q5 q6 d0 d1 d2 d3 d4 l ca cb cc cd ce => ?_, fun j hj => (y3 j hj).trans (uq j (by omega)), y4, y5, Or.inr ⟨rfl, ha⟩⟩
          · cases n with
            | zero => omega
            | succ n => rw [f_m_town_52_s, if_pos rfl]
          · rw [st]
            cases m with
            | zero => rfl
            | succ m =>
              rw [f_e_read_x5_42_s]
              by_cases q : 240 ≤ i + 1
              · rw [if_pos q]
              · rw [if_neg q, if_neg ha]
/-- the reference, as it begins to read -/
def G0r (G : Nat → Int32) : Nat → Int32 := upd (upd (upd (upd (upd (upd (upd (upd (upd (upd G 15 0) 18 0) 19 (-1)) 20 0) 21 1) 22 0) 23 0) 24 0) 25 0) 26 0
theorem G0r_off {G : Nat → Int32} (j : Nat) (h : j < 15 ∨ 27 ≤ j) : G0r G j = G j := by
  unfold G0r
  rw [pk_un (by omega), pk_un (by omega), pk_un (by omega), pk_un (by omega), pk_un (by omega), pk_un (by omega), pk_un (by omega), pk_un (by omega), pk_un (by omega), pk_un (by omega)]
theorem read_eq {G f fta ftb ftc ftd fte : Nat → Int32} (f0 f1 f8 f9 f10 f11 f12 f27 f28 f29 f30 f31 : Nat → Int32) (h0 : 0 ≤ (G 14).toInt) (h1 : (G 14).toInt ≤ 240) : ∃ (rg a b z s5 s6 u0 u1 u2 u3 u4 : Int32) (H h27 h28 h29 h30 h31 ga gb gc gd ge : Nat → Int32), f_m_town_52 f 300 1 (G0r G) f0 f1 f8 f9 f10 f11 f12 f27 f28 f29 f30 f31 = (rg, H, f0, f1, f8, f9, f10, f11, f12, h27, h28, h29, h30, h31) ∧ (∀ (q0 q1 q3 q4 q5 q6 d0 d1 d2 d3 d4 : Int32), f_e_read_x5 q0 q1 q3 q4 q5 q6 f d0 d1 d2 d3 d4 fta ftb ftc ftd fte (G 14) = (a, b, G 14, z, s5, s6, u0, u1, u2, u3, u4, ga, gb, gc, gd, ge)) ∧ CQ G H ∧ a = H 18 ∧ b = H 19 ∧ ((rg = 1 ∧ a = 0 ∧ b = -1 ∧ u0 = H 20 ∧ u1 = H 21 ∧ u2 = H 23 ∧ u3 = H 24 ∧ u4 = H 25 ∧ PB H ga gb gc gd ge h27 h28 h29 h30 h31) ∨ (rg = 0 ∧ a ≠ 0)) := by
  have g14 : G0r G 14 = G 14 := G0r_off 14 (by decide)
  have g15 : G0r G 15 = 0 := by
    unfold G0r
    rw [pk_un (by decide), pk_un (by decide), pk_un (by decide), pk_un (by decide), pk_un (by decide), pk_un (by decide), pk_un (by decide), pk_un (by decide), pk_un (by decide), pk_us]
  have g18 : G0r G 18 = 0 := by
    unfold G0r
    rw [pk_un (by decide), pk_un (by decide), pk_un (by decide), pk_un (by decide), pk_un (by decide), pk_un (by decide), pk_un (by decide), pk_un (by decide), pk_us]
  have g19 : G0r G 19 = -1 := by
    unfold G0r
    rw [pk_un (by decide), pk_un (by decide), pk_un (by decide), pk_un (by decide), pk_un (by decide), pk_un (by decide), pk_un (by decide), pk_us]
  have g20 : G0r G 20 = 0 := by
    unfold G0r
    rw [pk_un (by decide), pk_un (by decide), pk_un (by decide), pk_un (by decide), pk_un (by decide), pk_un (by decide), pk_us]
  have g21 : G0r G 21 = 1 := by
    unfold G0r
    rw [pk_un (by decide), pk_un (by decide), pk_un (by decide), pk_un (by decide), pk_un (by decide), pk_us]
  have g22 : G0r G 22 = 0 := by
    unfold G0r
    rw [pk_un (by decide), pk_un (by decide), pk_un (by decide), pk_un (by decide), pk_us]
  have g23 : G0r G 23 = 0 := by
    unfold G0r
    rw [pk_un (by decide), pk_un (by decide), pk_un (by decide), pk_us]
  have g24 : G0r G 24 = 0 := by
    unfold G0r
    rw [pk_un (by decide), pk_un (by decide), pk_us]
  have g25 : G0r G 25 = 0 := by
    unfold G0r
    rw [pk_un (by decide), pk_us]
  have g26 : G0r G 26 = 0 := by
    unfold G0r
    rw [pk_us]
  have go : ∀ j, j < 15 ∨ 27 ≤ j → G0r G j = G j := fun j hj => G0r_off j hj
  generalize G0r G = Z at g14 g15 g18 g19 g20 g21 g22 g23 g24 g25 g26 go
  have nil : ∀ (x y : Nat → Int32) (lo hi : Int), AG x y 0 lo hi := fun x y lo hi k hk => absurd hk (by omega)
  have hB : PB Z fta ftb ftc ftd fte f27 f28 f29 f30 f31 := by
    unfold PB
    rw [g20, g21, g23, g24, g25]
    exact ⟨by decide, by decide, by decide, by decide, by decide, fun _ => by decide, nil _ _ _ _, nil _ _ _ _, fun c t hc _ => absurd hc (by rw [i_0]; omega), nil _ _ _ _, nil _ _ _ _⟩
  obtain ⟨rg, a, b, z, s5, s6, u0, u1, u2, u3, u4, j, H, h27, h28, h29, h30, h31, ga, gb, gc, gd, ge, m1, m2, m3, m4, m5, m6⟩ := read_loop (f := f) f0 f1 f8 f9 f10 f11 f12 300 241 0 Z fta ftb ftc ftd fte f27 f28 f29 f30 f31 ⟨by rw [g15]; decide, by rw [g15, g14, i_0]; exact h0, by rw [g14]; exact h1, g18⟩ hB (by decide) (by rw [g15]; decide) (by rw [g14, g15, i_0]; omega) (by rw [i_0]; omega)
  refine ⟨rg, a, b, z, s5, s6, u0, u1, u2, u3, u4, H, h27, h28, h29, h30, h31, ga, gb, gc, gd, ge, m1, fun q0 q1 q3 q4 q5 q6 d0 d1 d2 d3 d4 => ?_, fun j hj => (m3 j hj).trans (go j hj), m4, m5, ?_⟩
  · have := m2 q0 q1 q3 q4 q5 q6 d0 d1 d2 d3 d4 (G 14) fta ftb ftc ftd fte
    rw [g14, g15, g19, g20, g21, g22, g23, g24, g25, g26] at this
    unfold f_e_read_x5 f_e_clear_x8
    have e : ((240 : Int32).toInt - (0 : Int32).toInt).toNat + 1 = 241 := rfl
    dsimp (config := { etaStruct := .none }) only
    rw [e, this]
  · rw [g19] at m6
    exact m6
theorem cp131 : ∀ (n : Nat) (i : Int32) (m0 m1 m2 m3 m4 m5 m6 m7 m8 m9 m10 m11 m12 : Nat → Int32), 0 ≤ i.toInt → i.toInt ≤ 6 → 6 - i.toInt < n → (∀ k : Nat, (k : Int) < i.toInt → m3 k = m8 k ∧ m4 k = m9 k) → ∃ (j : Int32) (g3 g4 : Nat → Int32), f_m_town_131 n i m0 m1 m2 m3 m4 m5 m6 m7 m8 m9 m10 m11 m12 = (j, m0, m1, m2, g3, g4, m5, m6, m7, m8, m9, m10, m11, m12) ∧ ∀ k : Nat, k < 6 → g3 k = m8 k ∧ g4 k = m9 k := by
  intro n
  induction n with
  | zero => intro i m0 m1 m2 m3 m4 m5 m6 m7 m8 m9 m10 m11 m12 h0 h1 h2; omega
  | succ n ih =>
    intro i m0 m1 m2 m3 m4 m5 m6 m7 m8 m9 m10 m11 m12 h0 h1 h2 h3
    rw [f_m_town_131_s]
    by_cases c : 6 ≤ i
    · rw [if_pos c]
      simp only [i_le, Int32.reduceToInt] at c
      exact ⟨i, m3, m4, rfl, fun k hk => h3 k (by omega)⟩
    · rw [if_neg c]
      simp only [i_le, Int32.reduceToInt] at c
      have e := i_a1 (a := i) (by omega) (by omega)
      refine ih (i + 1) m0 m1 m2 _ _ m5 m6 m7 m8 m9 m10 m11 m12 (by omega) (by omega) (by omega) (fun k hk => ?_)
      by_cases q : k = i.toNatClampNeg
      · subst q
        rw [pk_us, pk_us]
        exact ⟨rfl, rfl⟩
      · rw [pk_un q, pk_un q]
        refine h3 k ?_
        rw [i_clamp] at q
        omega
theorem cp169 : ∀ (n : Nat) (i : Int32) (m0 m1 m2 m3 m4 m5 m6 m7 m8 m9 m10 m11 m12 : Nat → Int32), 0 ≤ i.toInt → i.toInt ≤ 30 → 30 - i.toInt < n → (∀ k : Nat, (k : Int) < i.toInt → m5 k = m10 k) → ∃ (j : Int32) (g5 : Nat → Int32), f_m_town_169 n i m0 m1 m2 m3 m4 m5 m6 m7 m8 m9 m10 m11 m12 = (j, m0, m1, m2, m3, m4, g5, m6, m7, m8, m9, m10, m11, m12) ∧ ∀ k : Nat, k < 30 → g5 k = m10 k := by
  intro n
  induction n with
  | zero => intro i m0 m1 m2 m3 m4 m5 m6 m7 m8 m9 m10 m11 m12 h0 h1 h2; omega
  | succ n ih =>
    intro i m0 m1 m2 m3 m4 m5 m6 m7 m8 m9 m10 m11 m12 h0 h1 h2 h3
    rw [f_m_town_169_s]
    by_cases c : 30 ≤ i
    · rw [if_pos c]
      simp only [i_le, Int32.reduceToInt] at c
      exact ⟨i, m5, rfl, fun k hk => h3 k (by omega)⟩
    · rw [if_neg c]
      simp only [i_le, Int32.reduceToInt] at c
      have e := i_a1 (a := i) (by omega) (by omega)
      refine ih (i + 1) m0 m1 m2 m3 m4 _ m6 m7 m8 m9 m10 m11 m12 (by omega) (by omega) (by omega) (fun k hk => ?_)
      by_cases q : k = i.toNatClampNeg
      · subst q
        rw [pk_us]
      · rw [pk_un q]
        refine h3 k ?_
        rw [i_clamp] at q
        omega
theorem cp195 : ∀ (n : Nat) (i : Int32) (m0 m1 m2 m3 m4 m5 m6 m7 m8 m9 m10 m11 m12 : Nat → Int32), 0 ≤ i.toInt → i.toInt ≤ 7 → 7 - i.toInt < n → (∀ k : Nat, (k : Int) < i.toInt → m6 k = m11 k ∧ m7 k = m12 k) → ∃ (j : Int32) (g6 g7 : Nat → Int32), f_m_town_195 n i m0 m1 m2 m3 m4 m5 m6 m7 m8 m9 m10 m11 m12 = (j, m0, m1, m2, m3, m4, m5, g6, g7, m8, m9, m10, m11, m12) ∧ ∀ k : Nat, k < 7 → g6 k = m11 k ∧ g7 k = m12 k := by
  intro n
  induction n with
  | zero => intro i m0 m1 m2 m3 m4 m5 m6 m7 m8 m9 m10 m11 m12 h0 h1 h2; omega
  | succ n ih =>
    intro i m0 m1 m2 m3 m4 m5 m6 m7 m8 m9 m10 m11 m12 h0 h1 h2 h3
    rw [f_m_town_195_s]
    by_cases c : 7 ≤ i
    · rw [if_pos c]
      simp only [i_le, Int32.reduceToInt] at c
      exact ⟨i, m6, m7, rfl, fun k hk => h3 k (by omega)⟩
    · rw [if_neg c]
      simp only [i_le, Int32.reduceToInt] at c
      have e := i_a1 (a := i) (by omega) (by omega)
      refine ih (i + 1) m0 m1 m2 m3 m4 m5 _ _ m8 m9 m10 m11 m12 (by omega) (by omega) (by omega) (fun k hk => ?_)
      by_cases q : k = i.toNatClampNeg
      · subst q
        rw [pk_us, pk_us]
        exact ⟨rfl, rfl⟩
      · rw [pk_un q, pk_un q]
        refine h3 k ?_
        rw [i_clamp] at q
        omega
end
section
/-! the state of the class and the reference's, side by side: cells -/
/-- where a cell of the class's state lies in a block of the reference -/
def cx (i : Nat) : Nat := if i = 0 then 19 else if i = 1 then 18 else if i < 20 then i - 2 else i
theorem cx_lt {i : Nat} (h : i < 41) : cx i < 41 := by
  unfold cx
  (repeat' split) <;> omega
theorem cx_inj {i j : Nat} (h : cx i = cx j) : i = j := by
  unfold cx at h
  (repeat' split at h) <;> omega
theorem cx_g {n : Nat} (h : n < 6) : cx (2 + n) = n := by
  unfold cx
  (repeat' split) <;> omega
theorem cx_p {n : Nat} (h : n < 6) : cx (8 + n) = 6 + n := by
  unfold cx
  (repeat' split) <;> omega
theorem cx_t {n : Nat} (h : n < 6) : cx (14 + n) = 12 + n := by
  unfold cx
  (repeat' split) <;> omega
theorem cx_v {n : Nat} (h : 20 ≤ n) : cx n = n := by
  unfold cx
  (repeat' split) <;> omega
theorem ixn {a c : Int32} (ha : 0 ≤ a.toInt) (hc : 0 ≤ c.toInt) (h : a.toInt + c.toInt < 2147483648) : (a + c).toNatClampNeg = a.toNatClampNeg + c.toNatClampNeg := by
  rw [i_clamp, i_clamp, i_clamp, i_add (by omega) h]
  omega
theorem ix0 {c : Int32} : (0 + c).toNatClampNeg = c.toNatClampNeg := by rw [Int32.zero_add]
theorem clN {c : Int32} {n : Nat} (h0 : 0 ≤ c.toInt) (h : c.toInt < n) : c.toNatClampNeg < n := by
  rw [i_clamp]
  omega
theorem clI {c : Int32} (h0 : 0 ≤ c.toInt) : (c.toNatClampNeg : Int) = c.toInt := by
  rw [i_clamp]
  omega
theorem cl_inj {a b : Int32} (ha : 0 ≤ a.toInt) (hb : 0 ≤ b.toInt) (h : a.toNatClampNeg = b.toNatClampNeg) : a = b := by
  rw [i_clamp, i_clamp] at h
  rw [i_eq]
  omega
def ST (f w : Nat → Int32) (o h : Nat) : Prop := ∀ i, i < 41 → f (o + i) = w (h + cx i)
theorem ST_at {f w : Nat → Int32} (h : ST f w 0 0) {i : Int32} (h0 : 0 ≤ i.toInt) (h1 : i.toInt < 41) : atF 41 f i = w (cx i.toNatClampNeg) := by
  rw [at_in h0 h1]
  have := h i.toNatClampNeg (clN h0 h1)
  rw [Nat.zero_add, Nat.zero_add] at this
  exact this
theorem ST_put {f w : Nat → Int32} (h : ST f w 0 0) {i x : Int32} (h0 : 0 ≤ i.toInt) (h1 : i.toInt < 41) : ST (putF 41 f i x) (upd w (cx i.toNatClampNeg) x) 0 0 := by
  intro j hj
  have e := h j hj
  rw [put_in h0 h1]
  rw [Nat.zero_add, Nat.zero_add] at e ⊢
  by_cases c : j = i.toNatClampNeg
  · rw [c, pk_us, pk_us]
  · rw [pk_un c, pk_un (fun q => c (cx_inj q))]
    exact e
theorem ST_off {f w : Nat → Int32} (h : ST f w 0 0) {k : Nat} {x : Int32} (hk : 41 ≤ k) : ST f (upd w k x) 0 0 := by
  intro j hj
  have := cx_lt hj
  rw [pk_un (by omega)]
  exact h j hj
theorem ST_of {f w w' : Nat → Int32} {o h h' : Nat} (q : ST f w o h) (e : ∀ k, k < 41 → w' (h' + k) = w (h + k)) : ST f w' o h' := by
  intro i hi
  rw [q i hi, e (cx i) (cx_lt hi)]
theorem sm {a c : Int32} {x y : Int} (ha : a.toInt = x) (h0 : 0 ≤ c.toInt) (h1 : c.toInt < y) (hx : 0 ≤ x) (hxy : x + y ≤ 41) : 0 ≤ (a + c).toInt ∧ (a + c).toInt < 41 := by
  rw [i_add (by omega) (by omega)]
  omega
theorem sN {a c : Int32} {x : Nat} {y : Int} (ha : a.toInt = x) (h0 : 0 ≤ c.toInt) (h1 : c.toInt < y) (hxy : (x : Int) + y ≤ 41) : (a + c).toNatClampNeg = x + c.toNatClampNeg := by
  rw [ixn (by omega) h0 (by omega), i_clamp a, ha]
  rfl
theorem e_g {f w : Nat → Int32} (h : ST f w 0 0) {c : Int32} (h0 : 0 ≤ c.toInt) (h1 : c.toInt < 6) : f_e_grievanceOf f c = w c.toNatClampNeg := by
  unfold f_e_grievanceOf
  have b := sm (a := 2) (c := c) rfl h0 h1 (by decide) (by decide)
  rw [ST_at h b.1 b.2, sN (a := 2) (x := 2) rfl h0 h1 (by decide), cx_g (clN h0 h1)]
theorem e_p {f w : Nat → Int32} (h : ST f w 0 0) {c : Int32} (h0 : 0 ≤ c.toInt) (h1 : c.toInt < 6) : f_e_bridgeOf f c = w (6 + c.toNatClampNeg) := by
  unfold f_e_bridgeOf
  have b := sm (a := 8) (c := c) rfl h0 h1 (by decide) (by decide)
  rw [ST_at h b.1 b.2, sN (a := 8) (x := 8) rfl h0 h1 (by decide), cx_p (clN h0 h1)]
theorem e_t {f w : Nat → Int32} (h : ST f w 0 0) {c : Int32} (h0 : 0 ≤ c.toInt) (h1 : c.toInt < 6) : f_e_themeOf f c = w (12 + c.toNatClampNeg) := by
  unfold f_e_themeOf
  have b := sm (a := 14) (c := c) rfl h0 h1 (by decide) (by decide)
  rw [ST_at h b.1 b.2, sN (a := 14) (x := 14) rfl h0 h1 (by decide), cx_t (clN h0 h1)]
theorem e_fate {f w : Nat → Int32} (h : ST f w 0 0) {c : Int32} (h0 : 0 ≤ c.toInt) (h1 : c.toInt < 7) : f_e_fateOf f c = w (20 + c.toNatClampNeg) := by
  unfold f_e_fateOf
  have b := sm (a := 20) (c := c) rfl h0 h1 (by decide) (by decide)
  rw [ST_at h b.1 b.2, sN (a := 20) (x := 20) rfl h0 h1 (by decide), cx_v (by omega)]
theorem e_lying {f w : Nat → Int32} (h : ST f w 0 0) {c : Int32} (h0 : 0 ≤ c.toInt) (h1 : c.toInt < 7) : f_e_lyingAt f c = w (27 + c.toNatClampNeg) := by
  unfold f_e_lyingAt
  have b := sm (a := 27) (c := c) rfl h0 h1 (by decide) (by decide)
  rw [ST_at h b.1 b.2, sN (a := 27) (x := 27) rfl h0 h1 (by decide), cx_v (by omega)]
theorem e_passed {f w : Nat → Int32} (h : ST f w 0 0) {c : Int32} (h0 : 0 ≤ c.toInt) (h1 : c.toInt < 7) : f_e_passedAt f c = w (34 + c.toNatClampNeg) := by
  unfold f_e_passedAt
  have b := sm (a := 34) (c := c) rfl h0 h1 (by decide) (by decide)
  rw [ST_at h b.1 b.2, sN (a := 34) (x := 34) rfl h0 h1 (by decide), cx_v (by omega)]
theorem e_min {f w : Nat → Int32} (h : ST f w 0 0) : f_e_minutes f = w 19 := by
  unfold f_e_minutes
  rw [ST_at h (by decide) (by decide)]
  rfl
theorem e_rec {f w : Nat → Int32} (h : ST f w 0 0) : f_e_reconciledSet f = w 18 := by
  unfold f_e_reconciledSet
  rw [ST_at h (by decide) (by decide)]
  rfl
theorem w_g {f w : Nat → Int32} (h : ST f w 0 0) {c x : Int32} (h0 : 0 ≤ c.toInt) (h1 : c.toInt < 6) : ST (f_e_leave f c x) (upd w c.toNatClampNeg x) 0 0 := by
  unfold f_e_leave
  have b := sm (a := 2) (c := c) rfl h0 h1 (by decide) (by decide)
  have := ST_put h (x := x) b.1 b.2
  rw [sN (a := 2) (x := 2) rfl h0 h1 (by decide), cx_g (clN h0 h1)] at this
  exact this
theorem w_p {f w : Nat → Int32} (h : ST f w 0 0) {c x : Int32} (h0 : 0 ≤ c.toInt) (h1 : c.toInt < 6) : ST (f_e_place f c x) (upd w (6 + c.toNatClampNeg) x) 0 0 := by
  unfold f_e_place
  have b := sm (a := 8) (c := c) rfl h0 h1 (by decide) (by decide)
  have := ST_put h (x := x) b.1 b.2
  rw [sN (a := 8) (x := 8) rfl h0 h1 (by decide), cx_p (clN h0 h1)] at this
  exact this
theorem w_t {f w : Nat → Int32} (h : ST f w 0 0) {c x : Int32} (h0 : 0 ≤ c.toInt) (h1 : c.toInt < 6) : ST (f_e_turnTo f c x) (upd w (12 + c.toNatClampNeg) x) 0 0 := by
  unfold f_e_turnTo
  have b := sm (a := 14) (c := c) rfl h0 h1 (by decide) (by decide)
  have := ST_put h (x := x) b.1 b.2
  rw [sN (a := 14) (x := 14) rfl h0 h1 (by decide), cx_t (clN h0 h1)] at this
  exact this
theorem w_fate {f w : Nat → Int32} (h : ST f w 0 0) {c x : Int32} (h0 : 0 ≤ c.toInt) (h1 : c.toInt < 7) : ST (putF 41 f (20 + c) x) (upd w (20 + c.toNatClampNeg) x) 0 0 := by
  have b := sm (a := 20) (c := c) rfl h0 h1 (by decide) (by decide)
  have := ST_put h (x := x) b.1 b.2
  rw [sN (a := 20) (x := 20) rfl h0 h1 (by decide), cx_v (by omega)] at this
  exact this
theorem w_berth {f w : Nat → Int32} (h : ST f w 0 0) {c x : Int32} (h0 : 0 ≤ c.toInt) (h1 : c.toInt < 7) : ST (putF 41 f (27 + c) x) (upd w (27 + c.toNatClampNeg) x) 0 0 := by
  have b := sm (a := 27) (c := c) rfl h0 h1 (by decide) (by decide)
  have := ST_put h (x := x) b.1 b.2
  rw [sN (a := 27) (x := 27) rfl h0 h1 (by decide), cx_v (by omega)] at this
  exact this
theorem w_when {f w : Nat → Int32} (h : ST f w 0 0) {c x : Int32} (h0 : 0 ≤ c.toInt) (h1 : c.toInt < 7) : ST (putF 41 f (34 + c) x) (upd w (34 + c.toNatClampNeg) x) 0 0 := by
  have b := sm (a := 34) (c := c) rfl h0 h1 (by decide) (by decide)
  have := ST_put h (x := x) b.1 b.2
  rw [sN (a := 34) (x := 34) rfl h0 h1 (by decide), cx_v (by omega)] at this
  exact this
theorem w_min {f w : Nat → Int32} (h : ST f w 0 0) {v : Int32} : ST (f_e_spendMinutes f v) (upd w 19 (w 19 + v)) 0 0 := by
  unfold f_e_spendMinutes
  have := ST_put h (i := 0) (x := w 19 + v) (by decide) (by decide)
  rw [e_min h]
  exact this
theorem w_rec {f w : Nat → Int32} (h : ST f w 0 0) {x : Int32} : ST (putF 41 f 1 x) (upd w 18 x) 0 0 := ST_put h (i := 1) (x := x) (by decide) (by decide)
theorem and1 (v : Int32) : v &&& 1 = 0 ∨ v &&& 1 = 1 := by
  have h : (v.toBitVec &&& 1#32).toNat ≤ 1 := by
    rw [BitVec.toNat_and]
    exact Nat.and_le_right
  have e : ∀ n : Nat, (v.toBitVec &&& 1#32).toNat = n → v &&& 1 = Int32.ofNat n := by
    intro n hn
    apply Int32.toBitVec_inj.mp
    show v.toBitVec &&& 1#32 = (Int32.ofNat n).toBitVec
    rw [Int32.toBitVec_ofNat', ← hn, BitVec.ofNat_toNat, BitVec.setWidth_eq]
  rcases (show (v.toBitVec &&& 1#32).toNat = 0 ∨ (v.toBitVec &&& 1#32).toNat = 1 by omega) with q | q
  · exact Or.inl (e 0 q)
  · exact Or.inr (e 1 q)
theorem e_isRec (f : Nat → Int32) (c : Int32) : f_e_isReconciled f c = f_m_has (f_e_reconciledSet f) c := by
  unfold f_e_isReconciled f_m_has
  rcases and1 (f_e_reconciledSet f >>> (c &&& 31)) with q | q
  · rw [if_pos q, if_neg (by rw [q]; decide)]
  · rw [if_neg (by rw [q]; decide), if_pos q]
theorem e_done {f w : Nat → Int32} (h : ST f w 0 0) (c : Int32) : f_e_isReconciled f c = f_m_isDone w c := by
  rw [e_isRec, e_rec h]
  rfl
theorem has01 (s k : Int32) : f_m_has s k = 0 ∨ f_m_has s k = 1 := by
  unfold f_m_has
  by_cases c : (s >>> (k &&& 31)) &&& 1 = 1
  · exact Or.inr (if_pos c)
  · exact Or.inl (if_neg c)
theorem e_has {t b : Int32} : (if b < 0 then (0 : Int32) else (if t ≤ b then 0 else 1)) = 0 ↔ ¬ (0 ≤ b.toInt ∧ b.toInt < t.toInt) := by
  by_cases c1 : b < 0
  · rw [if_pos c1]
    rw [i_lt, i_0] at c1
    exact ⟨fun _ => by omega, fun _ => rfl⟩
  · rw [if_neg c1]
    rw [i_lt, i_0] at c1
    by_cases c2 : t ≤ b
    · rw [if_pos c2]
      rw [i_le] at c2
      exact ⟨fun _ => by omega, fun _ => rfl⟩
    · rw [if_neg c2]
      rw [i_le] at c2
      exact ⟨fun q => absurd q (by decide), fun q => absurd ⟨by omega, by omega⟩ q⟩
theorem m_lt {g v : Int32} (h0 : 0 ≤ g.toInt) : ¬ (0 ≤ v.toInt ∧ v.toInt ≤ (g - 1).toInt) ↔ ¬ (0 ≤ v.toInt ∧ v.toInt < g.toInt) := by
  have := Int32.toInt_lt g
  rw [i_sub (by rw [i_1]; omega) (by rw [i_1]; omega), i_1]
  omega
theorem q_couple {G : Nat → Int32} (hG : GI G) (t0 t1 t3 t4 v : Int32) : f_e_hasCouple t0 t1 (G 5) t3 t4 v = 0 ↔ f_m_isCouple G v = 0 := by
  rw [i_isCouple, m_lt hG.2.2.2.1.1]
  exact e_has
theorem q_bridge {G : Nat → Int32} (hG : GI G) (t1 t2 t3 t4 v : Int32) : f_e_hasBridge (G 3) t1 t2 t3 t4 v = 0 ↔ f_m_isBridge G v = 0 := by
  rw [i_isBridge, m_lt hG.2.1.1]
  exact e_has
theorem q_theme {G : Nat → Int32} (hG : GI G) (t0 t2 t3 t4 v : Int32) : f_e_hasTheme t0 (G 4) t2 t3 t4 v = 0 ↔ f_m_isTheme G v = 0 := by
  rw [i_isTheme, m_lt hG.2.2.1.1]
  exact e_has
theorem q_barge {G : Nat → Int32} (hG : GI G) (t0 t1 t2 t4 v : Int32) : f_e_hasBarge t0 t1 t2 (G 6) t4 v = 0 ↔ f_m_isBarge G v = 0 := by
  rw [i_isBarge, m_lt hG.2.2.2.2.1.1]
  exact e_has
theorem l_couple {G : Nat → Int32} (hG : GI G) {v : Int32} (h : ¬ f_m_isCouple G v = 0) : 0 ≤ v.toInt ∧ v.toInt < (G 5).toInt ∧ v.toInt < 6 := by
  rw [i_isCouple, m_lt hG.2.2.2.1.1] at h
  have := hG.2.2.2.1.2
  omega
theorem l_bridge {G : Nat → Int32} (hG : GI G) {v : Int32} (h : ¬ f_m_isBridge G v = 0) : 0 ≤ v.toInt ∧ v.toInt < (G 3).toInt ∧ v.toInt < 6 := by
  rw [i_isBridge, m_lt hG.2.1.1] at h
  have := hG.2.1.2
  omega
theorem l_theme {G : Nat → Int32} (hG : GI G) {v : Int32} (h : ¬ f_m_isTheme G v = 0) : 0 ≤ v.toInt ∧ v.toInt < (G 4).toInt ∧ v.toInt < 5 := by
  rw [i_isTheme, m_lt hG.2.2.1.1] at h
  have := hG.2.2.1.2
  omega
theorem l_barge {G : Nat → Int32} (hG : GI G) {v : Int32} (h : ¬ f_m_isBarge G v = 0) : 0 ≤ v.toInt ∧ v.toInt < (G 6).toInt ∧ v.toInt < 7 := by
  rw [i_isBarge, m_lt hG.2.2.2.2.1.1] at h
  have := hG.2.2.2.2.1.2
  omega
/-- what holds in a block that may come to be the state -/
def BI (G w : Nat → Int32) (h : Nat) : Prop := (∀ c : Nat, c < 6 → 0 ≤ (w (h + c)).toInt ∧ (w (h + c)).toInt ≤ 99) ∧ (∀ c : Nat, c < 6 → (G 5).toInt ≤ c → w (h + c) = 0 ∧ w (h + (6 + c)) = -1) ∧ (∀ c : Nat, c < 6 → -1 ≤ (w (h + (6 + c))).toInt ∧ (w (h + (6 + c))).toInt < (G 3).toInt) ∧ (∀ c d : Nat, c < 6 → d < 6 → c ≠ d → w (h + (6 + c)) = w (h + (6 + d)) → w (h + (6 + c)) = -1) ∧ (∀ c : Nat, c < 6 → 0 ≤ (w (h + (12 + c))).toInt ∧ (w (h + (12 + c))).toInt < (G 4).toInt) ∧ (∀ c : Int32, 0 ≤ c.toInt → c.toInt < 6 → ¬ f_m_has (w (h + 18)) c = 0 → w (h + c.toNatClampNeg) = 0) ∧ (∀ v : Nat, v < 7 → w (h + (20 + v)) = 0 → w (h + (27 + v)) = -1 ∧ w (h + (34 + v)) = -1) ∧ (∀ v : Nat, v < 7 → (G 6).toInt ≤ v → w (h + (20 + v)) = 0) ∧ (0 ≤ (w (h + 18)).toInt ∧ (w (h + 18)).toInt < 64)
theorem BI_of {G G' w w' : Nat → Int32} {h h' : Nat} (q : BI G w h) (e : ∀ k, k < 41 → w' (h' + k) = w (h + k)) (e3 : G' 3 = G 3) (e4 : G' 4 = G 4) (e5 : G' 5 = G 5) (e6 : G' 6 = G 6) : BI G' w' h' := by
  obtain ⟨b1, b2, b3, b4, b5, b6, b7, b8, b9⟩ := q
  refine ⟨fun c hc => ?_, fun c hc hg => ?_, fun c hc => ?_, fun c d hc hd hn => ?_, fun c hc => ?_, fun c h0 h1 => ?_, fun v hv => ?_, fun v hv => ?_, by rw [e 18 (by omega)]; exact b9⟩
  · rw [e c (by omega)]
    exact b1 c hc
  · rw [e c (by omega), e (6 + c) (by omega)]
    rw [e5] at hg
    exact b2 c hc hg
  · rw [e (6 + c) (by omega), e3]
    exact b3 c hc
  · rw [e (6 + c) (by omega), e (6 + d) (by omega)]
    exact b4 c d hc hd hn
  · rw [e (12 + c) (by omega), e4]
    exact b5 c hc
  · have := clN (n := 6) h0 h1
    rw [e 18 (by omega), e c.toNatClampNeg (by omega)]
    exact b6 c h0 h1
  · rw [e (20 + v) (by omega), e (27 + v) (by omega), e (34 + v) (by omega)]
    exact b7 v hv
  · rw [e (20 + v) (by omega), e6]
    exact b8 v hv
theorem who_loop {G w : Nat → Int32} {b : Int32} (h6 : (G 5).toInt ≤ 6) : ∀ (n : Nat) (i found : Int32), 0 ≤ i.toInt → i.toInt ≤ (G 5).toInt → (G 5).toInt - i.toInt < n → ((found = -1 ∧ ∀ c : Nat, (c : Int) < i.toInt → w (6 + c) ≠ b) ∨ (0 ≤ found.toInt ∧ found.toInt < (G 5).toInt ∧ w (6 + found.toNatClampNeg) = b)) → ∃ (j r : Int32), f_m_whoIsAt_5 G w 0 b n i found = (j, r) ∧ ((r = -1 ∧ ∀ c : Nat, (c : Int) < (G 5).toInt → w (6 + c) ≠ b) ∨ (0 ≤ r.toInt ∧ r.toInt < (G 5).toInt ∧ w (6 + r.toNatClampNeg) = b)) := by
  intro n
  induction n with
  | zero => intro i found h0 h1 h2; omega
  | succ n ih =>
    intro i found h0 h1 h2 h3
    rw [f_m_whoIsAt_5_s]
    by_cases c : G 5 ≤ i
    · rw [if_pos c]
      rw [i_le] at c
      refine ⟨i, found, rfl, ?_⟩
      rcases h3 with ⟨q1, q2⟩ | q
      · exact Or.inl ⟨q1, fun c hc => q2 c (by omega)⟩
      · exact Or.inr q
    · rw [if_neg c]
      rw [i_le] at c
      have e := i_a1 (a := i) (by omega) (by omega)
      have ex : ((0 + 6) + i : Int32).toNatClampNeg = 6 + i.toNatClampNeg := by
        have e6 : (0 + 6 : Int32) = 6 := rfl
        rw [e6]
        exact sN (a := 6) (x := 6) (y := 7) rfl h0 (by omega) (by decide)
      rw [ex]
      by_cases d : w (6 + i.toNatClampNeg) = b
      · rw [if_pos d]
        exact ih (i + 1) i (by omega) (by omega) (by omega) (Or.inr ⟨h0, by omega, d⟩)
      · rw [if_neg d]
        refine ih (i + 1) found (by omega) (by omega) (by omega) ?_
        rcases h3 with ⟨q1, q2⟩ | q
        · refine Or.inl ⟨q1, fun c hc => ?_⟩
          by_cases z : (c : Int) < i.toInt
          · exact q2 c z
          · have : c = i.toNatClampNeg := by
              rw [i_clamp]
              omega
            rw [this]
            exact d
        · exact Or.inr q
theorem who_spec {G w : Nat → Int32} {b : Int32} (hG : GI G) : (f_m_whoIsAt G w 0 b = -1 ∧ ∀ c : Nat, (c : Int) < (G 5).toInt → w (6 + c) ≠ b) ∨ (0 ≤ (f_m_whoIsAt G w 0 b).toInt ∧ (f_m_whoIsAt G w 0 b).toInt < (G 5).toInt ∧ w (6 + (f_m_whoIsAt G w 0 b).toNatClampNeg) = b) := by
  have g0 := hG.2.2.2.1.1
  have g6 := hG.2.2.2.1.2
  obtain ⟨j, r, e, h⟩ := who_loop (G := G) (w := w) (b := b) g6 (((G 5).toInt - (0 : Int32).toInt).toNat + 1) 0 (-1) (by decide) (by rw [i_0]; exact g0) (by rw [i_0]; omega) (Or.inl ⟨rfl, fun c hc => absurd hc (by rw [i_0]; omega)⟩)
  have : f_m_whoIsAt G w 0 b = r := by
    unfold f_m_whoIsAt
    rw [e]
  rw [this]
  exact h
theorem at_loop {f w : Nat → Int32} {b : Int32} (h : ST f w 0 0) : ∀ (n : Nat) (i : Int32), 0 ≤ i.toInt → i.toInt ≤ 6 → 6 - i.toInt < n → (∀ c : Nat, (c : Int) < i.toInt → w (6 + c) ≠ b) → (∃ j, f_e_coupleAt_2 f b n i = Sum.inl j ∧ ∀ c : Nat, c < 6 → w (6 + c) ≠ b) ∨ (∃ r : Int32, f_e_coupleAt_2 f b n i = Sum.inr r ∧ 0 ≤ r.toInt ∧ r.toInt < 6 ∧ w (6 + r.toNatClampNeg) = b) := by
  intro n
  induction n with
  | zero => intro i h0 h1 h2; omega
  | succ n ih =>
    intro i h0 h1 h2 h3
    rw [f_e_coupleAt_2_s]
    by_cases c : 6 ≤ i
    · rw [if_pos c]
      rw [i_le] at c
      simp only [Int32.reduceToInt] at c
      exact Or.inl ⟨i, rfl, fun c hc => h3 c (by omega)⟩
    · rw [if_neg c]
      rw [i_le] at c
      simp only [Int32.reduceToInt] at c
      have e := i_a1 (a := i) (by omega) (by omega)
      rw [e_p h h0 (by omega)]
      by_cases d : w (6 + i.toNatClampNeg) = b
      · rw [if_pos d]
        exact Or.inr ⟨i, rfl, h0, by omega, d⟩
      · rw [if_neg d]
        refine ih (i + 1) (by omega) (by omega) (by omega) (fun c hc => ?_)
        by_cases z : (c : Int) < i.toInt
        · exact h3 c z
        · have : c = i.toNatClampNeg := by
            rw [i_clamp]
            omega
          rw [this]
          exact d
theorem at_eq {G f w : Nat → Int32} {b : Int32} (h : ST f w 0 0) (hG : GI G) (hB : BI G w 0) (hb : 0 ≤ b.toInt) : f_e_coupleAt f b = f_m_whoIsAt G w 0 b := by
  obtain ⟨b1, b2, b3, b4, b5, b6, b7, b8, b9⟩ := hB
  have g6 := hG.2.2.2.1.2
  have hm : b ≠ -1 := by
    intro q
    rw [q, i_m1] at hb
    omega
  have key := at_loop (b := b) h 7 0 (by decide) (by decide) (by decide) (fun c hc => absurd hc (by rw [i_0]; omega))
  have e : ((6 : Int32).toInt - (0 : Int32).toInt).toNat + 1 = 7 := rfl
  unfold f_e_coupleAt
  rw [e]
  rcases key with ⟨j, e1, e2⟩ | ⟨r, e1, r0, r1, r2⟩
  · rw [e1]
    rcases who_spec (w := w) (b := b) hG with ⟨q1, q2⟩ | ⟨q0, q1, q2⟩
    · exact q1.symm
    · exact absurd q2 (e2 _ (clN q0 (by omega)))
  · rw [e1]
    show r = f_m_whoIsAt G w 0 b
    have rn := clN (n := 6) r0 r1
    rcases who_spec (w := w) (b := b) hG with ⟨q1, q2⟩ | ⟨q0, q1, q2⟩
    · by_cases z : r.toInt < (G 5).toInt
      · exact absurd r2 (q2 r.toNatClampNeg (by rw [clI r0]; exact z))
      · have := (b2 r.toNatClampNeg rn (by rw [clI r0]; omega)).2
        rw [Nat.zero_add, r2] at this
        exact absurd this hm
    · by_cases z : r.toNatClampNeg = (f_m_whoIsAt G w 0 b).toNatClampNeg
      · exact cl_inj r0 q0 z
      · have := b4 r.toNatClampNeg _ rn (clN q0 (by omega)) z (by rw [Nat.zero_add, Nat.zero_add, r2, q2])
        rw [Nat.zero_add, r2] at this
        exact absurd this hm
end
section
/-! a quarrel, side by side -/
theorem i_div {a d : Int32} (h : 0 ≤ a.toInt) (hd : 0 < d.toInt) : (a / d).toInt = a.toInt / d.toInt := by
  have hne : d ≠ -1 := by
    intro q
    rw [q, i_m1] at hd
    omega
  rw [Int32.toInt_div_of_ne_right _ _ hne, Int.tdiv_eq_ediv_of_nonneg h]
theorem stamp_eq {G f10 : Nat → Int32} {c t g : Int32} (h7 : G 7 = 0 ∨ G 7 = 1) : f_e_stampOf_x9 g (f10 (5 * c + t).toNatClampNeg) (G 7) = f_m_stampOf G f10 c t g := by
  unfold f_e_stampOf_x9 f_m_stampOf
  have sw : ∀ X : Int32, (if X < g then X else g) = (if g ≤ X then g else X) := by
    intro X
    by_cases q : X < g
    · have : ¬ g ≤ X := by
        rw [i_lt] at q
        rw [i_le]
        omega
      rw [if_pos q, if_neg this]
    · have : g ≤ X := by
        rw [i_lt] at q
        rw [i_le]
        omega
      rw [if_neg q, if_pos this]
  rcases h7 with q | q
  · have n : ¬ G 7 = 1 := by rw [q]; decide
    rw [if_pos q, if_neg n, sw]
  · have n : ¬ G 7 = 0 := by rw [q]; decide
    rw [if_neg n, if_pos q, sw]
theorem stamp_b {G f10 : Nat → Int32} {c t g : Int32} (h0 : 0 ≤ g.toInt) (h1 : g.toInt ≤ 99) (f0 : 0 ≤ (f10 (5 * c + t).toNatClampNeg).toInt) (f9 : (f10 (5 * c + t).toNatClampNeg).toInt ≤ 9) : 0 ≤ (f_m_stampOf G f10 c t g).toInt ∧ (f_m_stampOf G f10 c t g).toInt ≤ g.toInt := by
  unfold f_m_stampOf
  generalize f10 (5 * c + t).toNatClampNeg = F at f0 f9
  have e1 : (g / 10).toInt = g.toInt / 10 := i_div h0 (by decide)
  have e2 : (F + g / 10).toInt = F.toInt + g.toInt / 10 := by rw [i_add (by omega) (by omega), e1]
  have e3 : ((F + g / 10) / 2).toInt = (F.toInt + g.toInt / 10) / 2 := by
    have := i_div (a := F + g / 10) (d := 2) (by omega) (by decide)
    rw [this, e2]
    rfl
  by_cases c1 : G 7 = 1
  · rw [if_pos c1]
    by_cases c2 : g ≤ (F + g / 10) / 2
    · rw [if_pos c2]
      omega
    · rw [if_neg c2]
      rw [i_le] at c2
      omega
  · rw [if_neg c1]
    by_cases c2 : g ≤ F + g / 10
    · rw [if_pos c2]
      omega
    · rw [if_neg c2]
      rw [i_le] at c2
      omega
theorem stampG {G H f10 : Nat → Int32} {c t g : Int32} (h : H 7 = G 7) : f_m_stampOf H f10 c t g = f_m_stampOf G f10 c t g := by
  unfold f_m_stampOf
  rw [h]
theorem run_loop {f10 : Nat → Int32} {c t g n1 n2 s : Int32} (g0 : 0 ≤ g.toInt) (g9 : g.toInt ≤ 99) (hs : s = 0 ∨ s = 1) (f0 : 0 ≤ (f10 (5 * c + t).toNatClampNeg).toInt) (f9 : (f10 (5 * c + t).toNatClampNeg).toInt ≤ 9) (hn : ∀ z : Int, 0 ≤ z → z ≤ 99 → (z < n1.toInt ↔ z < n2.toInt)) : ∀ (n m : Nat) (mi sum stamp : Int32) (G : Nat → Int32), G 7 = s → G 32 = mi → 0 ≤ (G 33).toInt → (G 33).toInt ≤ g.toInt → sum.toInt = g.toInt - (G 33).toInt → 0 ≤ mi.toInt → mi.toInt ≤ g.toInt - (G 33).toInt → ((G 33).toInt < g.toInt → 0 < mi.toInt) → stamp = f_m_stampOf G f10 c t (G 33) → (G 33).toInt < n → g.toInt - mi.toInt < m → ∃ (st sm j : Int32) (H : Nat → Int32), f_m_quarrels_25 f10 c t n2 n stamp sum G = (st, sm, H) ∧ (∀ k0 k1 k2 k3 k4 k1' k3' k4', f_e_run_x4_13 k0 k1 k2 k3 k4 g (f10 (5 * c + t).toNatClampNeg) s n1 m mi mi k1' (G 33) k3' k4' = (j, H 32, k1', H 33, k3', k4')) ∧ (∀ k, k ≠ 32 → k ≠ 33 → H k = G k) ∧ sm.toInt = g.toInt - (H 33).toInt ∧ 0 ≤ (H 33).toInt ∧ (H 33).toInt ≤ g.toInt ∧ 0 ≤ (H 32).toInt ∧ (H 32).toInt ≤ g.toInt - (H 33).toInt ∧ ((H 33).toInt < g.toInt → 0 < (H 32).toInt) := by
  intro n
  induction n with
  | zero => intro m mi sum stamp G h7 h32 h0; omega
  | succ n ih =>
    intro m mi sum stamp G h7 h32 h0 h1 h2 h3 h4 h5 h6 h8 h9
    have e7 : f_e_stampOf_x9 (G 33) (f10 (5 * c + t).toNatClampNeg) s = stamp := by
      rw [h6, ← h7]
      exact stamp_eq (by rw [h7]; exact hs)
    have sb := stamp_b (G := G) (f10 := f10) (c := c) (t := t) (g := G 33) h0 (by omega) f0 f9
    rw [← h6] at sb
    have eg := i_sub (a := g) (b := G 33) (by omega) (by omega)
    cases m with
    | zero => omega
    | succ m =>
      rw [f_m_quarrels_25_s]
      by_cases c1 : stamp ≤ 0
      · rw [if_pos c1]
        refine ⟨stamp, sum, mi, G, rfl, fun k0 k1 k2 k3 k4 k1' k3' k4' => ?_, fun k _ _ => rfl, h2, h0, h1, by rw [h32]; exact h3, by rw [h32]; exact h4, by rw [h32]; exact h5⟩
        rw [f_e_run_x4_13_s, h32]
        by_cases d1 : g ≤ mi
        · rw [if_pos d1]
        · rw [if_neg d1]
          by_cases d2 : n1 ≤ g - G 33
          · rw [if_pos d2]
          · rw [if_neg d2, e7, if_neg]
            rw [i_le, i_0] at c1
            rw [i_lt, i_0]
            omega
      · rw [if_neg c1]
        rw [i_le, i_0] at c1
        have hz := hn (g.toInt - (G 33).toInt) (by omega) (by omega)
        by_cases c2 : n2 ≤ sum
        · rw [if_pos c2]
          refine ⟨stamp, sum, mi, G, rfl, fun k0 k1 k2 k3 k4 k1' k3' k4' => ?_, fun k _ _ => rfl, h2, h0, h1, by rw [h32]; exact h3, by rw [h32]; exact h4, by rw [h32]; exact h5⟩
          rw [f_e_run_x4_13_s, h32]
          by_cases d1 : g ≤ mi
          · rw [if_pos d1]
          · have d2 : n1 ≤ g - G 33 := by
              rw [i_le] at c2 ⊢
              omega
            rw [if_neg d1, if_pos d2]
        · rw [if_neg c2]
          rw [i_le] at c2
          have d1 : ¬ g ≤ mi := by
            rw [i_le]
            omega
          have d2 : ¬ n1 ≤ g - G 33 := by
            rw [i_le]
            omega
          have d3 : 0 < stamp := by
            rw [i_lt, i_0]
            omega
          have el := i_sub (a := G 33) (b := stamp) (by omega) (by omega)
          have em := i_a1 (a := mi) (by omega) (by omega)
          have es := i_add (a := sum) (b := stamp) (by omega) (by omega)
          have u33 : (upd (upd G 32 (G 32 + 1)) 33 (G 33 - stamp)) 33 = G 33 - stamp := pk_us
          have u32 : (upd (upd G 32 (G 32 + 1)) 33 (G 33 - stamp)) 32 = mi + 1 := by rw [pk_un (by decide), pk_us, h32]
          have u7 : (upd (upd G 32 (G 32 + 1)) 33 (G 33 - stamp)) 7 = s := by rw [pk_un (by decide), pk_un (by decide)]; exact h7
          have uo : ∀ k, k ≠ 32 → k ≠ 33 → (upd (upd G 32 (G 32 + 1)) 33 (G 33 - stamp)) k = G k := fun k a b => by rw [pk_un b, pk_un a]
          generalize upd (upd G 32 (G 32 + 1)) 33 (G 33 - stamp) = U at u33 u32 u7 uo
          obtain ⟨st, sm, j, H, x1, x2, x3, x4, x5, x6, x7, x8, x9⟩ := ih m (mi + 1) (sum + stamp) (f_m_stampOf U f10 c t (G 33 - stamp)) U u7 u32 (by rw [u33]; omega) (by rw [u33]; omega) (by rw [u33]; omega) (by omega) (by rw [u33]; omega) (fun _ => by omega) (by rw [u33]) (by rw [u33]; omega) (by omega)
          refine ⟨st, sm, j, H, x1, fun k0 k1 k2 k3 k4 k1' k3' k4' => ?_, fun k a b => (x3 k a b).trans (uo k a b), x4, x5, x6, x7, x8, x9⟩
          have := x2 k0 k1 k2 k3 k4 k1' k3' k4'
          rw [u33] at this
          rw [f_e_run_x4_13_s, if_neg d1, if_neg d2, e7, if_pos d3, this]
/-- the class's quarrel (minutes, cost, left, opened, reconciled) and the reference's (fields 32, 33, 34) -/
theorem run_eq {G f10 : Nat → Int32} {c t g n1 n2 : Int32} (g0 : 0 ≤ g.toInt) (g9 : g.toInt ≤ 99) (h7 : G 7 = 0 ∨ G 7 = 1) (f0 : 0 ≤ (f10 (5 * c + t).toNatClampNeg).toInt) (f9 : (f10 (5 * c + t).toNatClampNeg).toInt ≤ 9) (hn : ∀ z : Int, 0 ≤ z → z ≤ 99 → (z < n1.toInt ↔ z < n2.toInt)) : ∃ (H : Nat → Int32) (re : Int32), f_m_quarrels G f10 c t g n2 = H ∧ (∀ k0 k1 k2 k3 k4, f_e_run_x4 k0 k1 k2 k3 k4 g (f10 (5 * c + t).toNatClampNeg) (G 7) n1 = (H 32, g - H 33, H 33, H 34, re)) ∧ (∀ k, k < 32 ∨ 35 ≤ k → H k = G k) ∧ (H 34 = 0 ∨ H 34 = 1) ∧ (re = 0 ∨ re = 1) ∧ (re ≠ 0 ↔ (H 33 = 0 ∧ 0 < (H 32).toInt)) ∧ 0 ≤ (H 33).toInt ∧ (H 33).toInt ≤ g.toInt ∧ 0 ≤ (H 32).toInt ∧ (H 32).toInt ≤ 99 ∧ ((H 34) ≠ 0 ↔ n2.toInt ≤ g.toInt - (H 33).toInt) := by
  have u33 : (upd (upd G 32 0) 33 g) 33 = g := pk_us
  have u32 : (upd (upd G 32 0) 33 g) 32 = 0 := by rw [pk_un (by decide), pk_us]
  have u7 : (upd (upd G 32 0) 33 g) 7 = G 7 := by rw [pk_un (by decide), pk_un (by decide)]
  have uo : ∀ k, k < 32 ∨ 35 ≤ k → (upd (upd G 32 0) 33 g) k = G k := fun k hk => by rw [pk_un (by omega), pk_un (by omega)]
  have hq : f_m_quarrels G f10 c t g n2 = (match (f_m_quarrels_25 f10 c t n2 (g.toInt.toNat + 2) (f_m_stampOf (upd (upd G 32 0) 33 g) f10 c t g) 0 (upd (upd G 32 0) 33 g)) with | (w_4l6, w_4l5, w_4m0) => (if w_4l5 < n2 then (upd w_4m0 34 0) else (upd w_4m0 34 1))) := rfl
  rw [hq]
  generalize upd (upd G 32 0) 33 g = U at u33 u32 u7 uo
  obtain ⟨st, sm, j, H, x1, x2, x3, x4, x5, x6, x7, x8, x9⟩ := run_loop (f10 := f10) (c := c) (t := t) (n1 := n1) (n2 := n2) g0 g9 h7 f0 f9 hn (g.toInt.toNat + 2) ((g.toInt - (0 : Int32).toInt).toNat + 1) 0 0 (f_m_stampOf U f10 c t g) U u7 u32 (by rw [u33]; exact g0) (by rw [u33]; exact Int.le_refl _) (by rw [u33, i_0]; omega) (by decide) (by rw [u33, i_0]; omega) (fun q => by rw [u33] at q; omega) (by rw [u33]) (by rw [u33]; omega) (by rw [i_0]; omega)
  have eg := i_sub (a := g) (b := H 33) (by omega) (by omega)
  have hz := hn (g.toInt - (H 33).toInt) (by omega) (by omega)
  rw [x1]
  dsimp (config := { etaStruct := .none }) only
  have he : ∀ k0 k1 k2 k3 k4, f_e_run_x4 k0 k1 k2 k3 k4 g (f10 (5 * c + t).toNatClampNeg) (G 7) n1 = (if (g - H 33) < n1 then (if (g - H 33) ≤ 0 then (H 32, (g - H 33), H 33, 0, 0) else (if H 33 = 0 then (H 32, (g - H 33), H 33, 0, 1) else (H 32, (g - H 33), H 33, 0, 0))) else (if (g - H 33) ≤ 0 then (H 32, (g - H 33), H 33, 1, 0) else (if H 33 = 0 then (H 32, (g - H 33), H 33, 1, 1) else (H 32, (g - H 33), H 33, 1, 0)))) := by
    intro k0 k1 k2 k3 k4
    unfold f_e_run_x4
    have := x2 k0 k1 k2 k3 k4 k1 k3 k4
    rw [u33] at this
    rw [this]
  have op : ∃ o : Int32, (if sm < n2 then (upd H 34 0) else (upd H 34 1)) = upd H 34 o ∧ ((o = 0 ∧ (g - H 33) < n1 ∧ ¬ n2.toInt ≤ g.toInt - (H 33).toInt) ∨ (o = 1 ∧ ¬ (g - H 33) < n1 ∧ n2.toInt ≤ g.toInt - (H 33).toInt)) := by
    by_cases q : sm < n2
    · rw [if_pos q]
      rw [i_lt, x4] at q
      exact ⟨0, rfl, Or.inl ⟨rfl, by rw [i_lt]; omega, by omega⟩⟩
    · rw [if_neg q]
      rw [i_lt, x4] at q
      exact ⟨1, rfl, Or.inr ⟨rfl, by rw [i_lt]; omega, by omega⟩⟩
  obtain ⟨o, o1, o2⟩ := op
  have rr : ∃ re : Int32, (∀ a : Int32, (if (g - H 33) ≤ 0 then (H 32, (g - H 33), H 33, a, (0 : Int32)) else (if H 33 = 0 then (H 32, (g - H 33), H 33, a, 1) else (H 32, (g - H 33), H 33, a, 0))) = (H 32, g - H 33, H 33, a, re)) ∧ (re = 0 ∨ re = 1) ∧ (re ≠ 0 ↔ (H 33 = 0 ∧ 0 < (H 32).toInt)) := by
    by_cases q : (g - H 33) ≤ 0
    · refine ⟨0, fun a => if_pos q, Or.inl rfl, ⟨fun z => absurd rfl z, fun z => ?_⟩⟩
      rw [i_le, i_0, eg] at q
      omega
    · have q' := q
      rw [i_le, i_0, eg] at q
      by_cases p : H 33 = 0
      · refine ⟨1, fun a => by rw [if_neg q', if_pos p], Or.inr rfl, ⟨fun _ => ⟨p, x9 (by omega)⟩, fun _ => by decide⟩⟩
      · exact ⟨0, fun a => by rw [if_neg q', if_neg p], Or.inl rfl, ⟨fun z => absurd rfl z, fun z => absurd z.1 p⟩⟩
  obtain ⟨re, r1, r2, r3⟩ := rr
  have v32 : (upd H 34 o) 32 = H 32 := pk_un (by decide)
  have v33 : (upd H 34 o) 33 = H 33 := pk_un (by decide)
  have v34 : (upd H 34 o) 34 = o := pk_us
  refine ⟨upd H 34 o, re, o1, fun k0 k1 k2 k3 k4 => ?_, fun k hk => ?_, ?_, r2, ?_, ?_, ?_, ?_, ?_, ?_⟩
  · rw [he, v32, v33, v34]
    rcases o2 with ⟨rfl, z, _⟩ | ⟨rfl, z, _⟩
    · rw [if_pos z, r1]
    · rw [if_neg z, r1]
  · rw [pk_un (by omega), x3 k (by omega) (by omega), uo k hk]
  · rw [v34]
    rcases o2 with ⟨z, _⟩ | ⟨z, _⟩
    · exact Or.inl z
    · exact Or.inr z
  · rw [v32, v33]
    exact r3
  · rw [v33]
    exact x5
  · rw [v33]
    exact x6
  · rw [v32]
    exact x7
  · rw [v32]
    omega
  · rw [v33, v34]
    rcases o2 with ⟨rfl, _, z⟩ | ⟨rfl, _, z⟩
    · exact ⟨fun q => absurd rfl q, fun q => absurd q z⟩
    · exact ⟨fun _ => z, fun _ => by decide⟩
end
section
/-! blocks that are kept and brought back, side by side -/
theorem i_mulc {a b : Int32} {k : Int} (ha : a.toInt = k) (h1 : -2147483648 ≤ k * b.toInt) (h2 : k * b.toInt < 2147483648) : (a * b).toInt = k * b.toInt := by
  rw [i_mul (by rw [ha]; exact h1) (by rw [ha]; exact h2), ha]
theorem i_mulr {a b : Int32} {k : Int} (hb : b.toInt = k) (h1 : -2147483648 ≤ a.toInt * k) (h2 : a.toInt * k < 2147483648) : (a * b).toInt = a.toInt * k := by
  rw [i_mul (by rw [hb]; exact h1) (by rw [hb]; exact h2), hb]
theorem copy_loop {fr to : Int32} (a0 : 0 ≤ fr.toInt) (a1 : fr.toInt ≤ 1260) (b0 : 0 ≤ to.toInt) (b1 : to.toInt ≤ 1260) (hd : fr.toInt + 42 ≤ to.toInt ∨ to.toInt + 42 ≤ fr.toInt) : ∀ (n : Nat) (i : Int32) (w : Nat → Int32), 0 ≤ i.toInt → i.toInt ≤ 42 → 42 - i.toInt < n → ∃ (j : Int32) (u : Nat → Int32), f_m_copy_2 fr to n i w = (j, u) ∧ (∀ k : Nat, i.toInt ≤ k → k < 42 → u (to.toNatClampNeg + k) = w (fr.toNatClampNeg + k)) ∧ (∀ x : Nat, ¬ (to.toInt + i.toInt ≤ x ∧ (x : Int) < to.toInt + 42) → u x = w x) := by
  have ef := clI a0
  have et := clI b0
  intro n
  induction n with
  | zero => intro i w h0 h1 h2; omega
  | succ n ih =>
    intro i w h0 h1 h2
    rw [f_m_copy_2_s]
    by_cases c : 42 ≤ i
    · rw [if_pos c]
      rw [i_le] at c
      simp only [Int32.reduceToInt] at c
      exact ⟨i, w, rfl, fun k hk hl => by omega, fun x _ => rfl⟩
    · rw [if_neg c]
      rw [i_le] at c
      simp only [Int32.reduceToInt] at c
      have e := i_a1 (a := i) (by omega) (by omega)
      have ei := clI h0
      rw [ixn b0 h0 (by omega), ixn a0 h0 (by omega)]
      obtain ⟨j, u, x1, x2, x3⟩ := ih (i + 1) (upd w (to.toNatClampNeg + i.toNatClampNeg) (w (fr.toNatClampNeg + i.toNatClampNeg))) (by omega) (by omega) (by omega)
      refine ⟨j, u, x1, fun k hk hl => ?_, fun x hx => ?_⟩
      · by_cases q : k = i.toNatClampNeg
        · subst q
          rw [x3 _ (by omega), pk_us]
        · rw [x2 k (by omega) hl, pk_un (by omega)]
      · rw [x3 x (by omega), pk_un (by omega)]
theorem copy_spec {fr to : Int32} (w : Nat → Int32) (a0 : 0 ≤ fr.toInt) (a1 : fr.toInt ≤ 1260) (b0 : 0 ≤ to.toInt) (b1 : to.toInt ≤ 1260) (hd : fr.toInt + 42 ≤ to.toInt ∨ to.toInt + 42 ≤ fr.toInt) : (∀ k : Nat, k < 42 → f_m_copy w fr to (to.toNatClampNeg + k) = w (fr.toNatClampNeg + k)) ∧ (∀ x : Nat, ¬ (to.toInt ≤ x ∧ (x : Int) < to.toInt + 42) → f_m_copy w fr to x = w x) := by
  obtain ⟨j, u, x1, x2, x3⟩ := copy_loop a0 a1 b0 b1 hd 43 0 w (by decide) (by decide) (by decide)
  have e : f_m_copy w fr to = u := by
    unfold f_m_copy
    have e43 : ((42 : Int32).toInt - (0 : Int32).toInt).toNat + 1 = 43 := rfl
    rw [e43, x1]
  rw [e]
  rw [i_0] at x2 x3
  exact ⟨fun k hk => x2 k (by omega) hk, fun x hx => x3 x (by omega)⟩
theorem shift_loop {G : Nat → Int32} : ∀ (n : Nat) (i : Int32) (w : Nat → Int32), 0 ≤ i.toInt → i.toInt ≤ 798 → 798 - i.toInt < n → ∃ (j : Int32) (u : Nat → Int32), f_m_minds_11 n i G w = (j, G, u) ∧ (∀ k : Nat, i.toInt ≤ k → k < 798 → u (462 + k) = w (462 + k + 42)) ∧ (∀ x : Nat, ¬ (462 + i.toInt ≤ x ∧ x < 1260) → u x = w x) := by
  intro n
  induction n with
  | zero => intro i w h0 h1 h2; omega
  | succ n ih =>
    intro i w h0 h1 h2
    rw [f_m_minds_11_s]
    by_cases c : 798 ≤ i
    · rw [if_pos c]
      rw [i_le] at c
      simp only [Int32.reduceToInt] at c
      exact ⟨i, w, rfl, fun k hk hl => by omega, fun x _ => rfl⟩
    · rw [if_neg c]
      rw [i_le] at c
      simp only [Int32.reduceToInt] at c
      have e := i_a1 (a := i) (by omega) (by omega)
      have ei := clI h0
      have x462 : (462 : Int32).toInt = 462 := rfl
      have x42 : (42 : Int32).toInt = 42 := rfl
      have ea := i_add (a := 462) (b := i) (by omega) (by omega)
      have e1 : (462 + i).toNatClampNeg = 462 + i.toNatClampNeg := by
        rw [ixn (by decide) h0 (by omega)]
        rfl
      have e2 : (462 + i + 42).toNatClampNeg = 462 + i.toNatClampNeg + 42 := by
        rw [ixn (by omega) (by decide) (by omega), e1]
        rfl
      rw [e1, e2]
      obtain ⟨j, u, x1, x2, x3⟩ := ih (i + 1) (upd w (462 + i.toNatClampNeg) (w (462 + i.toNatClampNeg + 42))) (by omega) (by omega) (by omega)
      refine ⟨j, u, x1, fun k hk hl => ?_, fun x hx => ?_⟩
      · by_cases q : k = i.toNatClampNeg
        · subst q
          rw [x3 _ (by omega), pk_us]
        · rw [x2 k (by omega) hl, pk_un (by omega)]
      · rw [x3 x (by omega), pk_un (by omega)]
theorem minds_spec {G w : Nat → Int32} (hG : GI G) : ∃ (H u : Nat → Int32), f_m_minds G w = (H, u) ∧ (∀ k, k ≠ 2 → H k = G k) ∧ (∀ x, x < 462 → u x = w x) ∧ ((G 2 = 20 ∧ H 2 = 20 ∧ (∀ i k : Nat, i < 19 → k < 42 → u (462 + 42 * i + k) = w (462 + 42 * (i + 1) + k)) ∧ (∀ k : Nat, k < 42 → u (1260 + k) = w k)) ∨ ((G 2).toInt < 20 ∧ H 2 = G 2 + 1 ∧ (∀ x : Nat, x < 462 + 42 * (G 2).toNatClampNeg → u x = w x) ∧ (∀ k : Nat, k < 42 → u (462 + 42 * (G 2).toNatClampNeg + k) = w k))) := by
  obtain ⟨⟨g0, g20⟩, _⟩ := hG
  unfold f_m_minds
  by_cases c : G 2 = 20
  · obtain ⟨j, u, x1, x2, x3⟩ := shift_loop (G := G) 799 0 w (by decide) (by decide) (by decide)
    rw [i_0] at x2 x3
    have e : ((798 : Int32).toInt - (0 : Int32).toInt).toNat + 1 = 799 := rfl
    have cs := copy_spec (fr := 0) (to := 1260) u (by decide) (by decide) (by decide) (by decide) (by decide)
    have et : (462 + 42 * (G 2 - 1) : Int32) = 1260 := by rw [c]; rfl
    have n1260 : (1260 : Int32).toNatClampNeg = 1260 := rfl
    have i1260 : (1260 : Int32).toInt = 1260 := rfl
    rw [n1260, i1260] at cs
    have n0 : (0 : Int32).toNatClampNeg = 0 := rfl
    rw [n0] at cs
    rw [if_pos c, e, x1]
    dsimp (config := { etaStruct := .none }) only
    rw [et]
    refine ⟨_, _, rfl, fun k hk => by rw [pk_un hk, pk_un hk], fun x hx => ?_, Or.inl ⟨c, ?_, fun i k hi hk => ?_, fun k hk => ?_⟩⟩
    · rw [cs.2 x (by omega), x3 x (by omega)]
    · rw [pk_us, pk_us, c]
      rfl
    · rw [cs.2 _ (by omega)]
      have := x2 (42 * i + k) (by omega) (by omega)
      rw [show 462 + 42 * i + k = 462 + (42 * i + k) by omega, this]
      exact congrArg w (by omega)
    · rw [cs.1 k hk, Nat.zero_add, x3 k (by omega)]
  · have g19 : (G 2).toInt < 20 := by
      rw [i_eq] at c
      simp only [Int32.reduceToInt] at c
      omega
    have x42 : (42 : Int32).toInt = 42 := rfl
    have x462 : (462 : Int32).toInt = 462 := rfl
    have em := i_mulc (a := 42) (k := 42) (b := G 2) rfl (by omega) (by omega)
    have ea := i_add (a := 462) (b := 42 * G 2) (by omega) (by omega)
    rw [em, x462] at ea
    have eN : (462 + 42 * G 2 : Int32).toNatClampNeg = 462 + 42 * (G 2).toNatClampNeg := by
      rw [i_clamp, i_clamp, ea]
      omega
    have eC := clI g0
    have cs := copy_spec (fr := 0) (to := 462 + 42 * G 2) w (by decide) (by decide) (by omega) (by omega) (by rw [i_0, ea]; omega)
    rw [eN, ea] at cs
    have n0 : (0 : Int32).toNatClampNeg = 0 := rfl
    rw [n0] at cs
    rw [if_neg c]
    refine ⟨_, _, rfl, fun k hk => pk_un hk, fun x hx => ?_, Or.inr ⟨g19, pk_us, fun x hx => ?_, fun k hk => ?_⟩⟩
    · rw [cs.2 x (by omega)]
    · rw [cs.2 x (by omega)]
    · rw [cs.1 k hk, Nat.zero_add]
theorem mod20 {x : Int32} (h0 : 0 ≤ x.toInt) (h1 : x.toInt < 1000) : (x - x / 20 * 20).toInt = x.toInt % 20 := by
  have x20 : (20 : Int32).toInt = 20 := rfl
  have e1 := i_div (a := x) (d := 20) h0 (by decide)
  rw [x20] at e1
  have e2 := i_mul (a := x / 20) (b := 20) (by rw [e1, x20]; omega) (by rw [e1, x20]; omega)
  rw [e1, x20] at e2
  rw [i_sub (by rw [e2]; omega) (by rw [e2]; omega), e2]
  omega
theorem store_spec {fsh fn : Nat → Int32} {i : Int32} (h0 : 0 ≤ i.toInt) (h1 : i.toInt < 20) : (∀ k : Nat, k < 41 → f_e_store20 fsh fn i (i.toNatClampNeg * 41 + k) = fn k) ∧ (∀ s k : Nat, s ≠ i.toNatClampNeg → k < 41 → f_e_store20 fsh fn i (s * 41 + k) = fsh (s * 41 + k)) := by
  have em := i_mulr (a := i) (b := 41) (k := 41) rfl (by omega) (by omega)
  have eN : (i * 41).toNatClampNeg = i.toNatClampNeg * 41 := by
    rw [i_clamp, i_clamp, em]
    omega
  have n0 : (0 : Int32).toNatClampNeg = 0 := rfl
  have n41 : (41 : Int32).toNatClampNeg = 41 := rfl
  have e : f_e_store20 fsh fn i = va_cpy fn fsh 0 (i.toNatClampNeg * 41) 41 := by
    unfold f_e_store20
    rw [if_neg (by rw [i_lt, i_0]; omega), if_neg (by rw [i_le]; simp only [Int32.reduceToInt]; omega), eN, n0, n41]
  rw [e]
  unfold va_cpy
  refine ⟨fun k hk => ?_, fun s k hs hk => ?_⟩
  · rw [if_pos (by omega)]
    exact congrArg fn (by omega)
  · rw [if_neg]
    omega
theorem fetch_spec {fsh fn : Nat → Int32} {i : Int32} (h0 : 0 ≤ i.toInt) (h1 : i.toInt < 20) : ∀ k : Nat, k < 41 → f_e_fetch20 fsh fn i k = fsh (i.toNatClampNeg * 41 + k) := by
  have em := i_mulr (a := i) (b := 41) (k := 41) rfl (by omega) (by omega)
  have eN : (i * 41).toNatClampNeg = i.toNatClampNeg * 41 := by
    rw [i_clamp, i_clamp, em]
    omega
  have n0 : (0 : Int32).toNatClampNeg = 0 := rfl
  have n41 : (41 : Int32).toNatClampNeg = 41 := rfl
  have e : f_e_fetch20 fsh fn i = va_cpy fsh fn (i.toNatClampNeg * 41) 0 41 := by
    unfold f_e_fetch20
    rw [if_neg (by rw [i_lt, i_0]; omega), if_neg (by rw [i_le]; simp only [Int32.reduceToInt]; omega), eN, n0, n41]
  intro k hk
  rw [e]
  unfold va_cpy
  rw [if_pos (by omega)]
  exact congrArg fsh (by omega)
theorem store2_spec {fsh fn : Nat → Int32} {i : Int32} (h0 : 0 ≤ i.toInt) (h1 : i.toInt < 2) : (∀ k : Nat, k < 41 → f_e_store2 fsh fn i (i.toNatClampNeg * 41 + k) = fn k) ∧ (∀ s k : Nat, s ≠ i.toNatClampNeg → k < 41 → f_e_store2 fsh fn i (s * 41 + k) = fsh (s * 41 + k)) := by
  have em := i_mulr (a := i) (b := 41) (k := 41) rfl (by omega) (by omega)
  have eN : (i * 41).toNatClampNeg = i.toNatClampNeg * 41 := by
    rw [i_clamp, i_clamp, em]
    omega
  have n0 : (0 : Int32).toNatClampNeg = 0 := rfl
  have n41 : (41 : Int32).toNatClampNeg = 41 := rfl
  have e : f_e_store2 fsh fn i = va_cpy fn fsh 0 (i.toNatClampNeg * 41) 41 := by
    unfold f_e_store2
    rw [if_neg (by rw [i_lt, i_0]; omega), if_neg (by rw [i_le]; simp only [Int32.reduceToInt]; omega), eN, n0, n41]
  rw [e]
  unfold va_cpy
  refine ⟨fun k hk => ?_, fun s k hs hk => ?_⟩
  · rw [if_pos (by omega)]
    exact congrArg fn (by omega)
  · rw [if_neg]
    omega
theorem fetch2_spec {fsh fn : Nat → Int32} {i : Int32} (h0 : 0 ≤ i.toInt) (h1 : i.toInt < 2) : ∀ k : Nat, k < 41 → f_e_fetch2 fsh fn i k = fsh (i.toNatClampNeg * 41 + k) := by
  have em := i_mulr (a := i) (b := 41) (k := 41) rfl (by omega) (by omega)
  have eN : (i * 41).toNatClampNeg = i.toNatClampNeg * 41 := by
    rw [i_clamp, i_clamp, em]
    omega
  have n0 : (0 : Int32).toNatClampNeg = 0 := rfl
  have n41 : (41 : Int32).toNatClampNeg = 41 := rfl
  have e : f_e_fetch2 fsh fn i = va_cpy fsh fn (i.toNatClampNeg * 41) 0 41 := by
    unfold f_e_fetch2
    rw [if_neg (by rw [i_lt, i_0]; omega), if_neg (by rw [i_le]; simp only [Int32.reduceToInt]; omega), eN, n0, n41]
  intro k hk
  rw [e]
  unfold va_cpy
  rw [if_pos (by omega)]
  exact congrArg fsh (by omega)
/-- what can be undone -/
def UR (G : Nat → Int32) (p1 p2 : Int32) (fsh w : Nat → Int32) : Prop := p2 = G 2 ∧ 0 ≤ p1.toInt ∧ p1.toInt < 20 ∧ ∀ i : Nat, (i : Int) < (G 2).toInt → ST fsh w (((p1.toNatClampNeg + i) % 20) * 41) (462 + 42 * i) ∧ BI G w (462 + 42 * i)
theorem UR_of {G H w u fsh : Nat → Int32} {p1 p2 : Int32} (h : UR G p1 p2 fsh w) (hG : GI G) (e : ∀ x, 462 ≤ x → x < 1302 → u x = w x) (e2 : H 2 = G 2) (e3 : H 3 = G 3) (e4 : H 4 = G 4) (e5 : H 5 = G 5) (e6 : H 6 = G 6) : UR H p1 p2 fsh u := by
  obtain ⟨u1, u2, u3, u4⟩ := h
  have g20 := hG.1.2
  refine ⟨by rw [e2]; exact u1, u2, u3, fun i hi => ?_⟩
  rw [e2] at hi
  have q := u4 i hi
  have ee : ∀ k, k < 41 → u (462 + 42 * i + k) = w (462 + 42 * i + k) := fun k hk => e _ (by omega) (by omega)
  exact ⟨ST_of q.1 ee, BI_of q.2 ee e3 e4 e5 e6⟩
theorem UR_nil {G H w fsh : Nat → Int32} {p1 : Int32} (h1 : 0 ≤ p1.toInt) (h2 : p1.toInt < 20) (e : H 2 = 0) : UR H p1 0 fsh w := ⟨e.symm, h1, h2, fun i hi => absurd hi (by rw [e, i_0]; omega)⟩
theorem remember_eq {G w fn fsh : Nat → Int32} {p1 p2 : Int32} (hG : GI G) (hU : UR G p1 p2 fsh w) (hS : ST fn w 0 0) (hB : BI G w 0) : ∃ (q1 q2 : Int32) (gsh H u : Nat → Int32), f_e_remember_x2 p1 p2 fsh fn = (q1, q2, gsh) ∧ f_m_minds G w = (H, u) ∧ UR H q1 q2 gsh u ∧ (∀ k, k ≠ 2 → H k = G k) ∧ (∀ x, x < 462 → u x = w x) := by
  obtain ⟨u1, u2, u3, u4⟩ := hU
  obtain ⟨H, u, m1, m2, m3, m4⟩ := minds_spec (w := w) hG
  have e3 := m2 3 (by decide)
  have e4 := m2 4 (by decide)
  have e5 := m2 5 (by decide)
  have e6 := m2 6 (by decide)
  have ep := clI u2
  have g0 := hG.1.1
  subst u1
  rcases m4 with ⟨c, h2, y1, y2⟩ | ⟨c, h2, y1, y2⟩
  · have a1 := i_a1 (a := p1) (by omega) (by omega)
    have s1 := mod20 (x := p1 + 1) (by omega) (by omega)
    generalize hq : (p1 + 1) - (p1 + 1) / 20 * 20 = q1 at s1
    have x19 : (G 2 - 1 : Int32) = 19 := by rw [c]; rfl
    have i19 : (19 : Int32).toInt = 19 := rfl
    have a2 := i_add (a := q1) (b := 19) (by omega) (by omega)
    have s2 := mod20 (x := q1 + 19) (by omega) (by omega)
    generalize hs : (q1 + 19) - (q1 + 19) / 20 * 20 = sl at s2
    have eq := clI (c := q1) (by omega)
    have es := clI (c := sl) (by omega)
    have st := store_spec (fsh := fsh) (fn := fn) (i := sl) (by omega) (by omega)
    refine ⟨q1, 20, f_e_store20 fsh fn sl, H, u, ?_, m1, ⟨h2.symm, by omega, by omega, fun i hi => ?_⟩, m2, m3⟩
    · unfold f_e_remember_x2
      rw [if_pos c, hq, x19, hs]
      rfl
    · rw [h2] at hi
      have i20 : (20 : Int32).toInt = 20 := rfl
      rw [i20] at hi
      by_cases q : i = 19
      · subst q
        have hsl : (q1.toNatClampNeg + 19) % 20 = sl.toNatClampNeg := by omega
        rw [hsl]
        refine ⟨fun k hk => ?_, BI_of hB (fun k hk => ?_) e3 e4 e5 e6⟩
        · have := cx_lt hk
          rw [st.1 k hk]
          have h0 := hS k hk
          rw [Nat.zero_add, Nat.zero_add] at h0
          rw [h0, show 462 + 42 * 19 + cx k = 1260 + cx k by omega, y2 _ (by omega)]
        · rw [show 462 + 42 * 19 + k = 1260 + k by omega, y2 _ (by omega), Nat.zero_add]
      · obtain ⟨z1, z2⟩ := u4 (i + 1) (by rw [c, i20]; omega)
        have hsl : (q1.toNatClampNeg + i) % 20 = (p1.toNatClampNeg + (i + 1)) % 20 := by omega
        have hne : (p1.toNatClampNeg + (i + 1)) % 20 ≠ sl.toNatClampNeg := by omega
        rw [hsl]
        refine ⟨fun k hk => ?_, BI_of z2 (fun k hk => y1 i k (by omega) (by omega)) e3 e4 e5 e6⟩
        have := cx_lt hk
        rw [st.2 _ k hne hk, z1 k hk, y1 i (cx k) (by omega) (by omega)]
  · have a2 := i_add (a := p1) (b := G 2) (by omega) (by omega)
    have s2 := mod20 (x := p1 + G 2) (by omega) (by omega)
    generalize hs : (p1 + G 2) - (p1 + G 2) / 20 * 20 = sl at s2
    have eg := clI g0
    have es := clI (c := sl) (by omega)
    have st := store_spec (fsh := fsh) (fn := fn) (i := sl) (by omega) (by omega)
    have cne : ¬ G 2 = 20 := by
      intro q
      rw [q] at c
      exact absurd c (by decide)
    have ea := i_a1 (a := G 2) (by omega) (by omega)
    refine ⟨p1, G 2 + 1, f_e_store20 fsh fn sl, H, u, ?_, m1, ⟨h2.symm, u2, u3, fun i hi => ?_⟩, m2, m3⟩
    · unfold f_e_remember_x2
      rw [if_neg cne, hs]
    · rw [h2, ea] at hi
      by_cases q : i = (G 2).toNatClampNeg
      · subst q
        have hsl : (p1.toNatClampNeg + (G 2).toNatClampNeg) % 20 = sl.toNatClampNeg := by omega
        rw [hsl]
        refine ⟨fun k hk => ?_, BI_of hB (fun k hk => ?_) e3 e4 e5 e6⟩
        · have := cx_lt hk
          rw [st.1 k hk]
          have h0 := hS k hk
          rw [Nat.zero_add, Nat.zero_add] at h0
          rw [h0, y2 _ (by omega)]
        · rw [y2 _ (by omega), Nat.zero_add]
      · obtain ⟨z1, z2⟩ := u4 i (by omega)
        have hne : (p1.toNatClampNeg + i) % 20 ≠ sl.toNatClampNeg := by omega
        refine ⟨fun k hk => ?_, BI_of z2 (fun k hk => y1 _ (by omega)) e3 e4 e5 e6⟩
        have := cx_lt hk
        rw [st.2 _ k hne hk, z1 k hk, y1 _ (by omega)]
/-- the images -/
def IR (G : Nat → Int32) (q10 : Int32) (fim fis f1 w : Nat → Int32) : Prop := (q10 = 0 ∨ q10 = 1 ∨ q10 = 2 ∨ q10 = 3) ∧ ∀ i : Int32, i = 0 ∨ i = 1 → ((q10 >>> (i &&& 31)) &&& 1 = 0 ↔ f1 i.toNatClampNeg = 0) ∧ (¬ f1 i.toNatClampNeg = 0 → ST fim w (i.toNatClampNeg * 41) (378 + 42 * i.toNatClampNeg) ∧ fis i.toNatClampNeg = w (378 + 42 * i.toNatClampNeg + 41) ∧ BI G w (378 + 42 * i.toNatClampNeg))
theorem IR_of {G H w u fim fis f1 : Nat → Int32} {q10 : Int32} (h : IR G q10 fim fis f1 w) (e : ∀ x, 378 ≤ x → x < 462 → u x = w x) (e3 : H 3 = G 3) (e4 : H 4 = G 4) (e5 : H 5 = G 5) (e6 : H 6 = G 6) : IR H q10 fim fis f1 u := by
  obtain ⟨h1, h2⟩ := h
  refine ⟨h1, fun i hi => ⟨(h2 i hi).1, fun hk => ?_⟩⟩
  have hn : i.toNatClampNeg < 2 := by
    rcases hi with rfl | rfl
    · decide
    · decide
  obtain ⟨a, b, c⟩ := (h2 i hi).2 hk
  exact ⟨ST_of a (fun k hk => e _ (by omega) (by omega)), by rw [e _ (by omega) (by omega)]; exact b, BI_of c (fun k hk => e _ (by omega) (by omega)) e3 e4 e5 e6⟩
theorem IR_nil {G w fim fis : Nat → Int32} : IR G 0 fim fis (fun _ => 0) w := ⟨Or.inl rfl, fun i hi => ⟨⟨fun _ => rfl, fun _ => by rcases hi with rfl | rfl <;> decide⟩, fun hk => absurd rfl hk⟩⟩
theorem bit_or (q i j : Int32) (hq : q = 0 ∨ q = 1 ∨ q = 2 ∨ q = 3) (hi : i = 0 ∨ i = 1) (hj : j = 0 ∨ j = 1) : ((q ||| (1 <<< (i &&& 31))) = 0 ∨ (q ||| (1 <<< (i &&& 31))) = 1 ∨ (q ||| (1 <<< (i &&& 31))) = 2 ∨ (q ||| (1 <<< (i &&& 31))) = 3) ∧ (((q ||| (1 <<< (i &&& 31))) >>> (j &&& 31)) &&& 1 = 0 ↔ (j ≠ i ∧ (q >>> (j &&& 31)) &&& 1 = 0)) := by
  rcases hq with rfl | rfl | rfl | rfl <;> rcases hi with rfl | rfl <;> rcases hj with rfl | rfl <;> decide
end
section
/-! a town's beginning, side by side -/
theorem six {c : Int32} (h0 : 0 ≤ c.toInt) (h1 : c.toInt < 6) : c = 0 ∨ c = 1 ∨ c = 2 ∨ c = 3 ∨ c = 4 ∨ c = 5 := by
  simp only [i_eq, Int32.reduceToInt]
  omega
theorem has_zero {c : Int32} (h0 : 0 ≤ c.toInt) (h1 : c.toInt < 6) : f_m_has 0 c = 0 := by
  rcases six h0 h1 with rfl | rfl | rfl | rfl | rfl | rfl <;> rfl
theorem fz (f : Nat → Int32) (k : Nat) : ∀ n : Nat, n < 2147483648 → fillZ f n k = if k < n then 0 else f k := by
  intro n
  induction n with
  | zero => intro _; rfl
  | succ n ih =>
    intro hn
    show upd (fillZ f n) (nI n).toNatClampNeg 0 k = _
    rw [nI_clamp (by omega)]
    replace ih := ih (by omega)
    by_cases c : k = n
    · subst c
      rw [pk_us, if_pos (by omega)]
    · rw [pk_un c, ih]
      by_cases d : k < n
      · rw [if_pos d, if_pos (by omega)]
      · rw [if_neg d, if_neg (by omega)]
theorem bg10 : ∀ (n : Nat) (i : Int32) (w : Nat → Int32), 0 ≤ i.toInt → i.toInt ≤ 42 → 42 - i.toInt < n → (∀ k : Nat, (k : Int) < i.toInt → w k = 0) → ∃ (j : Int32) (u : Nat → Int32), f_m_begins_10 n i w = (j, u) ∧ (∀ k : Nat, k < 42 → u k = 0) ∧ (∀ x : Nat, 42 ≤ x → u x = w x) := by
  intro n
  induction n with
  | zero => intro i w h0 h1 h2; omega
  | succ n ih =>
    intro i w h0 h1 h2 h3
    rw [f_m_begins_10_s]
    by_cases c : 42 ≤ i
    · rw [if_pos c]
      rw [i_le] at c
      simp only [Int32.reduceToInt] at c
      exact ⟨i, w, rfl, fun k hk => h3 k (by omega), fun x _ => rfl⟩
    · rw [if_neg c]
      rw [i_le] at c
      simp only [Int32.reduceToInt] at c
      have e := i_a1 (a := i) (by omega) (by omega)
      have ei := clI h0
      obtain ⟨j, u, x1, x2, x3⟩ := ih (i + 1) (upd w i.toNatClampNeg 0) (by omega) (by omega) (by omega) (fun k hk => by
        by_cases q : k = i.toNatClampNeg
        · subst q
          rw [pk_us]
        · rw [pk_un q]
          exact h3 k (by omega))
      exact ⟨j, u, x1, x2, fun x hx => by rw [x3 x hx, pk_un (by omega)]⟩
theorem bg31 {G fn ftb f9 : Nat → Int32} {t0 t1 t3 t4 : Int32} (h6 : (G 5).toInt ≤ 6) (hA : AG ftb f9 (G 5).toInt 0 99) : ∀ (n : Nat) (i : Int32) (f w : Nat → Int32), 0 ≤ i.toInt → i.toInt ≤ 6 → 6 - i.toInt < n → ST f w 0 0 → ∃ (j j' : Int32) (g u : Nat → Int32), f_e_begin_x7_10 fn t0 t1 (G 5) t3 t4 ftb n i f = (j, g) ∧ f_m_begins_31 G f9 n i w = (j', u) ∧ ST g u 0 0 ∧ (∀ c : Nat, i.toInt ≤ c → c < 6 → u c = (if (c : Int) < (G 5).toInt then f9 c else 0) ∧ u (6 + c) = -1) ∧ (∀ x : Nat, ¬ (i.toInt ≤ x ∧ x < 6) → ¬ (6 + i.toInt ≤ x ∧ x < 12) → u x = w x) := by
  intro n
  induction n with
  | zero => intro i f w h0 h1 h2; omega
  | succ n ih =>
    intro i f w h0 h1 h2 hS
    rw [f_e_begin_x7_10_s, f_m_begins_31_s]
    by_cases c : 6 ≤ i
    · rw [if_pos c, if_pos c]
      rw [i_le] at c
      simp only [Int32.reduceToInt] at c
      exact ⟨i, i, f, w, rfl, rfl, hS, fun c hc hl => by omega, fun x _ _ => rfl⟩
    · rw [if_neg c, if_neg c]
      rw [i_le] at c
      simp only [Int32.reduceToInt] at c
      have e := i_a1 (a := i) (by omega) (by omega)
      have ei := clI h0
      have i6 : i.toInt < 6 := by omega
      have x6 : (6 + i : Int32).toNatClampNeg = 6 + i.toNatClampNeg := sN (a := 6) (x := 6) (y := 6) rfl h0 i6 (by decide)
      rw [ix0, x6]
      have key : ∀ v : Int32, v = (if i.toInt < (G 5).toInt then f9 i.toNatClampNeg else 0) → ∃ (j j' : Int32) (g u : Nat → Int32), f_e_begin_x7_10 fn t0 t1 (G 5) t3 t4 ftb n (i + 1) (putF 41 (putF 41 f (2 + i) v) (8 + i) (-1)) = (j, g) ∧ f_m_begins_31 G f9 n (i + 1) (upd (upd w i.toNatClampNeg v) (6 + i.toNatClampNeg) (-1)) = (j', u) ∧ ST g u 0 0 ∧ (∀ c : Nat, i.toInt ≤ c → c < 6 → u c = (if (c : Int) < (G 5).toInt then f9 c else 0) ∧ u (6 + c) = -1) ∧ (∀ x : Nat, ¬ (i.toInt ≤ x ∧ x < 6) → ¬ (6 + i.toInt ≤ x ∧ x < 12) → u x = w x) := by
        intro v hv
        have s1 : ST (putF 41 f (2 + i) v) (upd w i.toNatClampNeg v) 0 0 := w_g hS h0 i6
        have s2 : ST (putF 41 (putF 41 f (2 + i) v) (8 + i) (-1)) (upd (upd w i.toNatClampNeg v) (6 + i.toNatClampNeg) (-1)) 0 0 := w_p s1 h0 i6
        obtain ⟨j, j', g, u, x1, x2, x3, x4, x5⟩ := ih (i + 1) _ _ (by omega) (by omega) (by omega) s2
        refine ⟨j, j', g, u, x1, x2, x3, fun c hc hl => ?_, fun x hx hy => ?_⟩
        · by_cases q : c = i.toNatClampNeg
          · subst q
            rw [x5 _ (by omega) (by omega), x5 _ (by omega) (by omega), pk_us, pk_un (by omega), pk_us, ei]
            exact ⟨hv, rfl⟩
          · exact x4 c (by omega) hl
        · rw [x5 x (by omega) (by omega), pk_un (by omega), pk_un (by omega)]
      by_cases d : G 5 ≤ i
      · rw [if_pos d, if_pos d]
        rw [i_le] at d
        exact key 0 (by rw [if_neg (by omega)])
      · rw [if_neg d, if_neg d]
        rw [i_le] at d
        have ev : atF 6 ftb i = f9 i.toNatClampNeg := by
          rw [at_in h0 i6]
          exact (hA i.toNatClampNeg (by omega)).1
        rw [ev]
        exact key _ (by rw [if_pos (by omega)])
theorem bg81 {fn ftb : Nat → Int32} {t0 t1 t2 t3 t4 : Int32} : ∀ (n : Nat) (i : Int32) (f w : Nat → Int32), 0 ≤ i.toInt → i.toInt ≤ 7 → 7 - i.toInt < n → ST f w 0 0 → ∃ (j j' : Int32) (g u : Nat → Int32), f_e_begin_x7_66 fn t0 t1 t2 t3 t4 ftb n i f = (j, g) ∧ f_m_begins_81 n i w = (j', u) ∧ ST g u 0 0 ∧ (∀ v : Nat, i.toInt ≤ v → v < 7 → u (27 + v) = -1 ∧ u (34 + v) = -1) ∧ (∀ x : Nat, ¬ (27 + i.toInt ≤ x ∧ x < 34) → ¬ (34 + i.toInt ≤ x ∧ x < 41) → u x = w x) := by
  intro n
  induction n with
  | zero => intro i f w h0 h1 h2; omega
  | succ n ih =>
    intro i f w h0 h1 h2 hS
    rw [f_e_begin_x7_66_s, f_m_begins_81_s]
    by_cases c : 7 ≤ i
    · rw [if_pos c, if_pos c]
      rw [i_le] at c
      simp only [Int32.reduceToInt] at c
      exact ⟨i, i, f, w, rfl, rfl, hS, fun c hc hl => by omega, fun x _ _ => rfl⟩
    · rw [if_neg c, if_neg c]
      rw [i_le] at c
      simp only [Int32.reduceToInt] at c
      have e := i_a1 (a := i) (by omega) (by omega)
      have ei := clI h0
      have i7 : i.toInt < 7 := by omega
      have x27 : (27 + i : Int32).toNatClampNeg = 27 + i.toNatClampNeg := sN (a := 27) (x := 27) (y := 7) rfl h0 i7 (by decide)
      have x34 : (34 + i : Int32).toNatClampNeg = 34 + i.toNatClampNeg := sN (a := 34) (x := 34) (y := 7) rfl h0 i7 (by decide)
      rw [x27, x34]
      have s2 : ST (putF 41 (putF 41 f (27 + i) (-1)) (34 + i) (-1)) (upd (upd w (27 + i.toNatClampNeg) (-1)) (34 + i.toNatClampNeg) (-1)) 0 0 := w_when (w_berth hS h0 i7) h0 i7
      obtain ⟨j, j', g, u, x1, x2, x3, x4, x5⟩ := ih (i + 1) _ _ (by omega) (by omega) (by omega) s2
      refine ⟨j, j', g, u, x1, x2, x3, fun c hc hl => ?_, fun x hx hy => ?_⟩
      · by_cases q : c = i.toNatClampNeg
        · subst q
          rw [x5 _ (by omega) (by omega), x5 _ (by omega) (by omega), pk_us, pk_un (by omega), pk_us]
          exact ⟨rfl, rfl⟩
        · exact x4 c (by omega) hl
      · rw [x5 x (by omega) (by omega), pk_un (by omega), pk_un (by omega)]
theorem begin_eq {G fn w ftb f9 : Nat → Int32} {t0 t1 t3 t4 : Int32} (hG : GI G) (h4 : 1 ≤ (G 4).toInt) (hA : AG ftb f9 (G 5).toInt 0 99) : ST (f_e_begin_x7 fn t0 t1 (G 5) t3 t4 ftb) (f_m_begins G w f9) 0 0 ∧ BI G (f_m_begins G w f9) 0 ∧ f_m_begins G w f9 41 = w 41 ∧ (∀ x : Nat, 42 ≤ x → f_m_begins G w f9 x = w x) := by
  have g0 := hG.2.2.2.1.1
  have g6 := hG.2.2.2.1.2
  have g3 := hG.2.1.1
  obtain ⟨j, u, x1, x2, x3⟩ := bg10 43 0 w (by decide) (by decide) (by decide) (fun k hk => absurd hk (by rw [i_0]; omega))
  have s0 : ST (fillZ fn 41) u 0 0 := by
    intro k hk
    have := cx_lt hk
    rw [Nat.zero_add, Nat.zero_add, fz _ _ 41 (by decide), if_pos hk, x2 _ (by omega)]
  obtain ⟨j1, j2, f1, w1, a1, a2, a3, a4, a5⟩ := bg31 (fn := fn) (t0 := t0) (t1 := t1) (t3 := t3) (t4 := t4) g6 hA 7 0 (fillZ fn 41) u (by decide) (by decide) (by decide) s0
  obtain ⟨j3, j4, f2, w2, b1, b2, b3, b4, b5⟩ := bg81 (fn := fn) (ftb := ftb) (t0 := t0) (t1 := t1) (t2 := G 5) (t3 := t3) (t4 := t4) 8 0 f1 w1 (by decide) (by decide) (by decide) a3
  rw [i_0] at a4 a5 b4 b5
  have he : f_e_begin_x7 fn t0 t1 (G 5) t3 t4 ftb = f2 := by
    unfold f_e_begin_x7
    have e7 : ((6 : Int32).toInt - (0 : Int32).toInt).toNat + 1 = 7 := rfl
    have e8 : ((7 : Int32).toInt - (0 : Int32).toInt).toNat + 1 = 8 := rfl
    rw [e7, a1]
    dsimp (config := { etaStruct := .none }) only
    rw [e8, b1]
  have hm : f_m_begins G w f9 = upd w2 41 (w 41) := by
    unfold f_m_begins
    have e43 : ((42 : Int32).toInt - (0 : Int32).toInt).toNat + 1 = 43 := rfl
    have e7 : ((6 : Int32).toInt - (0 : Int32).toInt).toNat + 1 = 7 := rfl
    have e8 : ((7 : Int32).toInt - (0 : Int32).toInt).toNat + 1 = 8 := rfl
    rw [e43, x1]
    dsimp (config := { etaStruct := .none }) only
    rw [e7, a2]
    dsimp (config := { etaStruct := .none }) only
    rw [e8, b2]
    rfl
  rw [he, hm]
  have v : ∀ x, x ≠ 41 → (upd w2 41 (w 41)) x = w2 x := fun x hx => pk_un hx
  have low : ∀ c : Nat, c < 6 → w2 c = (if (c : Int) < (G 5).toInt then f9 c else 0) ∧ w2 (6 + c) = -1 := by
    intro c hc
    rw [b5 c (by omega) (by omega), b5 (6 + c) (by omega) (by omega)]
    exact a4 c (by omega) hc
  have mid : ∀ x : Nat, 12 ≤ x → x < 27 → w2 x = 0 := by
    intro x h1 h2
    rw [b5 x (by omega) (by omega), a5 x (by omega) (by omega), x2 x (by omega)]
  refine ⟨ST_off b3 (by decide), ⟨fun c hc => ?_, fun c hc hg => ?_, fun c hc => ?_, fun c d hc hd _ _ => ?_, fun c hc => ?_, fun c h0 h1 hh => ?_, fun v' hv _ => ?_, fun v' hv _ => ?_, by rw [v _ (by decide), mid 18 (by decide) (by decide)]; decide⟩, pk_us, fun x hx => ?_⟩
  · rw [Nat.zero_add, v _ (by omega), (low c hc).1]
    by_cases q : (c : Int) < (G 5).toInt
    · rw [if_pos q]
      exact (hA c q).2
    · rw [if_neg q]
      decide
  · rw [Nat.zero_add, Nat.zero_add, v _ (by omega), v _ (by omega), (low c hc).1, (low c hc).2, if_neg (by omega)]
    exact ⟨rfl, rfl⟩
  · rw [Nat.zero_add, v _ (by omega), (low c hc).2, i_m1]
    omega
  · rw [Nat.zero_add, v _ (by omega), (low c hc).2]
  · rw [Nat.zero_add, v _ (by omega), mid _ (by omega) (by omega), i_0]
    omega
  · rw [Nat.zero_add, v _ (by omega), mid 18 (by omega) (by omega), has_zero h0 h1] at hh
    exact absurd rfl hh
  · rw [Nat.zero_add, Nat.zero_add, v _ (by omega), v _ (by omega)]
    exact b4 v' (by omega) hv
  · rw [Nat.zero_add, v _ (by omega), mid _ (by omega) (by omega)]
  · rw [v _ (by omega), b5 x (by omega) (by omega), a5 x (by omega) (by omega), x3 x hx]
end
section
/-! what the calls leave alike -/
theorem nI_cl {x : Int32} (h : 0 ≤ x.toInt) : nI x.toNatClampNeg = x := by
  have h2 := Int32.toInt_lt x
  rw [i_eq, i_clamp, nI_toInt (by omega)]
  omega
theorem has_or_all : ∀ (n : Fin 64) (a b : Fin 6), f_m_has (nI n.val ||| (1 <<< (nI a.val &&& 31))) (nI b.val) = (if b = a then 1 else f_m_has (nI n.val) (nI b.val)) ∧ 0 ≤ (nI n.val ||| (1 <<< (nI a.val &&& 31))).toInt ∧ (nI n.val ||| (1 <<< (nI a.val &&& 31))).toInt < 64 := by decide +kernel
theorem has_or {s c d : Int32} (s0 : 0 ≤ s.toInt) (s1 : s.toInt < 64) (c0 : 0 ≤ c.toInt) (c1 : c.toInt < 6) (d0 : 0 ≤ d.toInt) (d1 : d.toInt < 6) : (¬ f_m_has (s ||| (1 <<< (c &&& 31))) d = 0 → d = c ∨ ¬ f_m_has s d = 0) ∧ 0 ≤ (s ||| (1 <<< (c &&& 31))).toInt ∧ (s ||| (1 <<< (c &&& 31))).toInt < 64 := by
  have k := has_or_all ⟨s.toNatClampNeg, clN s0 s1⟩ ⟨c.toNatClampNeg, clN c0 c1⟩ ⟨d.toNatClampNeg, clN d0 d1⟩
  dsimp only at k
  rw [nI_cl s0, nI_cl c0, nI_cl d0] at k
  refine ⟨fun h => ?_, k.2⟩
  by_cases q : d.toNatClampNeg = c.toNatClampNeg
  · exact Or.inl (cl_inj d0 c0 q)
  · refine Or.inr ?_
    rw [k.1, if_neg (fun z => q (congrArg Fin.val z))] at h
    exact h
def TX (q1 q2 : Int32) (ftx G f13 : Nat → Int32) : Prop := q1 = G 14 ∧ ftx = f13 ∧ q2 = G 19
def TN (t0 t1 t2 t3 t4 : Int32) (fta ftb ftc ftd fte G f8 f9 f10 f11 f12 : Nat → Int32) : Prop := t0 = G 3 ∧ t1 = G 4 ∧ t2 = G 5 ∧ t3 = G 6 ∧ t4 = G 7 ∧ 1 ≤ (G 4).toInt ∧ (G 7 = 0 ∨ G 7 = 1) ∧ AG fta f8 (G 3).toInt 1 60 ∧ AG ftb f9 (G 5).toInt 0 99 ∧ AF ftc f10 (G 5).toInt (G 4).toInt ∧ AG ftd f11 (G 6).toInt 0 ((G 3).toInt - 1) ∧ AG fte f12 (G 6).toInt 1 300
def SN (q12 : Int32) (fn G w : Nat → Int32) : Prop := ST fn w 0 0 ∧ BI G w 0 ∧ q12 = w 41
def BK (b0 : Int32) (fba fbb G f43 f44 : Nat → Int32) : Prop := b0 = G 42 ∧ fba = f43 ∧ fbb = f44
theorem TX_of {q1 q2 : Int32} {ftx G H f13 : Nat → Int32} (h : TX q1 q2 ftx G f13) (e1 : H 14 = G 14) (e2 : H 19 = G 19) : TX q1 q2 ftx H f13 := by
  unfold TX
  rw [e1, e2]
  exact h
theorem TN_of {t0 t1 t2 t3 t4 : Int32} {fta ftb ftc ftd fte G H f8 f9 f10 f11 f12 : Nat → Int32} (h : TN t0 t1 t2 t3 t4 fta ftb ftc ftd fte G f8 f9 f10 f11 f12) (e : ∀ k, 3 ≤ k → k ≤ 7 → H k = G k) : TN t0 t1 t2 t3 t4 fta ftb ftc ftd fte H f8 f9 f10 f11 f12 := by
  unfold TN
  rw [e 3 (by decide) (by decide), e 4 (by decide) (by decide), e 5 (by decide) (by decide), e 6 (by decide) (by decide), e 7 (by decide) (by decide)]
  exact h
theorem BK_of {b0 : Int32} {fba fbb G H f43 f44 : Nat → Int32} (h : BK b0 fba fbb G f43 f44) (e : H 42 = G 42) : BK b0 fba fbb H f43 f44 := by
  unfold BK
  rw [e]
  exact h
theorem SN_of {q12 : Int32} {fn G H w u : Nat → Int32} (h : SN q12 fn G w) (e : ∀ x, x < 42 → u x = w x) (e3 : H 3 = G 3) (e4 : H 4 = G 4) (e5 : H 5 = G 5) (e6 : H 6 = G 6) : SN q12 fn H u := by
  refine ⟨ST_of h.1 (fun k hk => ?_), BI_of h.2.1 (fun k hk => ?_) e3 e4 e5 e6, by rw [e 41 (by decide)]; exact h.2.2⟩
  · rw [Nat.zero_add]
    exact e k (by omega)
  · rw [Nat.zero_add]
    exact e k (by omega)
/-- all that is alike but for the state, what can be undone and the images -/
def RS (q1 q2 : Int32) (ftx f13 : Nat → Int32) (t0 t1 t2 t3 t4 : Int32) (fta ftb ftc ftd fte f8 f9 f10 f11 f12 : Nat → Int32) (b0 : Int32) (fba fbb f43 f44 G : Nat → Int32) : Prop := TX q1 q2 ftx G f13 ∧ TN t0 t1 t2 t3 t4 fta ftb ftc ftd fte G f8 f9 f10 f11 f12 ∧ BK b0 fba fbb G f43 f44
theorem RS_of {q1 q2 : Int32} {ftx f13 : Nat → Int32} {t0 t1 t2 t3 t4 : Int32} {fta ftb ftc ftd fte f8 f9 f10 f11 f12 : Nat → Int32} {b0 : Int32} {fba fbb f43 f44 G H : Nat → Int32} (h : RS q1 q2 ftx f13 t0 t1 t2 t3 t4 fta ftb ftc ftd fte f8 f9 f10 f11 f12 b0 fba fbb f43 f44 G) (e : ∀ k, 3 ≤ k → k < 32 ∨ k = 42 → H k = G k) : RS q1 q2 ftx f13 t0 t1 t2 t3 t4 fta ftb ftc ftd fte f8 f9 f10 f11 f12 b0 fba fbb f43 f44 H :=
  ⟨TX_of h.1 (e 14 (by decide) (by decide)) (e 19 (by decide) (by decide)), TN_of h.2.1 (fun k a b => e k a (by omega)), BK_of h.2.2 (e 42 (by decide) (by decide))⟩
/-- the state, what can be undone, the images -/
def DY (q10 q12 p1 p2 : Int32) (fn fsh fim fis f1 G w : Nat → Int32) : Prop := SN q12 fn G w ∧ UR G p1 p2 fsh w ∧ IR G q10 fim fis f1 w
theorem DY_of {q10 q12 p1 p2 : Int32} {fn fsh fim fis f1 G H w u : Nat → Int32} (h : DY q10 q12 p1 p2 fn fsh fim fis f1 G w) (hG : GI G) (e : ∀ x, x < 42 ∨ 378 ≤ x → u x = w x) (eG : ∀ k, 2 ≤ k → k ≤ 6 → H k = G k) : DY q10 q12 p1 p2 fn fsh fim fis f1 H u := by
  have e2 := eG 2 (by decide) (by decide)
  have e3 := eG 3 (by decide) (by decide)
  have e4 := eG 4 (by decide) (by decide)
  have e5 := eG 5 (by decide) (by decide)
  have e6 := eG 6 (by decide) (by decide)
  exact ⟨SN_of h.1 (fun x hx => e x (by omega)) e3 e4 e5 e6, UR_of h.2.1 hG (fun x hx _ => e x (by omega)) e2 e3 e4 e5 e6, IR_of h.2.2 (fun x hx _ => e x (by omega)) e3 e4 e5 e6⟩
/-- a call that is remembered, then changes the state alone -/
theorem DY_go {q10 q12 q12' p1 p2 : Int32} {fn fn' fsh fim fis f1 G w : Nat → Int32} (h : DY q10 q12 p1 p2 fn fsh fim fis f1 G w) (hG : GI G) : ∃ (q1 q2 : Int32) (gsh H u : Nat → Int32), f_e_remember_x2 p1 p2 fsh fn = (q1, q2, gsh) ∧ f_m_minds G w = (H, u) ∧ (∀ k, k ≠ 2 → H k = G k) ∧ (∀ x, x < 462 → u x = w x) ∧ GI H ∧ SN q12 fn H u ∧ ∀ v : Nat → Int32, (∀ x, 42 ≤ x → v x = u x) → SN q12' fn' H v → DY q10 q12' q1 q2 fn' gsh fim fis f1 H v := by
  obtain ⟨⟨hS, hB, hq⟩, hU, hI⟩ := h
  obtain ⟨q1, q2, gsh, H, u, a1, a2, a3, a4, a5⟩ := remember_eq hG hU hS hB
  have e3 := a4 3 (by decide)
  have e4 := a4 4 (by decide)
  have e5 := a4 5 (by decide)
  have e6 := a4 6 (by decide)
  have gH : GI H := by
    obtain ⟨_, _, hh, _, _, m4⟩ := minds_spec (w := w) hG
    rw [hh] at a2
    obtain ⟨g1, g2⟩ := hG
    have q20 : (20 : Int32).toInt = 20 := rfl
    cases a2
    refine ⟨?_, by rw [e3, e4, e5, e6, a4 14 (by decide), a4 42 (by decide)]; exact g2⟩
    rcases m4 with ⟨_, z, _⟩ | ⟨z1, z, _⟩
    · rw [z, q20]
      omega
    · rw [z, i_a1 (by omega) (by omega)]
      omega
  refine ⟨q1, q2, gsh, H, u, a1, a2, a4, a5, gH, SN_of ⟨hS, hB, hq⟩ (fun x hx => a5 x (by omega)) e3 e4 e5 e6, fun v hv hs => ⟨hs, UR_of a3 gH (fun x hx _ => hv x (by omega)) rfl rfl rfl rfl rfl, IR_of hI (fun x h1 h2 => ?_) e3 e4 e5 e6⟩⟩
  rw [hv x (by omega), a5 x (by omega)]
end
section
/-! single cells that change -/
theorem BI_p {G w : Nat → Int32} {c : Nat} {x : Int32} (h : BI G w 0) (hc : c < 6) (hg : (c : Int) < (G 5).toInt) (x0 : -1 ≤ x.toInt) (x1 : x.toInt < (G 3).toInt) (hu : ∀ d : Nat, d < 6 → d ≠ c → w (6 + d) = x → x = -1) : BI G (upd w (6 + c) x) 0 := by
  obtain ⟨b1, b2, b3, b4, b5, b6, b7, b8, b9⟩ := h
  simp only [Nat.zero_add] at b1 b2 b3 b4 b5 b6 b7 b8 b9
  unfold BI
  simp only [Nat.zero_add]
  refine ⟨fun d hd => ?_, fun d hd hg' => ?_, fun d hd => ?_, fun d d' hd hd' hn he => ?_, fun d hd => ?_, fun d h0 h1 hh => ?_, fun v hv hh => ?_, fun v hv hh => ?_, ?_⟩
  · rw [pk_un (by omega)]
    exact b1 d hd
  · rw [pk_un (by omega), pk_un (by omega)]
    exact b2 d hd hg'
  · by_cases q : d = c
    · subst q
      rw [pk_us]
      exact ⟨x0, x1⟩
    · rw [pk_un (by omega)]
      exact b3 d hd
  · by_cases q : d = c
    · subst q
      rw [pk_us] at he ⊢
      rw [pk_un (by omega)] at he
      exact hu d' hd' (fun z => hn z.symm) he.symm
    · rw [pk_un (by omega)] at he ⊢
      by_cases q' : d' = c
      · subst q'
        rw [pk_us] at he
        rw [he]
        exact hu d hd q he
      · rw [pk_un (by omega)] at he
        exact b4 d d' hd hd' hn he
  · rw [pk_un (by omega)]
    exact b5 d hd
  · have := clN (n := 6) h0 h1
    rw [pk_un (by omega)] at hh ⊢
    exact b6 d h0 h1 hh
  · rw [pk_un (by omega)] at hh
    rw [pk_un (by omega), pk_un (by omega)]
    exact b7 v hv hh
  · rw [pk_un (by omega)]
    exact b8 v hv hh
  · rw [pk_un (by omega)]
    exact b9
theorem BI_t {G w : Nat → Int32} {c : Nat} {x : Int32} (h : BI G w 0) (hc : c < 6) (x0 : 0 ≤ x.toInt) (x1 : x.toInt < (G 4).toInt) : BI G (upd w (12 + c) x) 0 := by
  obtain ⟨b1, b2, b3, b4, b5, b6, b7, b8, b9⟩ := h
  simp only [Nat.zero_add] at b1 b2 b3 b4 b5 b6 b7 b8 b9
  unfold BI
  simp only [Nat.zero_add]
  refine ⟨fun d hd => ?_, fun d hd hg' => ?_, fun d hd => ?_, fun d d' hd hd' hn he => ?_, fun d hd => ?_, fun d h0 h1 hh => ?_, fun v hv hh => ?_, fun v hv hh => ?_, ?_⟩
  · rw [pk_un (by omega)]
    exact b1 d hd
  · rw [pk_un (by omega), pk_un (by omega)]
    exact b2 d hd hg'
  · rw [pk_un (by omega)]
    exact b3 d hd
  · rw [pk_un (by omega), pk_un (by omega)] at he
    rw [pk_un (by omega)]
    exact b4 d d' hd hd' hn he
  · by_cases q : d = c
    · subst q
      rw [pk_us]
      exact ⟨x0, x1⟩
    · rw [pk_un (by omega)]
      exact b5 d hd
  · have := clN (n := 6) h0 h1
    rw [pk_un (by omega)] at hh ⊢
    exact b6 d h0 h1 hh
  · rw [pk_un (by omega)] at hh
    rw [pk_un (by omega), pk_un (by omega)]
    exact b7 v hv hh
  · rw [pk_un (by omega)]
    exact b8 v hv hh
  · rw [pk_un (by omega)]
    exact b9
theorem BI_g {G w : Nat → Int32} {c x : Int32} (h : BI G w 0) (c0 : 0 ≤ c.toInt) (c1 : c.toInt < 6) (hg : c.toInt < (G 5).toInt) (x0 : 0 ≤ x.toInt) (x1 : x.toInt ≤ 99) (hd : ¬ f_m_has (w 18) c = 0 → x = 0) : BI G (upd w c.toNatClampNeg x) 0 := by
  have hc := clN (n := 6) c0 c1
  have ec := clI c0
  obtain ⟨b1, b2, b3, b4, b5, b6, b7, b8, b9⟩ := h
  simp only [Nat.zero_add] at b1 b2 b3 b4 b5 b6 b7 b8 b9
  unfold BI
  simp only [Nat.zero_add]
  refine ⟨fun d hd => ?_, fun d hd hg' => ?_, fun d hd => ?_, fun d d' hd hd' hn he => ?_, fun d hd => ?_, fun d h0 h1 hh => ?_, fun v hv hh => ?_, fun v hv hh => ?_, ?_⟩
  · by_cases q : d = c.toNatClampNeg
    · rw [q, pk_us]
      exact ⟨x0, x1⟩
    · rw [pk_un q]
      exact b1 d hd
  · rw [pk_un (by omega), pk_un (by omega)]
    exact b2 d hd hg'
  · rw [pk_un (by omega)]
    exact b3 d hd
  · rw [pk_un (by omega), pk_un (by omega)] at he
    rw [pk_un (by omega)]
    exact b4 d d' hd hd' hn he
  · rw [pk_un (by omega)]
    exact b5 d hd
  · have := clN (n := 6) h0 h1
    rw [pk_un (by omega)] at hh
    by_cases q : d.toNatClampNeg = c.toNatClampNeg
    · rw [q, pk_us]
      rw [cl_inj h0 c0 q] at hh
      exact hd hh
    · rw [pk_un q]
      exact b6 d h0 h1 hh
  · rw [pk_un (by omega)] at hh
    rw [pk_un (by omega), pk_un (by omega)]
    exact b7 v hv hh
  · rw [pk_un (by omega)]
    exact b8 v hv hh
  · rw [pk_un (by omega)]
    exact b9
theorem BI_m {G w : Nat → Int32} {k : Nat} {x : Int32} (h : BI G w 0) (hk : k = 19 ∨ 41 ≤ k) : BI G (upd w k x) 0 := by
  obtain ⟨b1, b2, b3, b4, b5, b6, b7, b8, b9⟩ := h
  simp only [Nat.zero_add] at b1 b2 b3 b4 b5 b6 b7 b8 b9
  unfold BI
  simp only [Nat.zero_add]
  refine ⟨fun d hd => ?_, fun d hd hg' => ?_, fun d hd => ?_, fun d d' hd hd' hn he => ?_, fun d hd => ?_, fun d h0 h1 hh => ?_, fun v hv hh => ?_, fun v hv hh => ?_, ?_⟩
  · rw [pk_un (by omega)]
    exact b1 d hd
  · rw [pk_un (by omega), pk_un (by omega)]
    exact b2 d hd hg'
  · rw [pk_un (by omega)]
    exact b3 d hd
  · rw [pk_un (by omega), pk_un (by omega)] at he
    rw [pk_un (by omega)]
    exact b4 d d' hd hd' hn he
  · rw [pk_un (by omega)]
    exact b5 d hd
  · have := clN (n := 6) h0 h1
    rw [pk_un (by omega)] at hh ⊢
    exact b6 d h0 h1 hh
  · rw [pk_un (by omega)] at hh
    rw [pk_un (by omega), pk_un (by omega)]
    exact b7 v hv hh
  · rw [pk_un (by omega)]
    exact b8 v hv hh
  · rw [pk_un (by omega)]
    exact b9
theorem BI_d {G w : Nat → Int32} {c : Int32} (h : BI G w 0) (c0 : 0 ≤ c.toInt) (c1 : c.toInt < 6) (hz : w c.toNatClampNeg = 0) : BI G (upd w 18 (w 18 ||| (1 <<< (c &&& 31)))) 0 := by
  obtain ⟨b1, b2, b3, b4, b5, b6, b7, b8, b9⟩ := h
  simp only [Nat.zero_add] at b1 b2 b3 b4 b5 b6 b7 b8 b9
  unfold BI
  simp only [Nat.zero_add]
  refine ⟨fun d hd => ?_, fun d hd hg' => ?_, fun d hd => ?_, fun d d' hd hd' hn he => ?_, fun d hd => ?_, fun d h0 h1 hh => ?_, fun v hv hh => ?_, fun v hv hh => ?_, ?_⟩
  · rw [pk_un (by omega)]
    exact b1 d hd
  · rw [pk_un (by omega), pk_un (by omega)]
    exact b2 d hd hg'
  · rw [pk_un (by omega)]
    exact b3 d hd
  · rw [pk_un (by omega), pk_un (by omega)] at he
    rw [pk_un (by omega)]
    exact b4 d d' hd hd' hn he
  · rw [pk_un (by omega)]
    exact b5 d hd
  · have := clN (n := 6) h0 h1
    rw [pk_us] at hh
    rw [pk_un (by omega)]
    rcases (has_or b9.1 b9.2 c0 c1 h0 h1).1 hh with q | q
    · rw [q]
      exact hz
    · exact b6 d h0 h1 q
  · rw [pk_un (by omega)] at hh
    rw [pk_un (by omega), pk_un (by omega)]
    exact b7 v hv hh
  · rw [pk_un (by omega)]
    exact b8 v hv hh
  · rw [pk_us]
    exact (has_or b9.1 b9.2 c0 c1 c0 c1).2
/-- a barge that has come through, or lies -/
theorem BI_v {G w : Nat → Int32} {v : Nat} {x y z : Int32} (h : BI G w 0) (hv : v < 7) (hg : (v : Int) < (G 6).toInt) (hx : x ≠ 0) : BI G (upd (upd (upd w (27 + v) y) (20 + v) x) (34 + v) z) 0 := by
  obtain ⟨b1, b2, b3, b4, b5, b6, b7, b8, b9⟩ := h
  simp only [Nat.zero_add] at b1 b2 b3 b4 b5 b6 b7 b8 b9
  unfold BI
  simp only [Nat.zero_add]
  have o : ∀ k, k ≠ 27 + v → k ≠ 20 + v → k ≠ 34 + v → (upd (upd (upd w (27 + v) y) (20 + v) x) (34 + v) z) k = w k := fun k a b c => by rw [pk_un c, pk_un b, pk_un a]
  have o20 : (upd (upd (upd w (27 + v) y) (20 + v) x) (34 + v) z) (20 + v) = x := by rw [pk_un (by omega), pk_us]
  generalize upd (upd (upd w (27 + v) y) (20 + v) x) (34 + v) z = u at o o20
  refine ⟨fun d hd => ?_, fun d hd hg' => ?_, fun d hd => ?_, fun d d' hd hd' hn he => ?_, fun d hd => ?_, fun d h0 h1 hh => ?_, fun v' hv' hh => ?_, fun v' hv' hh => ?_, ?_⟩
  · rw [o _ (by omega) (by omega) (by omega)]
    exact b1 d hd
  · rw [o _ (by omega) (by omega) (by omega), o _ (by omega) (by omega) (by omega)]
    exact b2 d hd hg'
  · rw [o _ (by omega) (by omega) (by omega)]
    exact b3 d hd
  · rw [o _ (by omega) (by omega) (by omega), o (6 + d') (by omega) (by omega) (by omega)] at he
    rw [o _ (by omega) (by omega) (by omega)]
    exact b4 d d' hd hd' hn he
  · rw [o _ (by omega) (by omega) (by omega)]
    exact b5 d hd
  · have := clN (n := 6) h0 h1
    rw [o _ (by omega) (by omega) (by omega)] at hh ⊢
    exact b6 d h0 h1 hh
  · by_cases q : v' = v
    · rw [q, o20] at hh
      exact absurd hh hx
    · rw [o _ (by omega) (by omega) (by omega)] at hh
      rw [o _ (by omega) (by omega) (by omega), o _ (by omega) (by omega) (by omega)]
      exact b7 v' hv' hh
  · rw [o _ (by omega) (by omega) (by omega)]
    exact b8 v' hv' hh
  · rw [o _ (by omega) (by omega) (by omega)]
    exact b9
end
