theorem rem32 {a d : Int32} (ha : 0 ≤ a.toInt) (hd : 0 < d.toInt) : (a - a / d * d).toInt = a.toInt % d.toInt := by
  have hne : d ≠ -1 := by
    intro h
    rw [h] at hd
    exact absurd hd (by decide)
  have hq : (a / d).toInt = a.toInt / d.toInt := by
    rw [Int32.toInt_div_of_ne_right a d hne, Int.tdiv_eq_ediv_of_nonneg ha]
  have h1 := Int.emod_add_mul_ediv a.toInt d.toInt
  have h2 := Int.emod_nonneg a.toInt (show d.toInt ≠ 0 by omega)
  have h3 := Int.emod_lt_of_pos a.toInt hd
  have h4 := a.toInt_lt
  have h5 : 0 ≤ d.toInt * (a.toInt / d.toInt) := Int.mul_nonneg (by omega) (Int.ediv_nonneg ha (by omega))
  have hm : (a / d * d).toInt = d.toInt * (a.toInt / d.toInt) := by
    rw [Int32.toInt_mul, hq, Int.mul_comm]
    exact bm32 (by omega) (by omega)
  rw [Int32.toInt_sub, hm]
  refine (bm32 (by omega) (by omega)).trans (by omega)
theorem bm64 {z : Int} (h1 : -9223372036854775808 ≤ z) (h2 : z < 9223372036854775808) : z.bmod (2 ^ 64) = z := by
  rw [Int.bmod_eq_of_le] <;> omega
theorem rem64 {a d : Int64} (ha : 0 ≤ a.toInt) (hd : 0 < d.toInt) : (a - a / d * d).toInt = a.toInt % d.toInt := by
  have hne : d ≠ -1 := by
    intro h
    rw [h] at hd
    exact absurd hd (by decide)
  have hq : (a / d).toInt = a.toInt / d.toInt := by
    rw [Int64.toInt_div_of_ne_right a d hne, Int.tdiv_eq_ediv_of_nonneg ha]
  have h1 := Int.emod_add_mul_ediv a.toInt d.toInt
  have h2 := Int.emod_nonneg a.toInt (show d.toInt ≠ 0 by omega)
  have h3 := Int.emod_lt_of_pos a.toInt hd
  have h4 := a.toInt_lt
  have h5 : 0 ≤ d.toInt * (a.toInt / d.toInt) := Int.mul_nonneg (by omega) (Int.ediv_nonneg ha (by omega))
  have hm : (a / d * d).toInt = d.toInt * (a.toInt / d.toInt) := by
    rw [Int64.toInt_mul, hq, Int.mul_comm]
    exact bm64 (by omega) (by omega)
  rw [Int64.toInt_sub, hm]
  refine (bm64 (by omega) (by omega)).trans (by omega)
theorem nextSeed {s : Int32} (hs : 0 ≤ s.toInt) : 0 ≤ ((((s.toInt64 * 1103515245) + 12345) - ((s.toInt64 * 1103515245) + 12345) / 2147483648 * 2147483648).toInt32).toInt := by
  have h4 := s.toInt_lt
  have hm : (s.toInt64 * 1103515245).toInt = s.toInt * 1103515245 := by
    rw [Int64.toInt_mul, Int32.toInt_toInt64, show (1103515245 : Int64).toInt = 1103515245 by decide]
    exact bm64 (by omega) (by omega)
  have ha : ((s.toInt64 * 1103515245) + 12345).toInt = s.toInt * 1103515245 + 12345 := by
    rw [Int64.toInt_add, hm]
    exact bm64 (by simp only [Int64.reduceToInt]; omega) (by simp only [Int64.reduceToInt]; omega)
  have hr := rem64 (a := (s.toInt64 * 1103515245) + 12345) (d := 2147483648) (by rw [ha]; omega) (by decide)
  rw [Int64.toInt_toInt32, hr]
  have e : (2147483648 : Int64).toInt = 2147483648 := by decide
  rw [e, bm32 (by omega) (by omega)]
  omega
theorem p_draw {f0 : Nat → Int32} {n_ : Int32} (h_0 : WI f0) (h_1 : 0 < n_.toInt) : ∀ (r : Int32) (u : Nat → Int32), f_m_draw f0 n_ = (r, u) → (0 ≤ r.toInt) ∧ (r.toInt < n_.toInt) ∧ WI u := by
  intro r u e
  unfold f_m_draw at e
  have hs := nextSeed (s := f0 (41 : Int32).toNatClampNeg) ((h_0 (41 : Int32).toNatClampNeg).2 (by decide))
  rw [pk_us] at e
  generalize hx : ((((((f0 (41 : Int32).toNatClampNeg)).toInt64 * 1103515245) + 12345) - ((((f0 (41 : Int32).toNatClampNeg)).toInt64 * 1103515245) + 12345) / 2147483648 * 2147483648)).toInt32 = x at e hs
  cases e
  have hd : 0 ≤ (x / 65536).toInt := by
    rw [Int32.toInt_div_of_ne_right x 65536 (by decide), Int.tdiv_eq_ediv_of_nonneg hs]
    exact Int.ediv_nonneg hs (by decide)
  have hr := rem32 (a := x / 65536) hd h_1
  have h2 := Int.emod_nonneg (x / 65536).toInt (show n_.toInt ≠ 0 by omega)
  have h3 := Int.emod_lt_of_pos (x / 65536).toInt h_1
  rw [hr]
  refine ⟨h2, h3, WI_upd h_0 (OKv.mk ⟨fun q => absurd q (by decide), fun _ => hs⟩)⟩
set_option maxHeartbeats 4000000 in
theorem s_draw {f0 : Nat → Int32} {n_ : Int32} (h_0 : 0 < n_.toInt) : S_m_draw f0 n_ := by
  unfold S_m_draw
  refine ⟨(by first | omega | (simp (disch := omega) only [↓i_in, ↓i_isCouple, ↓i_isBridge, ↓i_isTheme, ↓i_isBarge, i_lt, i_le, i_eq, i_clamp, i_upd, i_m1, Int32.toInt_toInt64, Int32.toInt_add, Int32.toInt_sub, Int32.toInt_mul, bm32, Int32.reduceToInt, Int64.reduceToInt, Nat.reduceLT, Nat.reduceEqDiff, reduceIte] <;> omega)), ?_⟩
  exact trivial
theorem pl_copy_2 {from_ to_ : Int32} (h1 : 0 ≤ from_.toInt ∧ from_.toInt ≤ 1260) (h2 : from_.toInt % 42 = 0) (h3 : 0 ≤ to_.toInt ∧ to_.toInt ≤ 1260) (h4 : to_.toInt % 42 = 0) : ∀ (n : Nat) (l : Int32) (w : Nat → Int32), WI w → 0 ≤ l.toInt → l.toInt ≤ 42 → WI (f_m_copy_2 from_ to_ n l w).2 := by
  intro n
  induction n with
  | zero => intro l w h _ _; exact h
  | succ n ih =>
    intro l w h a b
    rw [f_m_copy_2_s]
    by_cases c : 42 ≤ l
    · rw [if_pos c]
      exact h
    · rw [if_neg c]
      simp only [i_le, Int32.reduceToInt] at c
      refine ih _ _ (WI_upd h (OKv.same ?_ (h _))) ?_ ?_
      · simp (disch := omega) only [i_clamp, Int32.toInt_add, bm32]
        omega
      · simp (disch := omega) only [Int32.toInt_add, bm32, Int32.reduceToInt]
        omega
      · simp (disch := omega) only [Int32.toInt_add, bm32, Int32.reduceToInt]
        omega
theorem p_copy {f0 : Nat → Int32} {from_ to_ : Int32} (h : WI f0) (h1 : 0 ≤ from_.toInt ∧ from_.toInt ≤ 1260) (h2 : from_.toInt % 42 = 0) (h3 : 0 ≤ to_.toInt ∧ to_.toInt ≤ 1260) (h4 : to_.toInt % 42 = 0) : WI (f_m_copy f0 from_ to_) := by
  unfold f_m_copy
  have q := pl_copy_2 h1 h2 h3 h4 (((42 : Int32).toInt - (0 : Int32).toInt).toNat + 1) 0 f0 h (by decide) (by decide)
  generalize f_m_copy_2 _ _ _ _ _ = x at q
  obtain ⟨a, b⟩ := x
  exact q
theorem p_grieves {f0 : Nat → Int32} {c_ m_ : Int32} (h : WI f0) (h1 : 0 ≤ c_.toInt) (h2 : c_.toInt < 6) : WI (f_m_grieves f0 c_ m_) := by
  have hk : ∀ x, OKv ((0 + c_) : Int32).toNatClampNeg x := fun x => OKv.out (by simp (disch := omega) only [i_clamp, Int32.toInt_add, bm32, Int32.reduceToInt]; omega)
  unfold f_m_grieves
  repeat' split
  all_goals exact WI_upd h (hk _)
set_option maxHeartbeats 4000000 in
theorem s_grieves {f0 : Nat → Int32} {c_ : Int32} {m_ : Int32} (h_0 : 0 ≤ c_.toInt) (h_1 : c_.toInt < 6) : S_m_grieves f0 c_ m_ := by
  unfold S_m_grieves
  refine ⟨vp_in_iff.mpr (by first | omega | (simp (disch := omega) only [↓i_in, ↓i_isCouple, ↓i_isBridge, ↓i_isTheme, ↓i_isBarge, i_lt, i_le, i_eq, i_clamp, i_upd, i_m1, Int32.toInt_toInt64, Int32.toInt_add, Int32.toInt_sub, Int32.toInt_mul, bm32, Int32.reduceToInt, Int64.reduceToInt, Nat.reduceLT, Nat.reduceEqDiff, reduceIte] <;> omega)), ?_⟩
  refine ⟨s_isDone, ?_⟩
  refine ⟨fun c_1 => ?_, fun c_1 => ?_⟩
  · skip
    try simp (disch := omega) only [↓i_in, ↓i_isCouple, ↓i_isBridge, ↓i_isTheme, ↓i_isBarge, i_lt, i_le, i_eq, i_clamp, i_upd, i_m1, Int32.toInt_toInt64, Int32.toInt_add, Int32.toInt_sub, Int32.toInt_mul, bm32, Int32.reduceToInt, Int64.reduceToInt, Nat.reduceLT, Nat.reduceEqDiff, reduceIte] at c_1
    refine ⟨fun c_2 => ?_, fun c_2 => ?_⟩
    · skip
      try simp (disch := omega) only [↓i_in, ↓i_isCouple, ↓i_isBridge, ↓i_isTheme, ↓i_isBarge, i_lt, i_le, i_eq, i_clamp, i_upd, i_m1, Int32.toInt_toInt64, Int32.toInt_add, Int32.toInt_sub, Int32.toInt_mul, bm32, Int32.reduceToInt, Int64.reduceToInt, Nat.reduceLT, Nat.reduceEqDiff, reduceIte] at c_2
      refine ⟨vp_in_iff.mpr (by first | omega | (simp (disch := omega) only [↓i_in, ↓i_isCouple, ↓i_isBridge, ↓i_isTheme, ↓i_isBarge, i_lt, i_le, i_eq, i_clamp, i_upd, i_m1, Int32.toInt_toInt64, Int32.toInt_add, Int32.toInt_sub, Int32.toInt_mul, bm32, Int32.reduceToInt, Int64.reduceToInt, Nat.reduceLT, Nat.reduceEqDiff, reduceIte] <;> omega)), ?_⟩
      exact trivial
    · skip
      try simp (disch := omega) only [↓i_in, ↓i_isCouple, ↓i_isBridge, ↓i_isTheme, ↓i_isBarge, i_lt, i_le, i_eq, i_clamp, i_upd, i_m1, Int32.toInt_toInt64, Int32.toInt_add, Int32.toInt_sub, Int32.toInt_mul, bm32, Int32.reduceToInt, Int64.reduceToInt, Nat.reduceLT, Nat.reduceEqDiff, reduceIte] at c_2
      refine ⟨vp_in_iff.mpr (by first | omega | (simp (disch := omega) only [↓i_in, ↓i_isCouple, ↓i_isBridge, ↓i_isTheme, ↓i_isBarge, i_lt, i_le, i_eq, i_clamp, i_upd, i_m1, Int32.toInt_toInt64, Int32.toInt_add, Int32.toInt_sub, Int32.toInt_mul, bm32, Int32.reduceToInt, Int64.reduceToInt, Nat.reduceLT, Nat.reduceEqDiff, reduceIte] <;> omega)), ?_⟩
      exact trivial
  · skip
    try simp (disch := omega) only [↓i_in, ↓i_isCouple, ↓i_isBridge, ↓i_isTheme, ↓i_isBarge, i_lt, i_le, i_eq, i_clamp, i_upd, i_m1, Int32.toInt_toInt64, Int32.toInt_add, Int32.toInt_sub, Int32.toInt_mul, bm32, Int32.reduceToInt, Int64.reduceToInt, Nat.reduceLT, Nat.reduceEqDiff, reduceIte] at c_1
    refine ⟨vp_in_iff.mpr (by first | omega | (simp (disch := omega) only [↓i_in, ↓i_isCouple, ↓i_isBridge, ↓i_isTheme, ↓i_isBarge, i_lt, i_le, i_eq, i_clamp, i_upd, i_m1, Int32.toInt_toInt64, Int32.toInt_add, Int32.toInt_sub, Int32.toInt_mul, bm32, Int32.reduceToInt, Int64.reduceToInt, Nat.reduceLT, Nat.reduceEqDiff, reduceIte] <;> omega)), ?_⟩
    exact trivial
set_option maxHeartbeats 4000000 in
theorem sl_begins_10  {K : Int32 → (Nat → Int32) → Prop} (hK : ∀ w_1l2 w_1m0, (WI w_1m0 ∧ (0 ≤ w_1l2.toInt) ∧ (w_1l2.toInt ≤ 42)) → K w_1l2 w_1m0) : ∀ (n : Nat) w_1l2 w_1m0, (WI w_1m0 ∧ (0 ≤ w_1l2.toInt) ∧ (w_1l2.toInt ≤ 42)) → S_m_begins_10  K n w_1l2 w_1m0 := by
  intro n
  induction n with
  | zero => intro w_1l2 w_1m0 hI; exact trivial
  | succ n ih =>
    intro w_1l2 w_1m0 hI
    rw [S_m_begins_10_s]
    have hI0 := hI
    obtain ⟨i_1, i_2, i_3⟩ := hI0
    refine ⟨fun c_4 => ?_, fun c_4 => ?_⟩
    · skip
      try simp (disch := omega) only [↓i_in, ↓i_isCouple, ↓i_isBridge, ↓i_isTheme, ↓i_isBarge, i_lt, i_le, i_eq, i_clamp, i_upd, i_m1, Int32.toInt_toInt64, Int32.toInt_add, Int32.toInt_sub, Int32.toInt_mul, bm32, Int32.reduceToInt, Int64.reduceToInt, Nat.reduceLT, Nat.reduceEqDiff, reduceIte] at c_4
      exact hK w_1l2 w_1m0 hI
    · skip
      try simp (disch := omega) only [↓i_in, ↓i_isCouple, ↓i_isBridge, ↓i_isTheme, ↓i_isBarge, i_lt, i_le, i_eq, i_clamp, i_upd, i_m1, Int32.toInt_toInt64, Int32.toInt_add, Int32.toInt_sub, Int32.toInt_mul, bm32, Int32.reduceToInt, Int64.reduceToInt, Nat.reduceLT, Nat.reduceEqDiff, reduceIte] at c_4
      refine ⟨vp_in_iff.mpr (by first | omega | (simp (disch := omega) only [↓i_in, ↓i_isCouple, ↓i_isBridge, ↓i_isTheme, ↓i_isBarge, i_lt, i_le, i_eq, i_clamp, i_upd, i_m1, Int32.toInt_toInt64, Int32.toInt_add, Int32.toInt_sub, Int32.toInt_mul, bm32, Int32.reduceToInt, Int64.reduceToInt, Nat.reduceLT, Nat.reduceEqDiff, reduceIte] <;> omega)), ?_⟩
      exact ih (w_1l2 + 1) (upd w_1m0 (w_1l2 : Int32).toNatClampNeg 0) (⟨(WI_upd i_1 OKv.z), (by first | omega | (simp (disch := omega) only [↓i_in, ↓i_isCouple, ↓i_isBridge, ↓i_isTheme, ↓i_isBarge, i_lt, i_le, i_eq, i_clamp, i_upd, i_m1, Int32.toInt_toInt64, Int32.toInt_add, Int32.toInt_sub, Int32.toInt_mul, bm32, Int32.reduceToInt, Int64.reduceToInt, Nat.reduceLT, Nat.reduceEqDiff, reduceIte] <;> omega)), (by first | omega | (simp (disch := omega) only [↓i_in, ↓i_isCouple, ↓i_isBridge, ↓i_isTheme, ↓i_isBarge, i_lt, i_le, i_eq, i_clamp, i_upd, i_m1, Int32.toInt_toInt64, Int32.toInt_add, Int32.toInt_sub, Int32.toInt_mul, bm32, Int32.reduceToInt, Int64.reduceToInt, Nat.reduceLT, Nat.reduceEqDiff, reduceIte] <;> omega))⟩)
set_option maxHeartbeats 4000000 in
theorem pl_begins_10  : ∀ (n : Nat) w_1l2 w_1m0, (WI w_1m0 ∧ (0 ≤ w_1l2.toInt) ∧ (w_1l2.toInt ≤ 42)) → ∀ r0 r1, f_m_begins_10  n w_1l2 w_1m0 = (r0, r1) → WI r1 ∧ (0 ≤ r0.toInt) ∧ (r0.toInt ≤ 42) := by
  intro n
  induction n with
  | zero =>
    intro w_1l2 w_1m0 hI r0 r1 e
    replace e : (w_1l2, w_1m0) = (r0, r1) := e
    cases e
    exact hI
  | succ n ih =>
    intro w_1l2 w_1m0 hI r0 r1 e
    rw [f_m_begins_10_s] at e
    have hI0 := hI
    obtain ⟨i_1, i_2, i_3⟩ := hI0
    by_cases c_4 : 42 ≤ w_1l2
    · rw [if_pos c_4] at e
      try simp (disch := omega) only [↓i_in, ↓i_isCouple, ↓i_isBridge, ↓i_isTheme, ↓i_isBarge, i_lt, i_le, i_eq, i_clamp, i_upd, i_m1, Int32.toInt_toInt64, Int32.toInt_add, Int32.toInt_sub, Int32.toInt_mul, bm32, Int32.reduceToInt, Int64.reduceToInt, Nat.reduceLT, Nat.reduceEqDiff, reduceIte] at c_4
      cases e
      exact hI
    · rw [if_neg c_4] at e
      try simp (disch := omega) only [↓i_in, ↓i_isCouple, ↓i_isBridge, ↓i_isTheme, ↓i_isBarge, i_lt, i_le, i_eq, i_clamp, i_upd, i_m1, Int32.toInt_toInt64, Int32.toInt_add, Int32.toInt_sub, Int32.toInt_mul, bm32, Int32.reduceToInt, Int64.reduceToInt, Nat.reduceLT, Nat.reduceEqDiff, reduceIte] at c_4
      exact ih (w_1l2 + 1) (upd w_1m0 (w_1l2 : Int32).toNatClampNeg 0) (⟨(WI_upd i_1 OKv.z), (by first | omega | (simp (disch := omega) only [↓i_in, ↓i_isCouple, ↓i_isBridge, ↓i_isTheme, ↓i_isBarge, i_lt, i_le, i_eq, i_clamp, i_upd, i_m1, Int32.toInt_toInt64, Int32.toInt_add, Int32.toInt_sub, Int32.toInt_mul, bm32, Int32.reduceToInt, Int64.reduceToInt, Nat.reduceLT, Nat.reduceEqDiff, reduceIte] <;> omega)), (by first | omega | (simp (disch := omega) only [↓i_in, ↓i_isCouple, ↓i_isBridge, ↓i_isTheme, ↓i_isBarge, i_lt, i_le, i_eq, i_clamp, i_upd, i_m1, Int32.toInt_toInt64, Int32.toInt_add, Int32.toInt_sub, Int32.toInt_mul, bm32, Int32.reduceToInt, Int64.reduceToInt, Nat.reduceLT, Nat.reduceEqDiff, reduceIte] <;> omega))⟩) _ _ e
set_option maxHeartbeats 4000000 in
theorem sl_begins_31 {G : Nat → Int32} {f9 : Nat → Int32} {K : Int32 → (Nat → Int32) → Prop} (hK : ∀ w_2l2 w_2m0, (WI w_2m0 ∧ (0 ≤ w_2l2.toInt) ∧ (w_2l2.toInt ≤ 6)) → K w_2l2 w_2m0) : ∀ (n : Nat) w_2l2 w_2m0, (WI w_2m0 ∧ (0 ≤ w_2l2.toInt) ∧ (w_2l2.toInt ≤ 6)) → S_m_begins_31 G f9 K n w_2l2 w_2m0 := by
  intro n
  induction n with
  | zero => intro w_2l2 w_2m0 hI; exact trivial
  | succ n ih =>
    intro w_2l2 w_2m0 hI
    rw [S_m_begins_31_s]
    have hI0 := hI
    obtain ⟨i_1, i_2, i_3⟩ := hI0
    refine ⟨fun c_4 => ?_, fun c_4 => ?_⟩
    · skip
      try simp (disch := omega) only [↓i_in, ↓i_isCouple, ↓i_isBridge, ↓i_isTheme, ↓i_isBarge, i_lt, i_le, i_eq, i_clamp, i_upd, i_m1, Int32.toInt_toInt64, Int32.toInt_add, Int32.toInt_sub, Int32.toInt_mul, bm32, Int32.reduceToInt, Int64.reduceToInt, Nat.reduceLT, Nat.reduceEqDiff, reduceIte] at c_4
      exact hK w_2l2 w_2m0 hI
    · skip
      try simp (disch := omega) only [↓i_in, ↓i_isCouple, ↓i_isBridge, ↓i_isTheme, ↓i_isBarge, i_lt, i_le, i_eq, i_clamp, i_upd, i_m1, Int32.toInt_toInt64, Int32.toInt_add, Int32.toInt_sub, Int32.toInt_mul, bm32, Int32.reduceToInt, Int64.reduceToInt, Nat.reduceLT, Nat.reduceEqDiff, reduceIte] at c_4
      refine ⟨fun c_5 => ?_, fun c_5 => ?_⟩
      · skip
        try simp (disch := omega) only [↓i_in, ↓i_isCouple, ↓i_isBridge, ↓i_isTheme, ↓i_isBarge, i_lt, i_le, i_eq, i_clamp, i_upd, i_m1, Int32.toInt_toInt64, Int32.toInt_add, Int32.toInt_sub, Int32.toInt_mul, bm32, Int32.reduceToInt, Int64.reduceToInt, Nat.reduceLT, Nat.reduceEqDiff, reduceIte] at c_5
        refine ⟨vp_in_iff.mpr (by first | omega | (simp (disch := omega) only [↓i_in, ↓i_isCouple, ↓i_isBridge, ↓i_isTheme, ↓i_isBarge, i_lt, i_le, i_eq, i_clamp, i_upd, i_m1, Int32.toInt_toInt64, Int32.toInt_add, Int32.toInt_sub, Int32.toInt_mul, bm32, Int32.reduceToInt, Int64.reduceToInt, Nat.reduceLT, Nat.reduceEqDiff, reduceIte] <;> omega)), ?_⟩
        refine ⟨vp_in_iff.mpr (by first | omega | (simp (disch := omega) only [↓i_in, ↓i_isCouple, ↓i_isBridge, ↓i_isTheme, ↓i_isBarge, i_lt, i_le, i_eq, i_clamp, i_upd, i_m1, Int32.toInt_toInt64, Int32.toInt_add, Int32.toInt_sub, Int32.toInt_mul, bm32, Int32.reduceToInt, Int64.reduceToInt, Nat.reduceLT, Nat.reduceEqDiff, reduceIte] <;> omega)), ?_⟩
        exact ih (w_2l2 + 1) (upd (upd w_2m0 ((0 + w_2l2) : Int32).toNatClampNeg 0) ((6 + w_2l2) : Int32).toNatClampNeg (-1)) (⟨(WI_upd (WI_upd i_1 OKv.z) (by first | (refine OKv.out ?_; (first | omega | (simp (disch := omega) only [↓i_in, ↓i_isCouple, ↓i_isBridge, ↓i_isTheme, ↓i_isBarge, i_lt, i_le, i_eq, i_clamp, i_upd, i_m1, Int32.toInt_toInt64, Int32.toInt_add, Int32.toInt_sub, Int32.toInt_mul, bm32, Int32.reduceToInt, Int64.reduceToInt, Nat.reduceLT, Nat.reduceEqDiff, reduceIte] <;> omega))) | (refine OKv.mk ?_; (first | omega | (simp (disch := omega) only [↓i_in, ↓i_isCouple, ↓i_isBridge, ↓i_isTheme, ↓i_isBarge, i_lt, i_le, i_eq, i_clamp, i_upd, i_m1, Int32.toInt_toInt64, Int32.toInt_add, Int32.toInt_sub, Int32.toInt_mul, bm32, Int32.reduceToInt, Int64.reduceToInt, Nat.reduceLT, Nat.reduceEqDiff, reduceIte] <;> omega))))), (by first | omega | (simp (disch := omega) only [↓i_in, ↓i_isCouple, ↓i_isBridge, ↓i_isTheme, ↓i_isBarge, i_lt, i_le, i_eq, i_clamp, i_upd, i_m1, Int32.toInt_toInt64, Int32.toInt_add, Int32.toInt_sub, Int32.toInt_mul, bm32, Int32.reduceToInt, Int64.reduceToInt, Nat.reduceLT, Nat.reduceEqDiff, reduceIte] <;> omega)), (by first | omega | (simp (disch := omega) only [↓i_in, ↓i_isCouple, ↓i_isBridge, ↓i_isTheme, ↓i_isBarge, i_lt, i_le, i_eq, i_clamp, i_upd, i_m1, Int32.toInt_toInt64, Int32.toInt_add, Int32.toInt_sub, Int32.toInt_mul, bm32, Int32.reduceToInt, Int64.reduceToInt, Nat.reduceLT, Nat.reduceEqDiff, reduceIte] <;> omega))⟩)
      · skip
        try simp (disch := omega) only [↓i_in, ↓i_isCouple, ↓i_isBridge, ↓i_isTheme, ↓i_isBarge, i_lt, i_le, i_eq, i_clamp, i_upd, i_m1, Int32.toInt_toInt64, Int32.toInt_add, Int32.toInt_sub, Int32.toInt_mul, bm32, Int32.reduceToInt, Int64.reduceToInt, Nat.reduceLT, Nat.reduceEqDiff, reduceIte] at c_5
        refine ⟨vp_in_iff.mpr (by first | omega | (simp (disch := omega) only [↓i_in, ↓i_isCouple, ↓i_isBridge, ↓i_isTheme, ↓i_isBarge, i_lt, i_le, i_eq, i_clamp, i_upd, i_m1, Int32.toInt_toInt64, Int32.toInt_add, Int32.toInt_sub, Int32.toInt_mul, bm32, Int32.reduceToInt, Int64.reduceToInt, Nat.reduceLT, Nat.reduceEqDiff, reduceIte] <;> omega)), ?_⟩
        refine ⟨vp_in_iff.mpr (by first | omega | (simp (disch := omega) only [↓i_in, ↓i_isCouple, ↓i_isBridge, ↓i_isTheme, ↓i_isBarge, i_lt, i_le, i_eq, i_clamp, i_upd, i_m1, Int32.toInt_toInt64, Int32.toInt_add, Int32.toInt_sub, Int32.toInt_mul, bm32, Int32.reduceToInt, Int64.reduceToInt, Nat.reduceLT, Nat.reduceEqDiff, reduceIte] <;> omega)), ?_⟩
        refine ⟨vp_in_iff.mpr (by first | omega | (simp (disch := omega) only [↓i_in, ↓i_isCouple, ↓i_isBridge, ↓i_isTheme, ↓i_isBarge, i_lt, i_le, i_eq, i_clamp, i_upd, i_m1, Int32.toInt_toInt64, Int32.toInt_add, Int32.toInt_sub, Int32.toInt_mul, bm32, Int32.reduceToInt, Int64.reduceToInt, Nat.reduceLT, Nat.reduceEqDiff, reduceIte] <;> omega)), ?_⟩
        exact ih (w_2l2 + 1) (upd (upd w_2m0 ((0 + w_2l2) : Int32).toNatClampNeg (f9 (w_2l2 : Int32).toNatClampNeg)) ((6 + w_2l2) : Int32).toNatClampNeg (-1)) (⟨(WI_upd (WI_upd i_1 (by first | (refine OKv.out ?_; (first | omega | (simp (disch := omega) only [↓i_in, ↓i_isCouple, ↓i_isBridge, ↓i_isTheme, ↓i_isBarge, i_lt, i_le, i_eq, i_clamp, i_upd, i_m1, Int32.toInt_toInt64, Int32.toInt_add, Int32.toInt_sub, Int32.toInt_mul, bm32, Int32.reduceToInt, Int64.reduceToInt, Nat.reduceLT, Nat.reduceEqDiff, reduceIte] <;> omega))) | (refine OKv.mk ?_; (first | omega | (simp (disch := omega) only [↓i_in, ↓i_isCouple, ↓i_isBridge, ↓i_isTheme, ↓i_isBarge, i_lt, i_le, i_eq, i_clamp, i_upd, i_m1, Int32.toInt_toInt64, Int32.toInt_add, Int32.toInt_sub, Int32.toInt_mul, bm32, Int32.reduceToInt, Int64.reduceToInt, Nat.reduceLT, Nat.reduceEqDiff, reduceIte] <;> omega))))) (by first | (refine OKv.out ?_; (first | omega | (simp (disch := omega) only [↓i_in, ↓i_isCouple, ↓i_isBridge, ↓i_isTheme, ↓i_isBarge, i_lt, i_le, i_eq, i_clamp, i_upd, i_m1, Int32.toInt_toInt64, Int32.toInt_add, Int32.toInt_sub, Int32.toInt_mul, bm32, Int32.reduceToInt, Int64.reduceToInt, Nat.reduceLT, Nat.reduceEqDiff, reduceIte] <;> omega))) | (refine OKv.mk ?_; (first | omega | (simp (disch := omega) only [↓i_in, ↓i_isCouple, ↓i_isBridge, ↓i_isTheme, ↓i_isBarge, i_lt, i_le, i_eq, i_clamp, i_upd, i_m1, Int32.toInt_toInt64, Int32.toInt_add, Int32.toInt_sub, Int32.toInt_mul, bm32, Int32.reduceToInt, Int64.reduceToInt, Nat.reduceLT, Nat.reduceEqDiff, reduceIte] <;> omega))))), (by first | omega | (simp (disch := omega) only [↓i_in, ↓i_isCouple, ↓i_isBridge, ↓i_isTheme, ↓i_isBarge, i_lt, i_le, i_eq, i_clamp, i_upd, i_m1, Int32.toInt_toInt64, Int32.toInt_add, Int32.toInt_sub, Int32.toInt_mul, bm32, Int32.reduceToInt, Int64.reduceToInt, Nat.reduceLT, Nat.reduceEqDiff, reduceIte] <;> omega)), (by first | omega | (simp (disch := omega) only [↓i_in, ↓i_isCouple, ↓i_isBridge, ↓i_isTheme, ↓i_isBarge, i_lt, i_le, i_eq, i_clamp, i_upd, i_m1, Int32.toInt_toInt64, Int32.toInt_add, Int32.toInt_sub, Int32.toInt_mul, bm32, Int32.reduceToInt, Int64.reduceToInt, Nat.reduceLT, Nat.reduceEqDiff, reduceIte] <;> omega))⟩)
set_option maxHeartbeats 4000000 in
theorem pl_begins_31 {G : Nat → Int32} {f9 : Nat → Int32} : ∀ (n : Nat) w_2l2 w_2m0, (WI w_2m0 ∧ (0 ≤ w_2l2.toInt) ∧ (w_2l2.toInt ≤ 6)) → ∀ r0 r1, f_m_begins_31 G f9 n w_2l2 w_2m0 = (r0, r1) → WI r1 ∧ (0 ≤ r0.toInt) ∧ (r0.toInt ≤ 6) := by
  intro n
  induction n with
  | zero =>
    intro w_2l2 w_2m0 hI r0 r1 e
    replace e : (w_2l2, w_2m0) = (r0, r1) := e
    cases e
    exact hI
  | succ n ih =>
    intro w_2l2 w_2m0 hI r0 r1 e
    rw [f_m_begins_31_s] at e
    have hI0 := hI
    obtain ⟨i_1, i_2, i_3⟩ := hI0
    by_cases c_4 : 6 ≤ w_2l2
    · rw [if_pos c_4] at e
      try simp (disch := omega) only [↓i_in, ↓i_isCouple, ↓i_isBridge, ↓i_isTheme, ↓i_isBarge, i_lt, i_le, i_eq, i_clamp, i_upd, i_m1, Int32.toInt_toInt64, Int32.toInt_add, Int32.toInt_sub, Int32.toInt_mul, bm32, Int32.reduceToInt, Int64.reduceToInt, Nat.reduceLT, Nat.reduceEqDiff, reduceIte] at c_4
      cases e
      exact hI
    · rw [if_neg c_4] at e
      try simp (disch := omega) only [↓i_in, ↓i_isCouple, ↓i_isBridge, ↓i_isTheme, ↓i_isBarge, i_lt, i_le, i_eq, i_clamp, i_upd, i_m1, Int32.toInt_toInt64, Int32.toInt_add, Int32.toInt_sub, Int32.toInt_mul, bm32, Int32.reduceToInt, Int64.reduceToInt, Nat.reduceLT, Nat.reduceEqDiff, reduceIte] at c_4
      by_cases c_5 : (G 5) ≤ w_2l2
      · rw [if_pos c_5] at e
        try simp (disch := omega) only [↓i_in, ↓i_isCouple, ↓i_isBridge, ↓i_isTheme, ↓i_isBarge, i_lt, i_le, i_eq, i_clamp, i_upd, i_m1, Int32.toInt_toInt64, Int32.toInt_add, Int32.toInt_sub, Int32.toInt_mul, bm32, Int32.reduceToInt, Int64.reduceToInt, Nat.reduceLT, Nat.reduceEqDiff, reduceIte] at c_5
        exact ih (w_2l2 + 1) (upd (upd w_2m0 ((0 + w_2l2) : Int32).toNatClampNeg 0) ((6 + w_2l2) : Int32).toNatClampNeg (-1)) (⟨(WI_upd (WI_upd i_1 OKv.z) (by first | (refine OKv.out ?_; (first | omega | (simp (disch := omega) only [↓i_in, ↓i_isCouple, ↓i_isBridge, ↓i_isTheme, ↓i_isBarge, i_lt, i_le, i_eq, i_clamp, i_upd, i_m1, Int32.toInt_toInt64, Int32.toInt_add, Int32.toInt_sub, Int32.toInt_mul, bm32, Int32.reduceToInt, Int64.reduceToInt, Nat.reduceLT, Nat.reduceEqDiff, reduceIte] <;> omega))) | (refine OKv.mk ?_; (first | omega | (simp (disch := omega) only [↓i_in, ↓i_isCouple, ↓i_isBridge, ↓i_isTheme, ↓i_isBarge, i_lt, i_le, i_eq, i_clamp, i_upd, i_m1, Int32.toInt_toInt64, Int32.toInt_add, Int32.toInt_sub, Int32.toInt_mul, bm32, Int32.reduceToInt, Int64.reduceToInt, Nat.reduceLT, Nat.reduceEqDiff, reduceIte] <;> omega))))), (by first | omega | (simp (disch := omega) only [↓i_in, ↓i_isCouple, ↓i_isBridge, ↓i_isTheme, ↓i_isBarge, i_lt, i_le, i_eq, i_clamp, i_upd, i_m1, Int32.toInt_toInt64, Int32.toInt_add, Int32.toInt_sub, Int32.toInt_mul, bm32, Int32.reduceToInt, Int64.reduceToInt, Nat.reduceLT, Nat.reduceEqDiff, reduceIte] <;> omega)), (by first | omega | (simp (disch := omega) only [↓i_in, ↓i_isCouple, ↓i_isBridge, ↓i_isTheme, ↓i_isBarge, i_lt, i_le, i_eq, i_clamp, i_upd, i_m1, Int32.toInt_toInt64, Int32.toInt_add, Int32.toInt_sub, Int32.toInt_mul, bm32, Int32.reduceToInt, Int64.reduceToInt, Nat.reduceLT, Nat.reduceEqDiff, reduceIte] <;> omega))⟩) _ _ e
      · rw [if_neg c_5] at e
        try simp (disch := omega) only [↓i_in, ↓i_isCouple, ↓i_isBridge, ↓i_isTheme, ↓i_isBarge, i_lt, i_le, i_eq, i_clamp, i_upd, i_m1, Int32.toInt_toInt64, Int32.toInt_add, Int32.toInt_sub, Int32.toInt_mul, bm32, Int32.reduceToInt, Int64.reduceToInt, Nat.reduceLT, Nat.reduceEqDiff, reduceIte] at c_5
        exact ih (w_2l2 + 1) (upd (upd w_2m0 ((0 + w_2l2) : Int32).toNatClampNeg (f9 (w_2l2 : Int32).toNatClampNeg)) ((6 + w_2l2) : Int32).toNatClampNeg (-1)) (⟨(WI_upd (WI_upd i_1 (by first | (refine OKv.out ?_; (first | omega | (simp (disch := omega) only [↓i_in, ↓i_isCouple, ↓i_isBridge, ↓i_isTheme, ↓i_isBarge, i_lt, i_le, i_eq, i_clamp, i_upd, i_m1, Int32.toInt_toInt64, Int32.toInt_add, Int32.toInt_sub, Int32.toInt_mul, bm32, Int32.reduceToInt, Int64.reduceToInt, Nat.reduceLT, Nat.reduceEqDiff, reduceIte] <;> omega))) | (refine OKv.mk ?_; (first | omega | (simp (disch := omega) only [↓i_in, ↓i_isCouple, ↓i_isBridge, ↓i_isTheme, ↓i_isBarge, i_lt, i_le, i_eq, i_clamp, i_upd, i_m1, Int32.toInt_toInt64, Int32.toInt_add, Int32.toInt_sub, Int32.toInt_mul, bm32, Int32.reduceToInt, Int64.reduceToInt, Nat.reduceLT, Nat.reduceEqDiff, reduceIte] <;> omega))))) (by first | (refine OKv.out ?_; (first | omega | (simp (disch := omega) only [↓i_in, ↓i_isCouple, ↓i_isBridge, ↓i_isTheme, ↓i_isBarge, i_lt, i_le, i_eq, i_clamp, i_upd, i_m1, Int32.toInt_toInt64, Int32.toInt_add, Int32.toInt_sub, Int32.toInt_mul, bm32, Int32.reduceToInt, Int64.reduceToInt, Nat.reduceLT, Nat.reduceEqDiff, reduceIte] <;> omega))) | (refine OKv.mk ?_; (first | omega | (simp (disch := omega) only [↓i_in, ↓i_isCouple, ↓i_isBridge, ↓i_isTheme, ↓i_isBarge, i_lt, i_le, i_eq, i_clamp, i_upd, i_m1, Int32.toInt_toInt64, Int32.toInt_add, Int32.toInt_sub, Int32.toInt_mul, bm32, Int32.reduceToInt, Int64.reduceToInt, Nat.reduceLT, Nat.reduceEqDiff, reduceIte] <;> omega))))), (by first | omega | (simp (disch := omega) only [↓i_in, ↓i_isCouple, ↓i_isBridge, ↓i_isTheme, ↓i_isBarge, i_lt, i_le, i_eq, i_clamp, i_upd, i_m1, Int32.toInt_toInt64, Int32.toInt_add, Int32.toInt_sub, Int32.toInt_mul, bm32, Int32.reduceToInt, Int64.reduceToInt, Nat.reduceLT, Nat.reduceEqDiff, reduceIte] <;> omega)), (by first | omega | (simp (disch := omega) only [↓i_in, ↓i_isCouple, ↓i_isBridge, ↓i_isTheme, ↓i_isBarge, i_lt, i_le, i_eq, i_clamp, i_upd, i_m1, Int32.toInt_toInt64, Int32.toInt_add, Int32.toInt_sub, Int32.toInt_mul, bm32, Int32.reduceToInt, Int64.reduceToInt, Nat.reduceLT, Nat.reduceEqDiff, reduceIte] <;> omega))⟩) _ _ e
set_option maxHeartbeats 4000000 in
theorem sl_begins_81  {K : Int32 → (Nat → Int32) → Prop} (hK : ∀ w_3l2 w_3m0, (WI w_3m0 ∧ (0 ≤ w_3l2.toInt) ∧ (w_3l2.toInt ≤ 7)) → K w_3l2 w_3m0) : ∀ (n : Nat) w_3l2 w_3m0, (WI w_3m0 ∧ (0 ≤ w_3l2.toInt) ∧ (w_3l2.toInt ≤ 7)) → S_m_begins_81  K n w_3l2 w_3m0 := by
  intro n
  induction n with
  | zero => intro w_3l2 w_3m0 hI; exact trivial
  | succ n ih =>
    intro w_3l2 w_3m0 hI
    rw [S_m_begins_81_s]
    have hI0 := hI
    obtain ⟨i_1, i_2, i_3⟩ := hI0
    refine ⟨fun c_4 => ?_, fun c_4 => ?_⟩
    · skip
      try simp (disch := omega) only [↓i_in, ↓i_isCouple, ↓i_isBridge, ↓i_isTheme, ↓i_isBarge, i_lt, i_le, i_eq, i_clamp, i_upd, i_m1, Int32.toInt_toInt64, Int32.toInt_add, Int32.toInt_sub, Int32.toInt_mul, bm32, Int32.reduceToInt, Int64.reduceToInt, Nat.reduceLT, Nat.reduceEqDiff, reduceIte] at c_4
      exact hK w_3l2 w_3m0 hI
    · skip
      try simp (disch := omega) only [↓i_in, ↓i_isCouple, ↓i_isBridge, ↓i_isTheme, ↓i_isBarge, i_lt, i_le, i_eq, i_clamp, i_upd, i_m1, Int32.toInt_toInt64, Int32.toInt_add, Int32.toInt_sub, Int32.toInt_mul, bm32, Int32.reduceToInt, Int64.reduceToInt, Nat.reduceLT, Nat.reduceEqDiff, reduceIte] at c_4
      refine ⟨vp_in_iff.mpr (by first | omega | (simp (disch := omega) only [↓i_in, ↓i_isCouple, ↓i_isBridge, ↓i_isTheme, ↓i_isBarge, i_lt, i_le, i_eq, i_clamp, i_upd, i_m1, Int32.toInt_toInt64, Int32.toInt_add, Int32.toInt_sub, Int32.toInt_mul, bm32, Int32.reduceToInt, Int64.reduceToInt, Nat.reduceLT, Nat.reduceEqDiff, reduceIte] <;> omega)), ?_⟩
      refine ⟨vp_in_iff.mpr (by first | omega | (simp (disch := omega) only [↓i_in, ↓i_isCouple, ↓i_isBridge, ↓i_isTheme, ↓i_isBarge, i_lt, i_le, i_eq, i_clamp, i_upd, i_m1, Int32.toInt_toInt64, Int32.toInt_add, Int32.toInt_sub, Int32.toInt_mul, bm32, Int32.reduceToInt, Int64.reduceToInt, Nat.reduceLT, Nat.reduceEqDiff, reduceIte] <;> omega)), ?_⟩
      exact ih (w_3l2 + 1) (upd (upd w_3m0 ((27 + w_3l2) : Int32).toNatClampNeg (-1)) ((34 + w_3l2) : Int32).toNatClampNeg (-1)) (⟨(WI_upd (WI_upd i_1 (by first | (refine OKv.out ?_; (first | omega | (simp (disch := omega) only [↓i_in, ↓i_isCouple, ↓i_isBridge, ↓i_isTheme, ↓i_isBarge, i_lt, i_le, i_eq, i_clamp, i_upd, i_m1, Int32.toInt_toInt64, Int32.toInt_add, Int32.toInt_sub, Int32.toInt_mul, bm32, Int32.reduceToInt, Int64.reduceToInt, Nat.reduceLT, Nat.reduceEqDiff, reduceIte] <;> omega))) | (refine OKv.mk ?_; (first | omega | (simp (disch := omega) only [↓i_in, ↓i_isCouple, ↓i_isBridge, ↓i_isTheme, ↓i_isBarge, i_lt, i_le, i_eq, i_clamp, i_upd, i_m1, Int32.toInt_toInt64, Int32.toInt_add, Int32.toInt_sub, Int32.toInt_mul, bm32, Int32.reduceToInt, Int64.reduceToInt, Nat.reduceLT, Nat.reduceEqDiff, reduceIte] <;> omega))))) (by first | (refine OKv.out ?_; (first | omega | (simp (disch := omega) only [↓i_in, ↓i_isCouple, ↓i_isBridge, ↓i_isTheme, ↓i_isBarge, i_lt, i_le, i_eq, i_clamp, i_upd, i_m1, Int32.toInt_toInt64, Int32.toInt_add, Int32.toInt_sub, Int32.toInt_mul, bm32, Int32.reduceToInt, Int64.reduceToInt, Nat.reduceLT, Nat.reduceEqDiff, reduceIte] <;> omega))) | (refine OKv.mk ?_; (first | omega | (simp (disch := omega) only [↓i_in, ↓i_isCouple, ↓i_isBridge, ↓i_isTheme, ↓i_isBarge, i_lt, i_le, i_eq, i_clamp, i_upd, i_m1, Int32.toInt_toInt64, Int32.toInt_add, Int32.toInt_sub, Int32.toInt_mul, bm32, Int32.reduceToInt, Int64.reduceToInt, Nat.reduceLT, Nat.reduceEqDiff, reduceIte] <;> omega))))), (by first | omega | (simp (disch := omega) only [↓i_in, ↓i_isCouple, ↓i_isBridge, ↓i_isTheme, ↓i_isBarge, i_lt, i_le, i_eq, i_clamp, i_upd, i_m1, Int32.toInt_toInt64, Int32.toInt_add, Int32.toInt_sub, Int32.toInt_mul, bm32, Int32.reduceToInt, Int64.reduceToInt, Nat.reduceLT, Nat.reduceEqDiff, reduceIte] <;> omega)), (by first | omega | (simp (disch := omega) only [↓i_in, ↓i_isCouple, ↓i_isBridge, ↓i_isTheme, ↓i_isBarge, i_lt, i_le, i_eq, i_clamp, i_upd, i_m1, Int32.toInt_toInt64, Int32.toInt_add, Int32.toInt_sub, Int32.toInt_mul, bm32, Int32.reduceToInt, Int64.reduceToInt, Nat.reduceLT, Nat.reduceEqDiff, reduceIte] <;> omega))⟩)
set_option maxHeartbeats 4000000 in
theorem pl_begins_81  : ∀ (n : Nat) w_3l2 w_3m0, (WI w_3m0 ∧ (0 ≤ w_3l2.toInt) ∧ (w_3l2.toInt ≤ 7)) → ∀ r0 r1, f_m_begins_81  n w_3l2 w_3m0 = (r0, r1) → WI r1 ∧ (0 ≤ r0.toInt) ∧ (r0.toInt ≤ 7) := by
  intro n
  induction n with
  | zero =>
    intro w_3l2 w_3m0 hI r0 r1 e
    replace e : (w_3l2, w_3m0) = (r0, r1) := e
    cases e
    exact hI
  | succ n ih =>
    intro w_3l2 w_3m0 hI r0 r1 e
    rw [f_m_begins_81_s] at e
    have hI0 := hI
    obtain ⟨i_1, i_2, i_3⟩ := hI0
    by_cases c_4 : 7 ≤ w_3l2
    · rw [if_pos c_4] at e
      try simp (disch := omega) only [↓i_in, ↓i_isCouple, ↓i_isBridge, ↓i_isTheme, ↓i_isBarge, i_lt, i_le, i_eq, i_clamp, i_upd, i_m1, Int32.toInt_toInt64, Int32.toInt_add, Int32.toInt_sub, Int32.toInt_mul, bm32, Int32.reduceToInt, Int64.reduceToInt, Nat.reduceLT, Nat.reduceEqDiff, reduceIte] at c_4
      cases e
      exact hI
    · rw [if_neg c_4] at e
      try simp (disch := omega) only [↓i_in, ↓i_isCouple, ↓i_isBridge, ↓i_isTheme, ↓i_isBarge, i_lt, i_le, i_eq, i_clamp, i_upd, i_m1, Int32.toInt_toInt64, Int32.toInt_add, Int32.toInt_sub, Int32.toInt_mul, bm32, Int32.reduceToInt, Int64.reduceToInt, Nat.reduceLT, Nat.reduceEqDiff, reduceIte] at c_4
      exact ih (w_3l2 + 1) (upd (upd w_3m0 ((27 + w_3l2) : Int32).toNatClampNeg (-1)) ((34 + w_3l2) : Int32).toNatClampNeg (-1)) (⟨(WI_upd (WI_upd i_1 (by first | (refine OKv.out ?_; (first | omega | (simp (disch := omega) only [↓i_in, ↓i_isCouple, ↓i_isBridge, ↓i_isTheme, ↓i_isBarge, i_lt, i_le, i_eq, i_clamp, i_upd, i_m1, Int32.toInt_toInt64, Int32.toInt_add, Int32.toInt_sub, Int32.toInt_mul, bm32, Int32.reduceToInt, Int64.reduceToInt, Nat.reduceLT, Nat.reduceEqDiff, reduceIte] <;> omega))) | (refine OKv.mk ?_; (first | omega | (simp (disch := omega) only [↓i_in, ↓i_isCouple, ↓i_isBridge, ↓i_isTheme, ↓i_isBarge, i_lt, i_le, i_eq, i_clamp, i_upd, i_m1, Int32.toInt_toInt64, Int32.toInt_add, Int32.toInt_sub, Int32.toInt_mul, bm32, Int32.reduceToInt, Int64.reduceToInt, Nat.reduceLT, Nat.reduceEqDiff, reduceIte] <;> omega))))) (by first | (refine OKv.out ?_; (first | omega | (simp (disch := omega) only [↓i_in, ↓i_isCouple, ↓i_isBridge, ↓i_isTheme, ↓i_isBarge, i_lt, i_le, i_eq, i_clamp, i_upd, i_m1, Int32.toInt_toInt64, Int32.toInt_add, Int32.toInt_sub, Int32.toInt_mul, bm32, Int32.reduceToInt, Int64.reduceToInt, Nat.reduceLT, Nat.reduceEqDiff, reduceIte] <;> omega))) | (refine OKv.mk ?_; (first | omega | (simp (disch := omega) only [↓i_in, ↓i_isCouple, ↓i_isBridge, ↓i_isTheme, ↓i_isBarge, i_lt, i_le, i_eq, i_clamp, i_upd, i_m1, Int32.toInt_toInt64, Int32.toInt_add, Int32.toInt_sub, Int32.toInt_mul, bm32, Int32.reduceToInt, Int64.reduceToInt, Nat.reduceLT, Nat.reduceEqDiff, reduceIte] <;> omega))))), (by first | omega | (simp (disch := omega) only [↓i_in, ↓i_isCouple, ↓i_isBridge, ↓i_isTheme, ↓i_isBarge, i_lt, i_le, i_eq, i_clamp, i_upd, i_m1, Int32.toInt_toInt64, Int32.toInt_add, Int32.toInt_sub, Int32.toInt_mul, bm32, Int32.reduceToInt, Int64.reduceToInt, Nat.reduceLT, Nat.reduceEqDiff, reduceIte] <;> omega)), (by first | omega | (simp (disch := omega) only [↓i_in, ↓i_isCouple, ↓i_isBridge, ↓i_isTheme, ↓i_isBarge, i_lt, i_le, i_eq, i_clamp, i_upd, i_m1, Int32.toInt_toInt64, Int32.toInt_add, Int32.toInt_sub, Int32.toInt_mul, bm32, Int32.reduceToInt, Int64.reduceToInt, Nat.reduceLT, Nat.reduceEqDiff, reduceIte] <;> omega))⟩) _ _ e
set_option maxHeartbeats 4000000 in
theorem s_begins {G : Nat → Int32} {f0 : Nat → Int32} {f9 : Nat → Int32} (h_0 : WI f0) : S_m_begins G f0 f9 := by
  unfold S_m_begins
  refine sl_begins_10 ?_ (((42 : Int32).toInt - (0 : Int32).toInt).toNat + 1) 0 f0 (⟨h_0, (by first | omega | (simp (disch := omega) only [↓i_in, ↓i_isCouple, ↓i_isBridge, ↓i_isTheme, ↓i_isBarge, i_lt, i_le, i_eq, i_clamp, i_upd, i_m1, Int32.toInt_toInt64, Int32.toInt_add, Int32.toInt_sub, Int32.toInt_mul, bm32, Int32.reduceToInt, Int64.reduceToInt, Nat.reduceLT, Nat.reduceEqDiff, reduceIte] <;> omega)), (by first | omega | (simp (disch := omega) only [↓i_in, ↓i_isCouple, ↓i_isBridge, ↓i_isTheme, ↓i_isBarge, i_lt, i_le, i_eq, i_clamp, i_upd, i_m1, Int32.toInt_toInt64, Int32.toInt_add, Int32.toInt_sub, Int32.toInt_mul, bm32, Int32.reduceToInt, Int64.reduceToInt, Nat.reduceLT, Nat.reduceEqDiff, reduceIte] <;> omega))⟩)
  intro w_1l2 w_1m0 i_1
  obtain ⟨i_2, i_3, i_4⟩ := i_1
  refine sl_begins_31 ?_ (((6 : Int32).toInt - (0 : Int32).toInt).toNat + 1) 0 w_1m0 (⟨i_2, (by first | omega | (simp (disch := omega) only [↓i_in, ↓i_isCouple, ↓i_isBridge, ↓i_isTheme, ↓i_isBarge, i_lt, i_le, i_eq, i_clamp, i_upd, i_m1, Int32.toInt_toInt64, Int32.toInt_add, Int32.toInt_sub, Int32.toInt_mul, bm32, Int32.reduceToInt, Int64.reduceToInt, Nat.reduceLT, Nat.reduceEqDiff, reduceIte] <;> omega)), (by first | omega | (simp (disch := omega) only [↓i_in, ↓i_isCouple, ↓i_isBridge, ↓i_isTheme, ↓i_isBarge, i_lt, i_le, i_eq, i_clamp, i_upd, i_m1, Int32.toInt_toInt64, Int32.toInt_add, Int32.toInt_sub, Int32.toInt_mul, bm32, Int32.reduceToInt, Int64.reduceToInt, Nat.reduceLT, Nat.reduceEqDiff, reduceIte] <;> omega))⟩)
  intro w_2l2 w_2m0 i_5
  obtain ⟨i_6, i_7, i_8⟩ := i_5
  refine sl_begins_81 ?_ (((7 : Int32).toInt - (0 : Int32).toInt).toNat + 1) 0 w_2m0 (⟨i_6, (by first | omega | (simp (disch := omega) only [↓i_in, ↓i_isCouple, ↓i_isBridge, ↓i_isTheme, ↓i_isBarge, i_lt, i_le, i_eq, i_clamp, i_upd, i_m1, Int32.toInt_toInt64, Int32.toInt_add, Int32.toInt_sub, Int32.toInt_mul, bm32, Int32.reduceToInt, Int64.reduceToInt, Nat.reduceLT, Nat.reduceEqDiff, reduceIte] <;> omega)), (by first | omega | (simp (disch := omega) only [↓i_in, ↓i_isCouple, ↓i_isBridge, ↓i_isTheme, ↓i_isBarge, i_lt, i_le, i_eq, i_clamp, i_upd, i_m1, Int32.toInt_toInt64, Int32.toInt_add, Int32.toInt_sub, Int32.toInt_mul, bm32, Int32.reduceToInt, Int64.reduceToInt, Nat.reduceLT, Nat.reduceEqDiff, reduceIte] <;> omega))⟩)
  intro w_3l2 w_3m0 i_9
  obtain ⟨i_10, i_11, i_12⟩ := i_9
  exact trivial
theorem p_begins {G f0 f9 : Nat → Int32} (h : WI f0) : WI (f_m_begins G f0 f9) := by
  unfold f_m_begins
  generalize hx : f_m_begins_10 _ _ _ = x
  obtain ⟨a, b⟩ := x
  have h1 := pl_begins_10 _ _ _ ⟨h, by decide, by decide⟩ _ _ hx
  show WI (match f_m_begins_31 G f9 (((6 : Int32).toInt - (0 : Int32).toInt).toNat + 1) 0 b with | (w_2l2, w_2m0) => (match f_m_begins_81 (((7 : Int32).toInt - (0 : Int32).toInt).toNat + 1) 0 w_2m0 with | (w_3l2, w_3m0) => (upd w_3m0 (41 : Int32).toNatClampNeg (f0 (41 : Int32).toNatClampNeg))))
  generalize hy : f_m_begins_31 _ _ _ _ _ = y
  obtain ⟨c, d⟩ := y
  have h2 := pl_begins_31 _ _ _ ⟨h1.1, by decide, by decide⟩ _ _ hy
  show WI (match f_m_begins_81 (((7 : Int32).toInt - (0 : Int32).toInt).toNat + 1) 0 d with | (w_3l2, w_3m0) => (upd w_3m0 (41 : Int32).toNatClampNeg (f0 (41 : Int32).toNatClampNeg)))
  generalize hz : f_m_begins_81 _ _ _ = z
  obtain ⟨p, q⟩ := z
  have h3 := pl_begins_81 _ _ _ ⟨h2.1, by decide, by decide⟩ _ _ hz
  exact WI_upd h3.1 (h _)
set_option maxHeartbeats 4000000 in
theorem sl_minds_11 {G : Nat → Int32} {K : Int32 → (Nat → Int32) → (Nat → Int32) → Prop} (h_0 : GI G) (hK : ∀ w_5l1 w_5m0 w_5m1, (QG G w_5m0 ∧ WI w_5m1 ∧ (0 ≤ w_5l1.toInt) ∧ (w_5l1.toInt ≤ 798)) → K w_5l1 w_5m0 w_5m1) : ∀ (n : Nat) w_5l1 w_5m0 w_5m1, (QG G w_5m0 ∧ WI w_5m1 ∧ (0 ≤ w_5l1.toInt) ∧ (w_5l1.toInt ≤ 798)) → S_m_minds_11  K n w_5l1 w_5m0 w_5m1 := by
  have h_0_g := h_0
  obtain ⟨⟨h_0_2a, h_0_2b⟩, ⟨h_0_3a, h_0_3b⟩, ⟨h_0_4a, h_0_4b⟩, ⟨h_0_5a, h_0_5b⟩, ⟨h_0_6a, h_0_6b⟩, ⟨h_0_14a, h_0_14b⟩, ⟨h_0_42a, h_0_42b⟩⟩ := h_0_g
  intro n
  induction n with
  | zero => intro w_5l1 w_5m0 w_5m1 hI; exact trivial
  | succ n ih =>
    intro w_5l1 w_5m0 w_5m1 hI
    rw [S_m_minds_11_s]
    have hI0 := hI
    obtain ⟨i_1, i_2, i_3, i_4⟩ := hI0
    obtain ⟨w_5m0_2, w_5m0_3, w_5m0_4, w_5m0_5, w_5m0_6, w_5m0_14, w_5m0_42⟩ := QGs i_1
    refine ⟨fun c_5 => ?_, fun c_5 => ?_⟩
    · skip
      try simp (disch := omega) only [↓i_in, ↓i_isCouple, ↓i_isBridge, ↓i_isTheme, ↓i_isBarge, i_lt, i_le, i_eq, i_clamp, i_upd, i_m1, Int32.toInt_toInt64, Int32.toInt_add, Int32.toInt_sub, Int32.toInt_mul, bm32, Int32.reduceToInt, Int64.reduceToInt, Nat.reduceLT, Nat.reduceEqDiff, reduceIte, w_5m0_2, w_5m0_3, w_5m0_4, w_5m0_5, w_5m0_6, w_5m0_14, w_5m0_42] at c_5
      exact hK w_5l1 w_5m0 w_5m1 hI
    · skip
      try simp (disch := omega) only [↓i_in, ↓i_isCouple, ↓i_isBridge, ↓i_isTheme, ↓i_isBarge, i_lt, i_le, i_eq, i_clamp, i_upd, i_m1, Int32.toInt_toInt64, Int32.toInt_add, Int32.toInt_sub, Int32.toInt_mul, bm32, Int32.reduceToInt, Int64.reduceToInt, Nat.reduceLT, Nat.reduceEqDiff, reduceIte, w_5m0_2, w_5m0_3, w_5m0_4, w_5m0_5, w_5m0_6, w_5m0_14, w_5m0_42] at c_5
      refine ⟨vp_in_iff.mpr (by first | omega | (simp (disch := omega) only [↓i_in, ↓i_isCouple, ↓i_isBridge, ↓i_isTheme, ↓i_isBarge, i_lt, i_le, i_eq, i_clamp, i_upd, i_m1, Int32.toInt_toInt64, Int32.toInt_add, Int32.toInt_sub, Int32.toInt_mul, bm32, Int32.reduceToInt, Int64.reduceToInt, Nat.reduceLT, Nat.reduceEqDiff, reduceIte, w_5m0_2, w_5m0_3, w_5m0_4, w_5m0_5, w_5m0_6, w_5m0_14, w_5m0_42] <;> omega)), ?_⟩
      refine ⟨vp_in_iff.mpr (by first | omega | (simp (disch := omega) only [↓i_in, ↓i_isCouple, ↓i_isBridge, ↓i_isTheme, ↓i_isBarge, i_lt, i_le, i_eq, i_clamp, i_upd, i_m1, Int32.toInt_toInt64, Int32.toInt_add, Int32.toInt_sub, Int32.toInt_mul, bm32, Int32.reduceToInt, Int64.reduceToInt, Nat.reduceLT, Nat.reduceEqDiff, reduceIte, w_5m0_2, w_5m0_3, w_5m0_4, w_5m0_5, w_5m0_6, w_5m0_14, w_5m0_42] <;> omega)), ?_⟩
      exact ih (w_5l1 + 1) w_5m0 (upd w_5m1 ((462 + w_5l1) : Int32).toNatClampNeg (w_5m1 (((462 + w_5l1) + 42) : Int32).toNatClampNeg)) (⟨i_1, (WI_upd i_2 (by first | (refine OKv.out ?_; (first | omega | (simp (disch := omega) only [↓i_in, ↓i_isCouple, ↓i_isBridge, ↓i_isTheme, ↓i_isBarge, i_lt, i_le, i_eq, i_clamp, i_upd, i_m1, Int32.toInt_toInt64, Int32.toInt_add, Int32.toInt_sub, Int32.toInt_mul, bm32, Int32.reduceToInt, Int64.reduceToInt, Nat.reduceLT, Nat.reduceEqDiff, reduceIte, w_5m0_2, w_5m0_3, w_5m0_4, w_5m0_5, w_5m0_6, w_5m0_14, w_5m0_42] <;> omega))) | (refine OKv.same ?_ (i_2 _); (first | omega | (simp (disch := omega) only [↓i_in, ↓i_isCouple, ↓i_isBridge, ↓i_isTheme, ↓i_isBarge, i_lt, i_le, i_eq, i_clamp, i_upd, i_m1, Int32.toInt_toInt64, Int32.toInt_add, Int32.toInt_sub, Int32.toInt_mul, bm32, Int32.reduceToInt, Int64.reduceToInt, Nat.reduceLT, Nat.reduceEqDiff, reduceIte, w_5m0_2, w_5m0_3, w_5m0_4, w_5m0_5, w_5m0_6, w_5m0_14, w_5m0_42] <;> omega))))), (by first | omega | (simp (disch := omega) only [↓i_in, ↓i_isCouple, ↓i_isBridge, ↓i_isTheme, ↓i_isBarge, i_lt, i_le, i_eq, i_clamp, i_upd, i_m1, Int32.toInt_toInt64, Int32.toInt_add, Int32.toInt_sub, Int32.toInt_mul, bm32, Int32.reduceToInt, Int64.reduceToInt, Nat.reduceLT, Nat.reduceEqDiff, reduceIte, w_5m0_2, w_5m0_3, w_5m0_4, w_5m0_5, w_5m0_6, w_5m0_14, w_5m0_42] <;> omega)), (by first | omega | (simp (disch := omega) only [↓i_in, ↓i_isCouple, ↓i_isBridge, ↓i_isTheme, ↓i_isBarge, i_lt, i_le, i_eq, i_clamp, i_upd, i_m1, Int32.toInt_toInt64, Int32.toInt_add, Int32.toInt_sub, Int32.toInt_mul, bm32, Int32.reduceToInt, Int64.reduceToInt, Nat.reduceLT, Nat.reduceEqDiff, reduceIte, w_5m0_2, w_5m0_3, w_5m0_4, w_5m0_5, w_5m0_6, w_5m0_14, w_5m0_42] <;> omega))⟩)
theorem pl_minds_11 : ∀ (n : Nat) (l : Int32) (g w : Nat → Int32), WI w → 0 ≤ l.toInt → l.toInt ≤ 798 → WI (f_m_minds_11 n l g w).2.2 ∧ (f_m_minds_11 n l g w).2.1 = g := by
  intro n
  induction n with
  | zero => intro l g w h _ _; exact ⟨h, rfl⟩
  | succ n ih =>
    intro l g w h a b
    rw [f_m_minds_11_s]
    by_cases c : 798 ≤ l
    · rw [if_pos c]
      exact ⟨h, rfl⟩
    · rw [if_neg c]
      simp only [i_le, Int32.reduceToInt] at c
      refine ih _ _ _ (WI_upd h (OKv.same ?_ (h _))) ?_ ?_
      · simp (disch := omega) only [i_clamp, Int32.toInt_add, bm32, Int32.reduceToInt]
        omega
      · simp (disch := omega) only [Int32.toInt_add, bm32, Int32.reduceToInt]
        omega
      · simp (disch := omega) only [Int32.toInt_add, bm32, Int32.reduceToInt]
        omega
theorem p_minds {G f0 : Nat → Int32} (h_0 : GI G) (h_1 : WI f0) : ∀ (o1 o2 : Nat → Int32), f_m_minds G f0 = (o1, o2) → GI o1 ∧ WI o2 ∧ (∀ k, k ≠ 2 → o1 k = G k) := by
  intro o1 o2 e
  unfold f_m_minds at e
  have h0 := h_0
  obtain ⟨⟨a1, a2⟩, _⟩ := h0
  by_cases c : G 2 = 20
  · rw [if_pos c] at e
    generalize hx : f_m_minds_11 _ _ _ _ = x at e
    obtain ⟨p, q, r⟩ := x
    have h2 := pl_minds_11 (((798 : Int32).toInt - (0 : Int32).toInt).toNat + 1) 0 G f0 h_1 (by decide) (by decide)
    rw [hx] at h2
    obtain ⟨h3, h4⟩ := h2
    replace h4 : q = G := h4
    subst h4
    replace e : ((upd (upd q 2 ((q 2) - 1)) 2 (((upd q 2 ((q 2) - 1)) 2) + 1)), (f_m_copy r 0 (462 + (42 * ((q 2) - 1))))) = (o1, o2) := e
    rw [pk_us, c] at e
    cases e
    refine ⟨GI_u2 (GI_u2 h_0 (by decide) (by decide)) (by decide) (by decide), p_copy h3 (by decide) (by decide) (by decide) (by decide), fun k hk => ?_⟩
    rw [pk_un hk, pk_un hk]
  · rw [if_neg c] at e
    cases e
    have c2 : (G 2).toInt ≤ 19 := by
      simp only [i_eq, Int32.reduceToInt] at c
      omega
    refine ⟨GI_u2 h_0 ?_ ?_, p_copy h_1 (by decide) (by decide) ?_ ?_, fun k hk => pk_un hk⟩
    all_goals (simp (disch := omega) only [Int32.toInt_add, Int32.toInt_mul, bm32, Int32.reduceToInt]; omega)
set_option maxHeartbeats 4000000 in
theorem s_minds {G : Nat → Int32} {f0 : Nat → Int32} (h_0 : GI G) (h_1 : WI f0) : S_m_minds G f0 := by
  unfold S_m_minds
  have h_0_g := h_0
  obtain ⟨⟨h_0_2a, h_0_2b⟩, ⟨h_0_3a, h_0_3b⟩, ⟨h_0_4a, h_0_4b⟩, ⟨h_0_5a, h_0_5b⟩, ⟨h_0_6a, h_0_6b⟩, ⟨h_0_14a, h_0_14b⟩, ⟨h_0_42a, h_0_42b⟩⟩ := h_0_g
  refine ⟨fun c_1 => ?_, fun c_1 => ?_⟩
  · skip
    try simp (disch := omega) only [↓i_in, ↓i_isCouple, ↓i_isBridge, ↓i_isTheme, ↓i_isBarge, i_lt, i_le, i_eq, i_clamp, i_upd, i_m1, Int32.toInt_toInt64, Int32.toInt_add, Int32.toInt_sub, Int32.toInt_mul, bm32, Int32.reduceToInt, Int64.reduceToInt, Nat.reduceLT, Nat.reduceEqDiff, reduceIte] at c_1
    refine sl_minds_11 h_0 ?_ (((798 : Int32).toInt - (0 : Int32).toInt).toNat + 1) 0 G f0 (⟨(QG.refl _), h_1, (by first | omega | (simp (disch := omega) only [↓i_in, ↓i_isCouple, ↓i_isBridge, ↓i_isTheme, ↓i_isBarge, i_lt, i_le, i_eq, i_clamp, i_upd, i_m1, Int32.toInt_toInt64, Int32.toInt_add, Int32.toInt_sub, Int32.toInt_mul, bm32, Int32.reduceToInt, Int64.reduceToInt, Nat.reduceLT, Nat.reduceEqDiff, reduceIte] <;> omega)), (by first | omega | (simp (disch := omega) only [↓i_in, ↓i_isCouple, ↓i_isBridge, ↓i_isTheme, ↓i_isBarge, i_lt, i_le, i_eq, i_clamp, i_upd, i_m1, Int32.toInt_toInt64, Int32.toInt_add, Int32.toInt_sub, Int32.toInt_mul, bm32, Int32.reduceToInt, Int64.reduceToInt, Nat.reduceLT, Nat.reduceEqDiff, reduceIte] <;> omega))⟩)
    intro w_5l1 w_5m0 w_5m1 i_2
    obtain ⟨i_3, i_4, i_5, i_6⟩ := i_2
    obtain ⟨w_5m0_2, w_5m0_3, w_5m0_4, w_5m0_5, w_5m0_6, w_5m0_14, w_5m0_42⟩ := QGs i_3
    refine ⟨(s_copy (by first | omega | (simp (disch := omega) only [↓i_in, ↓i_isCouple, ↓i_isBridge, ↓i_isTheme, ↓i_isBarge, i_lt, i_le, i_eq, i_clamp, i_upd, i_m1, Int32.toInt_toInt64, Int32.toInt_add, Int32.toInt_sub, Int32.toInt_mul, bm32, Int32.reduceToInt, Int64.reduceToInt, Nat.reduceLT, Nat.reduceEqDiff, reduceIte, w_5m0_2, w_5m0_3, w_5m0_4, w_5m0_5, w_5m0_6, w_5m0_14, w_5m0_42] <;> omega)) (by first | omega | (simp (disch := omega) only [↓i_in, ↓i_isCouple, ↓i_isBridge, ↓i_isTheme, ↓i_isBarge, i_lt, i_le, i_eq, i_clamp, i_upd, i_m1, Int32.toInt_toInt64, Int32.toInt_add, Int32.toInt_sub, Int32.toInt_mul, bm32, Int32.reduceToInt, Int64.reduceToInt, Nat.reduceLT, Nat.reduceEqDiff, reduceIte, w_5m0_2, w_5m0_3, w_5m0_4, w_5m0_5, w_5m0_6, w_5m0_14, w_5m0_42] <;> omega)) (by first | omega | (simp (disch := omega) only [↓i_in, ↓i_isCouple, ↓i_isBridge, ↓i_isTheme, ↓i_isBarge, i_lt, i_le, i_eq, i_clamp, i_upd, i_m1, Int32.toInt_toInt64, Int32.toInt_add, Int32.toInt_sub, Int32.toInt_mul, bm32, Int32.reduceToInt, Int64.reduceToInt, Nat.reduceLT, Nat.reduceEqDiff, reduceIte, w_5m0_2, w_5m0_3, w_5m0_4, w_5m0_5, w_5m0_6, w_5m0_14, w_5m0_42] <;> omega)) (by first | omega | (simp (disch := omega) only [↓i_in, ↓i_isCouple, ↓i_isBridge, ↓i_isTheme, ↓i_isBarge, i_lt, i_le, i_eq, i_clamp, i_upd, i_m1, Int32.toInt_toInt64, Int32.toInt_add, Int32.toInt_sub, Int32.toInt_mul, bm32, Int32.reduceToInt, Int64.reduceToInt, Nat.reduceLT, Nat.reduceEqDiff, reduceIte, w_5m0_2, w_5m0_3, w_5m0_4, w_5m0_5, w_5m0_6, w_5m0_14, w_5m0_42] <;> omega))), ?_⟩
    exact trivial
  · skip
    try simp (disch := omega) only [↓i_in, ↓i_isCouple, ↓i_isBridge, ↓i_isTheme, ↓i_isBarge, i_lt, i_le, i_eq, i_clamp, i_upd, i_m1, Int32.toInt_toInt64, Int32.toInt_add, Int32.toInt_sub, Int32.toInt_mul, bm32, Int32.reduceToInt, Int64.reduceToInt, Nat.reduceLT, Nat.reduceEqDiff, reduceIte] at c_1
    refine ⟨(s_copy (by first | omega | (simp (disch := omega) only [↓i_in, ↓i_isCouple, ↓i_isBridge, ↓i_isTheme, ↓i_isBarge, i_lt, i_le, i_eq, i_clamp, i_upd, i_m1, Int32.toInt_toInt64, Int32.toInt_add, Int32.toInt_sub, Int32.toInt_mul, bm32, Int32.reduceToInt, Int64.reduceToInt, Nat.reduceLT, Nat.reduceEqDiff, reduceIte] <;> omega)) (by first | omega | (simp (disch := omega) only [↓i_in, ↓i_isCouple, ↓i_isBridge, ↓i_isTheme, ↓i_isBarge, i_lt, i_le, i_eq, i_clamp, i_upd, i_m1, Int32.toInt_toInt64, Int32.toInt_add, Int32.toInt_sub, Int32.toInt_mul, bm32, Int32.reduceToInt, Int64.reduceToInt, Nat.reduceLT, Nat.reduceEqDiff, reduceIte] <;> omega)) (by first | omega | (simp (disch := omega) only [↓i_in, ↓i_isCouple, ↓i_isBridge, ↓i_isTheme, ↓i_isBarge, i_lt, i_le, i_eq, i_clamp, i_upd, i_m1, Int32.toInt_toInt64, Int32.toInt_add, Int32.toInt_sub, Int32.toInt_mul, bm32, Int32.reduceToInt, Int64.reduceToInt, Nat.reduceLT, Nat.reduceEqDiff, reduceIte] <;> omega)) (by first | omega | (simp (disch := omega) only [↓i_in, ↓i_isCouple, ↓i_isBridge, ↓i_isTheme, ↓i_isBarge, i_lt, i_le, i_eq, i_clamp, i_upd, i_m1, Int32.toInt_toInt64, Int32.toInt_add, Int32.toInt_sub, Int32.toInt_mul, bm32, Int32.reduceToInt, Int64.reduceToInt, Nat.reduceLT, Nat.reduceEqDiff, reduceIte] <;> omega))), ?_⟩
    exact trivial
