/-! the class's reader and the reference's, side by side: letters, blanks, numbers, signs -/
theorem rl_tw {f : Nat → Int32} {i : Nat} {x y : Int32} : upd (upd f i x) i y = upd f i y := by
  funext j
  by_cases c : j = i
  · subst c
    rw [pk_us, pk_us]
  · rw [pk_un c, pk_un c, pk_un c]
theorem rl_self {f : Nat → Int32} {i : Nat} : upd f i (f i) = f := by
  funext j
  by_cases c : j = i
  · subst c
    rw [pk_us]
  · rw [pk_un c]
theorem rl_sw {f : Nat → Int32} {i j : Nat} {x y : Int32} (h : i ≠ j) : upd (upd f i x) j y = upd (upd f j y) i x := by
  funext k
  by_cases c : k = i
  · subst c
    rw [pk_un h, pk_us, pk_us]
  · by_cases d : k = j
    · subst d
      rw [pk_us, pk_un c, pk_us]
    · rw [pk_un d, pk_un c, pk_un c, pk_un d]
theorem i_add {a b : Int32} (h1 : -2147483648 ≤ a.toInt + b.toInt) (h2 : a.toInt + b.toInt < 2147483648) : (a + b).toInt = a.toInt + b.toInt := by
  rw [Int32.toInt_add, bm32 h1 h2]
theorem i_sub {a b : Int32} (h1 : -2147483648 ≤ a.toInt - b.toInt) (h2 : a.toInt - b.toInt < 2147483648) : (a - b).toInt = a.toInt - b.toInt := by
  rw [Int32.toInt_sub, bm32 h1 h2]
theorem i_mul {a b : Int32} (h1 : -2147483648 ≤ a.toInt * b.toInt) (h2 : a.toInt * b.toInt < 2147483648) : (a * b).toInt = a.toInt * b.toInt := by
  rw [Int32.toInt_mul, bm32 h1 h2]
theorem i_1 : (1 : Int32).toInt = 1 := rfl
theorem i_0 : (0 : Int32).toInt = 0 := rfl
theorem i_a1 {a : Int32} (h0 : -2147483648 ≤ a.toInt) (h : a.toInt < 2147483647) : (a + 1).toInt = a.toInt + 1 := by
  rw [i_add (by rw [i_1]; omega) (by rw [i_1]; omega), i_1]
def ltr (L : Int32) (f : Nat → Int32) (k : Int32) : Int32 := if L ≤ k then -1 else f k.toNatClampNeg
theorem ltr_m (G f : Nat → Int32) (k : Int32) : f_m_letterAt G f k = ltr (G 14) f k := rfl
theorem ltr_e {L k : Int32} {f : Nat → Int32} (r0 r1 r5 r6 : Int32) (h0 : 0 ≤ k.toInt) (hL : L.toInt ≤ 240) : f_e_letter_x5 r0 r1 L k r5 r6 f = ltr L f k := by
  unfold f_e_letter_x5 ltr
  have c0 : ¬ k < 0 := by
    rw [i_lt, i_0]
    omega
  rw [if_neg c0]
  by_cases c : L ≤ k
  · rw [if_pos c, if_pos c]
  · have c1 : ¬ 240 ≤ k := by
      rw [i_le] at c ⊢
      simp only [Int32.reduceToInt]
      omega
    rw [if_neg c, if_neg c, if_neg c1]
theorem ltr_lt {L k c : Int32} {f : Nat → Int32} (h : ltr L f k = c) (hc : c ≠ -1) : k.toInt < L.toInt := by
  by_cases q : L ≤ k
  · unfold ltr at h
    rw [if_pos q] at h
    exact absurd h.symm hc
  · rw [i_le] at q
    omega
theorem here_loop {f : Nat → Int32} {L : Int32} (hL : L.toInt ≤ 240) : ∀ (n m : Nat) (i : Int32) (G : Nat → Int32), G 14 = L → 0 ≤ i.toInt → i.toInt ≤ (G 15).toInt → (G 15).toInt ≤ L.toInt → L.toInt - (G 15).toInt < n → 240 - i.toInt < m → ∃ k j : Int32, (G 15).toInt ≤ k.toInt ∧ k.toInt ≤ L.toInt ∧ ltr L f k ≠ 32 ∧ f_m_here_0 f n G = upd G 15 k ∧ ∀ r0 r1 r4 r5 r6, f_e_next_x5_2 r0 r1 L r4 r5 r6 f m i (G 15) = (j, k) := by
  intro n
  induction n with
  | zero => intro m i G hG h0 h1 h2 h3; omega
  | succ n ih =>
    intro m i G hG h0 h1 h2 h3 h4
    cases m with
    | zero => omega
    | succ m =>
      by_cases c : ltr L f (G 15) = 32
      · have hlt := ltr_lt c (by decide)
        have e1 := i_a1 (a := G 15) (by omega) (by omega)
        have e2 := i_a1 (a := i) (by omega) (by omega)
        have c1 : ¬ 240 ≤ i := by
          rw [i_le]
          simp only [Int32.reduceToInt]
          omega
        obtain ⟨k, j, a1, a2, a3, a4, a5⟩ := ih m (i + 1) (upd G 15 (G 15 + 1)) (by rw [pk_un (by decide)]; exact hG) (by omega) (by rw [pk_us]; omega) (by rw [pk_us]; omega) (by rw [pk_us]; omega) (by omega)
        rw [pk_us] at a1
        refine ⟨k, j, by omega, a2, a3, ?_, fun r0 r1 r4 r5 r6 => ?_⟩
        · rw [f_m_here_0_s, ltr_m, hG, if_pos c, a4, rl_tw]
        · have := a5 r0 r1 r4 r5 r6
          rw [pk_us] at this
          rw [f_e_next_x5_2_s, if_neg c1, ltr_e _ _ _ _ (by omega) hL, if_pos c, this]
      · refine ⟨G 15, i, by omega, h2, c, ?_, fun r0 r1 r4 r5 r6 => ?_⟩
        · rw [f_m_here_0_s, ltr_m, hG, if_neg c, rl_self]
        · rw [f_e_next_x5_2_s]
          by_cases q : 240 ≤ i
          · rw [if_pos q]
          · rw [if_neg q, ltr_e _ _ _ _ (by omega) hL, if_neg c]
theorem here_spec {G f : Nat → Int32} (h0 : 0 ≤ (G 15).toInt) (h1 : (G 15).toInt ≤ (G 14).toInt) (h2 : (G 14).toInt ≤ 240) : ∃ k : Int32, (G 15).toInt ≤ k.toInt ∧ k.toInt ≤ (G 14).toInt ∧ ltr (G 14) f k ≠ 32 ∧ f_m_here G f = (ltr (G 14) f k, upd (upd G 15 k) 16 k) ∧ ∀ r0 r1 r5 r6, f_e_next_x5 r0 r1 (G 14) (G 15) r5 r6 f = (ltr (G 14) f k, k) := by
  obtain ⟨k, j, a1, a2, a3, a4, a5⟩ := here_loop (f := f) h2 300 241 0 G rfl (by decide) (by rw [i_0]; exact h0) h1 (by omega) (by rw [i_0]; omega)
  refine ⟨k, a1, a2, a3, ?_, fun r0 r1 r5 r6 => ?_⟩
  · unfold f_m_here
    rw [a4]
    dsimp only
    rw [pk_us, ltr_m, pk_un (by decide), pk_un (by decide)]
  · unfold f_e_next_x5
    have e : ((240 : Int32).toInt - (0 : Int32).toInt).toNat + 1 = 241 := rfl
    rw [e, a5]
    dsimp only
    rw [ltr_e _ _ _ _ (by omega) h2]
/-- blanks that have been passed are passed -/
theorem here_again {G f : Nat → Int32} {k : Int32} (h0 : 0 ≤ k.toInt) (h2 : (G 14).toInt ≤ 240) (hk : ltr (G 14) f k ≠ 32) (hG : G 15 = k) : f_m_here G f = (ltr (G 14) f k, upd G 16 k) ∧ ∀ r0 r1 r5 r6, f_e_next_x5 r0 r1 (G 14) k r5 r6 f = (ltr (G 14) f k, k) := by
  refine ⟨?_, fun r0 r1 r5 r6 => ?_⟩
  · unfold f_m_here
    rw [f_m_here_0_s, ltr_m, hG, if_neg hk]
    dsimp only
    rw [ltr_m, pk_un (by decide), hG]
  · unfold f_e_next_x5
    have e : ((240 : Int32).toInt - (0 : Int32).toInt).toNat + 1 = 240 + 1 := rfl
    rw [e, f_e_next_x5_2_s, if_neg (by decide), ltr_e _ _ _ _ h0 h2, if_neg hk]
    dsimp only
    rw [ltr_e _ _ _ _ h0 h2]
theorem fig_m (c : Int32) : f_m_in c.toInt64 48 57 = 0 ↔ ¬ (48 ≤ c.toInt ∧ c.toInt ≤ 57) := by
  rw [i_in, Int32.toInt_toInt64]
  exact Iff.rfl
theorem fig_e (r0 r1 r3 r4 r5 r6 c : Int32) : f_e_isFigure_x5 r0 r1 r3 r4 r5 r6 c = 0 ↔ ¬ (48 ≤ c.toInt ∧ c.toInt ≤ 57) := by
  unfold f_e_isFigure_x5
  by_cases c1 : c < 48
  · rw [if_pos c1]
    simp only [i_lt, Int32.reduceToInt] at c1
    exact ⟨fun _ => by omega, fun _ => rfl⟩
  · rw [if_neg c1]
    simp only [i_lt, Int32.reduceToInt] at c1
    by_cases c2 : 57 < c
    · rw [if_pos c2]
      simp only [i_lt, Int32.reduceToInt] at c2
      exact ⟨fun _ => by omega, fun _ => rfl⟩
    · rw [if_neg c2]
      simp only [i_lt, Int32.reduceToInt] at c2
      exact ⟨fun q => absurd q (by decide), fun q => absurd ⟨by omega, by omega⟩ q⟩
theorem rl_4 {f : Nat → Int32} {x y p v : Int32} : upd (upd (upd (upd f 17 x) 15 y) 17 v) 15 p = upd (upd f 17 v) 15 p := by
  funext j
  by_cases h : j = 15
  · subst h
    rw [pk_us, pk_us]
  · rw [pk_un h, pk_un h]
    by_cases h2 : j = 17
    · subst h2
      rw [pk_us, pk_us]
    · rw [pk_un h2, pk_un h, pk_un h2, pk_un h2]
theorem num_loop {f : Nat → Int32} {L : Int32} (hL : L.toInt ≤ 240) : ∀ (n m : Nat) (i : Int32) (G : Nat → Int32), G 14 = L → 0 ≤ i.toInt → 0 ≤ (G 16).toInt → (G 15).toInt = (G 16).toInt + i.toInt → (G 15).toInt ≤ L.toInt → L.toInt - (G 15).toInt < n → 240 - i.toInt < m → ∃ p v j : Int32, (G 15).toInt ≤ p.toInt ∧ p.toInt ≤ L.toInt ∧ f_m_takesNumber_32 f n G = upd (upd G 17 v) 15 p ∧ (48 ≤ (ltr L f (G 15)).toInt ∧ (ltr L f (G 15)).toInt ≤ 57 → (G 15).toInt < p.toInt) ∧ ∀ r0 r1 r4 r5 r6 lo hi a b, f_e_number_x5_42 r0 r1 L r4 r5 r6 f lo hi m i (G 17) a b (G 15) = (j, v, a, b, p) := by
  intro n
  induction n with
  | zero => intro m i G hG h0 h1 h2 h3 h4; omega
  | succ n ih =>
    intro m i G hG h0 h1 h2 h3 h4 h5
    cases m with
    | zero => omega
    | succ m =>
      by_cases c : 48 ≤ (ltr L f (G 15)).toInt ∧ (ltr L f (G 15)).toInt ≤ 57
      · have hlt := ltr_lt (L := L) (f := f) (k := G 15) rfl (by intro q; rw [q, i_m1] at c; omega)
        have e1 := i_a1 (a := G 15) (by omega) (by omega)
        have e2 := i_a1 (a := i) (by omega) (by omega)
        have e3 := i_sub (a := G 15) (b := G 16) (by omega) (by omega)
        have c1 : ¬ 240 ≤ i := by
          rw [i_le]
          simp only [Int32.reduceToInt]
          omega
        have c2 : ¬ f_m_in (f_m_letterAt G f (G 15)).toInt64 48 57 = 0 := by
          rw [fig_m, ltr_m, hG]
          exact fun q => q c
        have c3 : ∀ r0 r1 r5 r6, ¬ f_e_isFigure_x5 r0 r1 L (G 15) r5 r6 (f_e_letter_x5 r0 r1 L (G 15) r5 r6 f) = 0 := by
          intro r0 r1 r5 r6
          rw [fig_e, ltr_e _ _ _ _ (by omega) hL]
          exact fun q => q c
        have key : ∀ v1 : Int32, ∃ p v j : Int32, (G 15).toInt + 1 ≤ p.toInt ∧ p.toInt ≤ L.toInt ∧ f_m_takesNumber_32 f n (upd (upd G 17 v1) 15 (G 15 + 1)) = upd (upd G 17 v) 15 p ∧ ∀ r0 r1 r4 r5 r6 lo hi a b, f_e_number_x5_42 r0 r1 L r4 r5 r6 f lo hi m (i + 1) v1 a b (G 15 + 1) = (j, v, a, b, p) := by
          intro v1
          obtain ⟨p, v, j, a1, a2, a3, _, a4⟩ := ih m (i + 1) (upd (upd G 17 v1) 15 (G 15 + 1)) (by rw [pk_un (by decide), pk_un (by decide)]; exact hG) (by omega) (by rw [pk_un (by decide), pk_un (by decide)]; exact h1) (by rw [pk_us, pk_un (by decide), pk_un (by decide)]; omega) (by rw [pk_us]; omega) (by rw [pk_us]; omega) (by omega)
          rw [pk_us] at a1
          refine ⟨p, v, j, by omega, a2, ?_, fun r0 r1 r4 r5 r6 lo hi a b => ?_⟩
          · rw [a3, rl_4]
          · have := a4 r0 r1 r4 r5 r6 lo hi a b
            rw [pk_us, pk_un (by decide), pk_us] at this
            exact this
        by_cases c4 : 3 ≤ i
        · have c5 : 3 ≤ G 15 - G 16 := by
            simp only [i_le, Int32.reduceToInt] at c4 ⊢
            omega
          obtain ⟨p, v, j, a1, a2, a3, a4⟩ := key (G 17)
          refine ⟨p, v, j, by omega, a2, ?_, fun _ => by omega, fun r0 r1 r4 r5 r6 lo hi a b => ?_⟩
          · rw [f_m_takesNumber_32_s, if_neg c2, if_pos c5, a3]
          · rw [f_e_number_x5_42_s, if_neg c1, if_neg (c3 _ _ _ _), if_pos c4, a4]
        · have c5 : ¬ 3 ≤ G 15 - G 16 := by
            simp only [i_le, Int32.reduceToInt] at c4 ⊢
            omega
          obtain ⟨p, v, j, a1, a2, a3, a4⟩ := key (10 * G 17 + ltr L f (G 15) - 48)
          refine ⟨p, v, j, by omega, a2, ?_, fun _ => by omega, fun r0 r1 r4 r5 r6 lo hi a b => ?_⟩
          · rw [f_m_takesNumber_32_s, if_neg c2, if_neg c5, ltr_m, hG, a3]
          · rw [f_e_number_x5_42_s, if_neg c1, if_neg (c3 _ _ _ _), if_neg c4, ltr_e _ _ _ _ (by omega) hL, Int32.mul_comm, a4]
      · refine ⟨G 15, G 17, i, by omega, h3, ?_, fun q => absurd q c, fun r0 r1 r4 r5 r6 lo hi a b => ?_⟩
        · have c2 : f_m_in (f_m_letterAt G f (G 15)).toInt64 48 57 = 0 := by
            rw [fig_m, ltr_m, hG]
            exact c
          rw [f_m_takesNumber_32_s, if_pos c2, rl_self, rl_self]
        · rw [f_e_number_x5_42_s]
          by_cases q : 240 ≤ i
          · rw [if_pos q]
          · have c3 : f_e_isFigure_x5 a b L (G 15) r5 r6 (f_e_letter_x5 a b L (G 15) r5 r6 f) = 0 := by
              rw [fig_e, ltr_e _ _ _ _ (by omega) hL]
              exact c
            rw [if_neg q, if_pos c3]
/-- where the reader stands, and no fault so far -/
def PS (G : Nat → Int32) : Prop := 0 ≤ (G 15).toInt ∧ (G 15).toInt ≤ (G 14).toInt ∧ (G 14).toInt ≤ 240 ∧ G 18 = 0
/-- but for at, start, number, faulty, faultAt -/
def PQ (G H : Nat → Int32) : Prop := ∀ j, j < 15 ∨ 20 ≤ j → H j = G j
theorem PQ.trans {A B C : Nat → Int32} (h : PQ A B) (q : PQ B C) : PQ A C := fun j hj => (q j hj).trans (h j hj)
theorem PQ.refl (A : Nat → Int32) : PQ A A := fun _ _ => rfl
theorem PQ_upd {A B : Nat → Int32} {k : Nat} {x : Int32} (h : PQ A B) (h1 : 15 ≤ k) (h2 : k < 20) : PQ A (upd B k x) := fun j hj => (pk_un (by omega)).trans (h j hj)
theorem number_eq {G f : Nat → Int32} {lo hi : Int32} (hp : PS G) : ∃ (r v a b p : Int32) (H : Nat → Int32), f_m_takesNumber G f lo hi = (r, H) ∧ (∀ r5 r6, f_e_number_x5 0 (G 19) (G 14) (G 15) r5 r6 f lo hi = (v, a, b, p)) ∧ PQ G H ∧ a = H 18 ∧ b = H 19 ∧ ((r = 1 ∧ a = 0 ∧ b = G 19 ∧ p = H 15 ∧ v = H 17 ∧ lo.toInt ≤ v.toInt ∧ v.toInt ≤ hi.toInt ∧ (G 15).toInt < p.toInt ∧ p.toInt ≤ (G 14).toInt) ∨ (r = 0 ∧ a ≠ 0)) := by
  obtain ⟨h0, h1, h2, h3⟩ := hp
  obtain ⟨k, k0, k1, k2, km, ke⟩ := here_spec (f := f) h0 h1 h2
  have q2 : PQ G (upd (upd G 15 k) 16 k) := PQ_upd (PQ_upd (PQ.refl G) (by decide) (by decide)) (by decide) (by decide)
  by_cases c : 48 ≤ (ltr (G 14) f k).toInt ∧ (ltr (G 14) f k).toInt ≤ 57
  · obtain ⟨p, v, j, a1, a2, a3, a4, a5⟩ := num_loop (f := f) h2 300 241 0 (upd (upd (upd G 15 k) 16 k) 17 0) rfl (by decide) (by rw [pk_un (by decide), pk_us]; omega) (by rw [pk_un (by decide), pk_un (by decide), pk_us, pk_un (by decide), pk_us, i_0]; omega) (by rw [pk_un (by decide), pk_un (by decide), pk_us]; exact k1) (by rw [pk_un (by decide), pk_un (by decide), pk_us]; omega) (by rw [i_0]; omega)
    have e15 : (upd (upd (upd G 15 k) 16 k) 17 0) 15 = k := by rw [pk_un (by decide), pk_un (by decide), pk_us]
    rw [e15] at a1 a4
    have a6 : ∀ r5 r6 a b, f_e_number_x5_42 0 (G 19) (G 14) (G 15) r5 r6 f lo hi 241 0 0 a b k = (j, v, a, b, p) := by
      intro r5 r6 a b
      have := a5 0 (G 19) (G 15) r5 r6 lo hi a b
      rw [e15, pk_us] at this
      exact this
    have hp := a4 c
    have n1 : ¬ f_m_in (ltr (G 14) f k).toInt64 48 57 = 0 := by
      rw [fig_m]
      exact fun q => q c
    have n2 : ∀ r5 r6, ¬ f_e_isFigure_x5 0 (G 19) (G 14) k r5 r6 (ltr (G 14) f k) = 0 := by
      intro r5 r6
      rw [fig_e]
      exact fun q => q c
    have e16 : (upd (upd (upd (upd (upd G 15 k) 16 k) 17 0) 17 v) 15 p) 16 = k := by rw [pk_un (by decide), pk_un (by decide), pk_un (by decide), pk_us]
    have e17 : (upd (upd (upd (upd (upd G 15 k) 16 k) 17 0) 17 v) 15 p) 17 = v := by rw [pk_un (by decide), pk_us]
    have es := i_sub (a := p) (b := k) (by omega) (by omega)
    have q5 : PQ G (upd (upd (upd (upd (upd G 15 k) 16 k) 17 0) 17 v) 15 p) := PQ_upd (PQ_upd (PQ_upd q2 (by decide) (by decide)) (by decide) (by decide)) (by decide) (by decide)
    have hm : f_m_takesNumber G f lo hi = (if 4 ≤ p - k then (0, upd (upd (upd (upd (upd (upd (upd G 15 k) 16 k) 17 0) 17 v) 15 p) 18 2) 19 k) else if f_m_in v.toInt64 lo.toInt64 hi.toInt64 = 0 then (0, upd (upd (upd (upd (upd (upd (upd G 15 k) 16 k) 17 0) 17 v) 15 p) 18 2) 19 k) else (1, upd (upd (upd (upd (upd G 15 k) 16 k) 17 0) 17 v) 15 p)) := by
      unfold f_m_takesNumber
      rw [km]
      dsimp only
      rw [if_neg n1, a3]
      try dsimp only
      rw [pk_us, e16, e17]
      unfold f_m_fails
      dsimp only
      rw [if_pos rfl]
    have he : ∀ r5 r6, f_e_number_x5 0 (G 19) (G 14) (G 15) r5 r6 f lo hi = (if 3 < p - k then (lo, 2, k, p) else if v < lo then (lo, 2, k, p) else if v ≤ hi then (v, 0, G 19, p) else (lo, 2, k, p)) := by
      intro r5 r6
      unfold f_e_number_x5
      have e : ((240 : Int32).toInt - (0 : Int32).toInt).toNat + 1 = 241 := rfl
      rw [if_pos rfl, ke]
      dsimp only
      rw [if_neg (n2 _ _), e, a6]
      rfl
    have bad : ∃ (r v' a b p' : Int32) (H : Nat → Int32), ((0 : Int32), upd (upd (upd (upd (upd (upd (upd G 15 k) 16 k) 17 0) 17 v) 15 p) 18 2) 19 k) = (r, H) ∧ (lo, (2 : Int32), k, p) = (v', a, b, p') ∧ PQ G H ∧ a = H 18 ∧ b = H 19 ∧ ((r = 1 ∧ a = 0 ∧ b = G 19 ∧ p' = H 15 ∧ v' = H 17 ∧ lo.toInt ≤ v'.toInt ∧ v'.toInt ≤ hi.toInt ∧ (G 15).toInt < p'.toInt ∧ p'.toInt ≤ (G 14).toInt) ∨ (r = 0 ∧ a ≠ 0)) :=
      ⟨0, lo, 2, k, p, _, rfl, rfl, PQ_upd (PQ_upd q5 (by decide) (by decide)) (by decide) (by decide), by rw [pk_un (by decide), pk_us], by rw [pk_us], Or.inr ⟨rfl, by decide⟩⟩
    by_cases c4 : 4 ≤ p - k
    · have c5 : 3 < p - k := by
        simp only [i_le, i_lt, Int32.reduceToInt] at c4 ⊢
        omega
      obtain ⟨r, v', a, b, p', H, b1, b2, b3⟩ := bad
      refine ⟨r, v', a, b, p', H, ?_, fun r5 r6 => ?_, b3⟩
      · rw [hm, if_pos c4, b1]
      · rw [he, if_pos c5, b2]
    · have c5 : ¬ 3 < p - k := by
        simp only [i_le, i_lt, Int32.reduceToInt] at c4 ⊢
        omega
      have ein : f_m_in v.toInt64 lo.toInt64 hi.toInt64 = 0 ↔ ¬ (lo.toInt ≤ v.toInt ∧ v.toInt ≤ hi.toInt) := by
        rw [i_in, Int32.toInt_toInt64, Int32.toInt_toInt64, Int32.toInt_toInt64]
      by_cases c6 : lo.toInt ≤ v.toInt ∧ v.toInt ≤ hi.toInt
      · refine ⟨1, v, 0, G 19, p, upd (upd (upd (upd (upd G 15 k) 16 k) 17 0) 17 v) 15 p, ?_, fun r5 r6 => ?_, q5, ?_, ?_, Or.inl ⟨rfl, rfl, rfl, ?_, ?_, c6.1, c6.2, by omega, a2⟩⟩
        · rw [hm, if_neg c4, if_neg (fun q => ein.mp q c6)]
        · rw [he, if_neg c5, if_neg (by rw [i_lt]; omega), if_pos (by rw [i_le]; omega)]
        · rw [pk_un (by decide), pk_un (by decide), pk_un (by decide), pk_un (by decide), pk_un (by decide), h3]
        · rw [pk_un (by decide), pk_un (by decide), pk_un (by decide), pk_un (by decide), pk_un (by decide)]
        · rw [pk_us]
        · rw [e17]
      · obtain ⟨r, v', a, b, p', H, b1, b2, b3⟩ := bad
        refine ⟨r, v', a, b, p', H, ?_, fun r5 r6 => ?_, b3⟩
        · rw [hm, if_neg c4, if_pos (ein.mpr c6), b1]
        · rw [he, if_neg c5]
          by_cases c7 : v < lo
          · rw [if_pos c7, b2]
          · have c8 : ¬ v ≤ hi := by
              rw [i_lt] at c7
              rw [i_le]
              omega
            rw [if_neg c7, if_neg c8, b2]
  · refine ⟨0, lo, 1, k, k, upd (upd (upd (upd G 15 k) 16 k) 18 1) 19 k, ?_, fun r5 r6 => ?_, PQ_upd (PQ_upd q2 (by decide) (by decide)) (by decide) (by decide), ?_, ?_, Or.inr ⟨rfl, by decide⟩⟩
    · have n1 : f_m_in (ltr (G 14) f k).toInt64 48 57 = 0 := by
        rw [fig_m]
        exact c
      unfold f_m_takesNumber
      rw [km]
      dsimp only
      rw [if_pos n1, pk_us]
      rfl
    · have n2 : f_e_isFigure_x5 0 (G 19) (G 14) k r5 r6 (ltr (G 14) f k) = 0 := by
        rw [fig_e]
        exact c
      unfold f_e_number_x5
      rw [if_pos rfl, ke]
      dsimp only
      rw [if_pos n2]
      rfl
    · rw [pk_un (by decide), pk_us]
    · rw [pk_us]
theorem number_off {r0 r1 r3 r4 r5 r6 lo hi : Int32} {f : Nat → Int32} (h : r0 ≠ 0) : f_e_number_x5 r0 r1 r3 r4 r5 r6 f lo hi = (lo, r0, r1, r4) := by
  unfold f_e_number_x5
  rw [if_neg h]
theorem expect_off {r0 r1 r3 r4 r5 r6 c : Int32} {f : Nat → Int32} (h : r0 ≠ 0) : f_e_expect_x5 r0 r1 r3 r4 r5 r6 f c = (r0, r1, r4) := by
  unfold f_e_expect_x5
  rw [if_neg h]
/-- a sign that must stand there: place is where the class stands, at where the reference stands: blanks alone may lie between -/
theorem expect_eq {G f : Nat → Int32} {c p : Int32} (hp : PS G) (hc : c ≠ -1) (hq : p = G 15 ∨ ∃ k, (∀ r0 r1 r5 r6, f_e_next_x5 r0 r1 (G 14) p r5 r6 f = (ltr (G 14) f k, k)) ∧ G 15 = k ∧ ltr (G 14) f k ≠ 32) : ∃ (r a b z : Int32) (H : Nat → Int32), f_m_takes G f c = (r, H) ∧ (∀ r5 r6, f_e_expect_x5 0 (G 19) (G 14) p r5 r6 f c = (a, b, z)) ∧ PQ G H ∧ a = H 18 ∧ b = H 19 ∧ ((r = 1 ∧ a = 0 ∧ b = G 19 ∧ z = H 15 ∧ (G 15).toInt < z.toInt ∧ z.toInt ≤ (G 14).toInt) ∨ (r = 0 ∧ a ≠ 0)) := by
  obtain ⟨h0, h1, h2, h3⟩ := hp
  have key : ∃ k : Int32, (G 15).toInt ≤ k.toInt ∧ k.toInt ≤ (G 14).toInt ∧ f_m_here G f = (ltr (G 14) f k, upd (upd G 15 k) 16 k) ∧ ∀ r0 r1 r5 r6, f_e_next_x5 r0 r1 (G 14) p r5 r6 f = (ltr (G 14) f k, k) := by
    rcases hq with rfl | ⟨k, ke, kg, kn⟩
    · obtain ⟨k, k0, k1, k2, km, ke⟩ := here_spec (f := f) h0 h1 h2
      exact ⟨k, k0, k1, km, ke⟩
    · refine ⟨k, by rw [kg]; exact Int.le_refl _, by rw [← kg]; exact h1, ?_, ke⟩
      rw [(here_again (by rw [← kg]; exact h0) h2 kn kg).1, ← kg, rl_self]
  obtain ⟨k, k0, k1, km, ke⟩ := key
  have q2 : PQ G (upd (upd G 15 k) 16 k) := PQ_upd (PQ_upd (PQ.refl G) (by decide) (by decide)) (by decide) (by decide)
  by_cases d : ltr (G 14) f k = c
  · have hlt := ltr_lt d hc
    have e1 := i_a1 (a := k) (by omega) (by omega)
    refine ⟨1, 0, G 19, k + 1, upd (upd (upd G 15 k) 16 k) 15 (k + 1), ?_, fun r5 r6 => ?_, PQ_upd q2 (by decide) (by decide), ?_, ?_, Or.inl ⟨rfl, rfl, rfl, ?_, by omega, by omega⟩⟩
    · unfold f_m_takes
      rw [km]
      dsimp only
      rw [if_pos d, pk_un (by decide), pk_us]
    · unfold f_e_expect_x5
      rw [if_pos rfl, ke]
      dsimp only
      rw [if_pos d]
    · rw [pk_un (by decide), pk_un (by decide), pk_un (by decide), h3]
    · rw [pk_un (by decide), pk_un (by decide), pk_un (by decide)]
    · rw [pk_us]
  · refine ⟨0, 1, k, k, upd (upd (upd (upd G 15 k) 16 k) 18 1) 19 k, ?_, fun r5 r6 => ?_, PQ_upd (PQ_upd q2 (by decide) (by decide)) (by decide) (by decide), ?_, ?_, Or.inr ⟨rfl, by decide⟩⟩
    · unfold f_m_takes
      rw [km]
      dsimp only
      rw [if_neg d, pk_us]
      rfl
    · unfold f_e_expect_x5
      rw [if_pos rfl, ke]
      dsimp only
      rw [if_neg d]
      rfl
    · rw [pk_un (by decide), pk_us]
    · rw [pk_us]
