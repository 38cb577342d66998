section
/-! the class's reader and the reference's, side by side: letters, blanks, numbers, signs -/
theorem rl_tw {f : Nat → Int32} {i : Nat} {x y : Int32} : upd (upd f i x) i y = upd f i y := by
  funext j
  by_cases c : j = i
  · subst c
    rw [pk_us, pk_us]
  · rw [pk_un c, pk_un c, pk_un c]
theorem rl_self {f : Nat → Int32} {i : Nat} : upd f i (f i) = f := by
  funext j
  by_cases c : j = i
  · subst c
    rw [pk_us]
  · rw [pk_un c]
theorem rl_sw {f : Nat → Int32} {i j : Nat} {x y : Int32} (h : i ≠ j) : upd (upd f i x) j y = upd (upd f j y) i x := by
  funext k
  by_cases c : k = i
  · subst c
    rw [pk_un h, pk_us, pk_us]
  · by_cases d : k = j
    · subst d
      rw [pk_us, pk_un c, pk_us]
    · rw [pk_un d, pk_un c, pk_un c, pk_un d]
theorem i_add {a b : Int32} (h1 : -2147483648 ≤ a.toInt + b.toInt) (h2 : a.toInt + b.toInt < 2147483648) : (a + b).toInt = a.toInt + b.toInt := by
  rw [Int32.toInt_add, bm32 h1 h2]
theorem i_sub {a b : Int32} (h1 : -2147483648 ≤ a.toInt - b.toInt) (h2 : a.toInt - b.toInt < 2147483648) : (a - b).toInt = a.toInt - b.toInt := by
  rw [Int32.toInt_sub, bm32 h1 h2]
theorem i_mul {a b : Int32} (h1 : -2147483648 ≤ a.toInt * b.toInt) (h2 : a.toInt * b.toInt < 2147483648) : (a * b).toInt = a.toInt * b.toInt := by
  rw [Int32.toInt_mul, bm32 h1 h2]
theorem i_1 : (1 : Int32).toInt = 1 := rfl
theorem i_0 : (0 : Int32).toInt = 0 := rfl
theorem i_a1 {a : Int32} (h0 : -2147483648 ≤ a.toInt) (h : a.toInt < 2147483647) : (a + 1).toInt = a.toInt + 1 := by
  rw [i_add (by rw [i_1]; omega) (by rw [i_1]; omega), i_1]
def ltr (L : Int32) (f : Nat → Int32) (k : Int32) : Int32 := if L ≤ k then -1 else f k.toNatClampNeg
theorem ltr_m (G f : Nat → Int32) (k : Int32) : f_m_letterAt G f k = ltr (G 14) f k := rfl
theorem ltr_e {L k : Int32} {f : Nat → Int32} (r0 r1 r5 r6 : Int32) (h0 : 0 ≤ k.toInt) (hL : L.toInt ≤ 240) : f_e_letter_x5 r0 r1 L k r5 r6 f = ltr L f k := by
  unfold f_e_letter_x5 ltr
  have c0 : ¬ k < 0 := by
    rw [i_lt, i_0]
    omega
  rw [if_neg c0]
  by_cases c : L ≤ k
  · rw [if_pos c, if_pos c]
  · have c1 : ¬ 240 ≤ k := by
      rw [i_le] at c ⊢
      simp only [Int32.reduceToInt]
      omega
    rw [if_neg c, if_neg c, if_neg c1]
theorem ltr_lt {L k c : Int32} {f : Nat → Int32} (h : ltr L f k = c) (hc : c ≠ -1) : k.toInt < L.toInt := by
  by_cases q : L ≤ k
  · unfold ltr at h
    rw [if_pos q] at h
    exact absurd h.symm hc
  · rw [i_le] at q
    omega
theorem here_loop {f : Nat → Int32} {L : Int32} (hL : L.toInt ≤ 240) : ∀ (n m : Nat) (i : Int32) (G : Nat → Int32), G 14 = L → 0 ≤ i.toInt → i.toInt ≤ (G 15).toInt → (G 15).toInt ≤ L.toInt → L.toInt - (G 15).toInt < n → 240 - i.toInt < m → ∃ k j : Int32, (G 15).toInt ≤ k.toInt ∧ k.toInt ≤ L.toInt ∧ ltr L f k ≠ 32 ∧ f_m_here_0 f n G = upd G 15 k ∧ ∀ r0 r1 r4 r5 r6, f_e_next_x5_2 r0 r1 L r4 r5 r6 f m i (G 15) = (j, k) := by
  intro n
  induction n with
  | zero => intro m i G hG h0 h1 h2 h3; omega
  | succ n ih =>
    intro m i G hG h0 h1 h2 h3 h4
    cases m with
    | zero => omega
    | succ m =>
      by_cases c : ltr L f (G 15) = 32
      · have hlt := ltr_lt c (by decide)
        have e1 := i_a1 (a := G 15) (by omega) (by omega)
        have e2 := i_a1 (a := i) (by omega) (by omega)
        have c1 : ¬ 240 ≤ i := by
          rw [i_le]
          simp only [Int32.reduceToInt]
          omega
        obtain ⟨k, j, a1, a2, a3, a4, a5⟩ := ih m (i + 1) (upd G 15 (G 15 + 1)) (by rw [pk_un (by decide)]; exact hG) (by omega) (by rw [pk_us]; omega) (by rw [pk_us]; omega) (by rw [pk_us]; omega) (by omega)
        rw [pk_us] at a1
        refine ⟨k, j, by omega, a2, a3, ?_, fun r0 r1 r4 r5 r6 => ?_⟩
        · rw [f_m_here_0_s, ltr_m, hG, if_pos c, a4, rl_tw]
        · have := a5 r0 r1 r4 r5 r6
          rw [pk_us] at this
          rw [f_e_next_x5_2_s, if_neg c1, ltr_e _ _ _ _ (by omega) hL, if_pos c, this]
      · refine ⟨G 15, i, by omega, h2, c, ?_, fun r0 r1 r4 r5 r6 => ?_⟩
        · rw [f_m_here_0_s, ltr_m, hG, if_neg c, rl_self]
        · rw [f_e_next_x5_2_s]
          by_cases q : 240 ≤ i
          · rw [if_pos q]
          · rw [if_neg q, ltr_e _ _ _ _ (by omega) hL, if_neg c]
theorem here_spec {G f : Nat → Int32} (h0 : 0 ≤ (G 15).toInt) (h1 : (G 15).toInt ≤ (G 14).toInt) (h2 : (G 14).toInt ≤ 240) : ∃ k : Int32, (G 15).toInt ≤ k.toInt ∧ k.toInt ≤ (G 14).toInt ∧ ltr (G 14) f k ≠ 32 ∧ f_m_here G f = (ltr (G 14) f k, upd (upd G 15 k) 16 k) ∧ ∀ r0 r1 r5 r6, f_e_next_x5 r0 r1 (G 14) (G 15) r5 r6 f = (ltr (G 14) f k, k) := by
  obtain ⟨k, j, a1, a2, a3, a4, a5⟩ := here_loop (f := f) h2 300 241 0 G rfl (by decide) (by rw [i_0]; exact h0) h1 (by omega) (by rw [i_0]; omega)
  refine ⟨k, a1, a2, a3, ?_, fun r0 r1 r5 r6 => ?_⟩
  · unfold f_m_here
    rw [a4]
    dsimp only
    rw [pk_us, ltr_m, pk_un (by decide), pk_un (by decide)]
  · unfold f_e_next_x5
    have e : ((240 : Int32).toInt - (0 : Int32).toInt).toNat + 1 = 241 := rfl
    rw [e, a5]
    dsimp only
    rw [ltr_e _ _ _ _ (by omega) h2]
/-- blanks that have been passed are passed -/
theorem here_again {G f : Nat → Int32} {k : Int32} (h0 : 0 ≤ k.toInt) (h2 : (G 14).toInt ≤ 240) (hk : ltr (G 14) f k ≠ 32) (hG : G 15 = k) : f_m_here G f = (ltr (G 14) f k, upd G 16 k) ∧ ∀ r0 r1 r5 r6, f_e_next_x5 r0 r1 (G 14) k r5 r6 f = (ltr (G 14) f k, k) := by
  refine ⟨?_, fun r0 r1 r5 r6 => ?_⟩
  · unfold f_m_here
    rw [f_m_here_0_s, ltr_m, hG, if_neg hk]
    dsimp only
    rw [ltr_m, pk_un (by decide), hG]
  · unfold f_e_next_x5
    have e : ((240 : Int32).toInt - (0 : Int32).toInt).toNat + 1 = 240 + 1 := rfl
    rw [e, f_e_next_x5_2_s, if_neg (by decide), ltr_e _ _ _ _ h0 h2, if_neg hk]
    dsimp only
    rw [ltr_e _ _ _ _ h0 h2]
theorem fig_m (c : Int32) : f_m_in c.toInt64 48 57 = 0 ↔ ¬ (48 ≤ c.toInt ∧ c.toInt ≤ 57) := by
  rw [i_in, Int32.toInt_toInt64]
  exact Iff.rfl
theorem fig_e (r0 r1 r3 r4 r5 r6 c : Int32) : f_e_isFigure_x5 r0 r1 r3 r4 r5 r6 c = 0 ↔ ¬ (48 ≤ c.toInt ∧ c.toInt ≤ 57) := by
  unfold f_e_isFigure_x5
  by_cases c1 : c < 48
  · rw [if_pos c1]
    simp only [i_lt, Int32.reduceToInt] at c1
    exact ⟨fun _ => by omega, fun _ => rfl⟩
  · rw [if_neg c1]
    simp only [i_lt, Int32.reduceToInt] at c1
    by_cases c2 : 57 < c
    · rw [if_pos c2]
      simp only [i_lt, Int32.reduceToInt] at c2
      exact ⟨fun _ => by omega, fun _ => rfl⟩
    · rw [if_neg c2]
      simp only [i_lt, Int32.reduceToInt] at c2
      exact ⟨fun q => absurd q (by decide), fun q => absurd ⟨by omega, by omega⟩ q⟩
theorem rl_4 {f : Nat → Int32} {x y p v : Int32} : upd (upd (upd (upd f 17 x) 15 y) 17 v) 15 p = upd (upd f 17 v) 15 p := by
  funext j
  by_cases h : j = 15
  · subst h
    rw [pk_us, pk_us]
  · rw [pk_un h, pk_un h]
    by_cases h2 : j = 17
    · subst h2
      rw [pk_us, pk_us]
    · rw [pk_un h2, pk_un h, pk_un h2, pk_un h2]
theorem num_loop {f : Nat → Int32} {L : Int32} (hL : L.toInt ≤ 240) : ∀ (n m : Nat) (i : Int32) (G : Nat → Int32), G 14 = L → 0 ≤ i.toInt → 0 ≤ (G 16).toInt → (G 15).toInt = (G 16).toInt + i.toInt → (G 15).toInt ≤ L.toInt → L.toInt - (G 15).toInt < n → 240 - i.toInt < m → ∃ p v j : Int32, (G 15).toInt ≤ p.toInt ∧ p.toInt ≤ L.toInt ∧ f_m_takesNumber_32 f n G = upd (upd G 17 v) 15 p ∧ (48 ≤ (ltr L f (G 15)).toInt ∧ (ltr L f (G 15)).toInt ≤ 57 → (G 15).toInt < p.toInt) ∧ ∀ r0 r1 r4 r5 r6 lo hi a b, f_e_number_x5_42 r0 r1 L r4 r5 r6 f lo hi m i (G 17) a b (G 15) = (j, v, a, b, p) := by
  intro n
  induction n with
  | zero => intro m i G hG h0 h1 h2 h3 h4; omega
  | succ n ih =>
    intro m i G hG h0 h1 h2 h3 h4 h5
    cases m with
    | zero => omega
    | succ m =>
      by_cases c : 48 ≤ (ltr L f (G 15)).toInt ∧ (ltr L f (G 15)).toInt ≤ 57
      · have hlt := ltr_lt (L := L) (f := f) (k := G 15) rfl (by intro q; rw [q, i_m1] at c; omega)
        have e1 := i_a1 (a := G 15) (by omega) (by omega)
        have e2 := i_a1 (a := i) (by omega) (by omega)
        have e3 := i_sub (a := G 15) (b := G 16) (by omega) (by omega)
        have c1 : ¬ 240 ≤ i := by
          rw [i_le]
          simp only [Int32.reduceToInt]
          omega
        have c2 : ¬ f_m_in (f_m_letterAt G f (G 15)).toInt64 48 57 = 0 := by
          rw [fig_m, ltr_m, hG]
          exact fun q => q c
        have c3 : ∀ r0 r1 r5 r6, ¬ f_e_isFigure_x5 r0 r1 L (G 15) r5 r6 (f_e_letter_x5 r0 r1 L (G 15) r5 r6 f) = 0 := by
          intro r0 r1 r5 r6
          rw [fig_e, ltr_e _ _ _ _ (by omega) hL]
          exact fun q => q c
        have key : ∀ v1 : Int32, ∃ p v j : Int32, (G 15).toInt + 1 ≤ p.toInt ∧ p.toInt ≤ L.toInt ∧ f_m_takesNumber_32 f n (upd (upd G 17 v1) 15 (G 15 + 1)) = upd (upd G 17 v) 15 p ∧ ∀ r0 r1 r4 r5 r6 lo hi a b, f_e_number_x5_42 r0 r1 L r4 r5 r6 f lo hi m (i + 1) v1 a b (G 15 + 1) = (j, v, a, b, p) := by
          intro v1
          obtain ⟨p, v, j, a1, a2, a3, _, a4⟩ := ih m (i + 1) (upd (upd G 17 v1) 15 (G 15 + 1)) (by rw [pk_un (by decide), pk_un (by decide)]; exact hG) (by omega) (by rw [pk_un (by decide), pk_un (by decide)]; exact h1) (by rw [pk_us, pk_un (by decide), pk_un (by decide)]; omega) (by rw [pk_us]; omega) (by rw [pk_us]; omega) (by omega)
          rw [pk_us] at a1
          refine ⟨p, v, j, by omega, a2, ?_, fun r0 r1 r4 r5 r6 lo hi a b => ?_⟩
          · rw [a3, rl_4]
          · have := a4 r0 r1 r4 r5 r6 lo hi a b
            rw [pk_us, pk_un (by decide), pk_us] at this
            exact this
        by_cases c4 : 3 ≤ i
        · have c5 : 3 ≤ G 15 - G 16 := by
            simp only [i_le, Int32.reduceToInt] at c4 ⊢
            omega
          obtain ⟨p, v, j, a1, a2, a3, a4⟩ := key (G 17)
          refine ⟨p, v, j, by omega, a2, ?_, fun _ => by omega, fun r0 r1 r4 r5 r6 lo hi a b => ?_⟩
          · rw [f_m_takesNumber_32_s, if_neg c2, if_pos c5, a3]
          · rw [f_e_number_x5_42_s, if_neg c1, if_neg (c3 _ _ _ _), if_pos c4, a4]
        · have c5 : ¬ 3 ≤ G 15 - G 16 := by
            simp only [i_le, Int32.reduceToInt] at c4 ⊢
            omega
          obtain ⟨p, v, j, a1, a2, a3, a4⟩ := key (10 * G 17 + ltr L f (G 15) - 48)
          refine ⟨p, v, j, by omega, a2, ?_, fun _ => by omega, fun r0 r1 r4 r5 r6 lo hi a b => ?_⟩
          · rw [f_m_takesNumber_32_s, if_neg c2, if_neg c5, ltr_m, hG, a3]
          · rw [f_e_number_x5_42_s, if_neg c1, if_neg (c3 _ _ _ _), if_neg c4, ltr_e _ _ _ _ (by omega) hL, Int32.mul_comm, a4]
      · refine ⟨G 15, G 17, i, by omega, h3, ?_, fun q => absurd q c, fun r0 r1 r4 r5 r6 lo hi a b => ?_⟩
        · have c2 : f_m_in (f_m_letterAt G f (G 15)).toInt64 48 57 = 0 := by
            rw [fig_m, ltr_m, hG]
            exact c
          rw [f_m_takesNumber_32_s, if_pos c2, rl_self, rl_self]
        · rw [f_e_number_x5_42_s]
          by_cases q : 240 ≤ i
          · rw [if_pos q]
          · have c3 : f_e_isFigure_x5 a b L (G 15) r5 r6 (f_e_letter_x5 a b L (G 15) r5 r6 f) = 0 := by
              rw [fig_e, ltr_e _ _ _ _ (by omega) hL]
              exact c
            rw [if_neg q, if_pos c3]
/-- where the reader stands, and no fault so far -/
def PS (G : Nat → Int32) : Prop := 0 ≤ (G 15).toInt ∧ (G 15).toInt ≤ (G 14).toInt ∧ (G 14).toInt ≤ 240 ∧ G 18 = 0
/-- but for at, start, number, faulty, faultAt -/
def PQ (G H : Nat → Int32) : Prop := ∀ j, j < 15 ∨ 20 ≤ j → H j = G j
theorem PQ.trans {A B C : Nat → Int32} (h : PQ A B) (q : PQ B C) : PQ A C := fun j hj => (q j hj).trans (h j hj)
theorem PQ.refl (A : Nat → Int32) : PQ A A := fun _ _ => rfl
theorem PQ_upd {A B : Nat → Int32} {k : Nat} {x : Int32} (h : PQ A B) (h1 : 15 ≤ k) (h2 : k < 20) : PQ A (upd B k x) := fun j hj => (pk_un (by omega)).trans (h j hj)
theorem number_eq {G f : Nat → Int32} {lo hi : Int32} (hp : PS G) : ∃ (r v a b p : Int32) (H : Nat → Int32), f_m_takesNumber G f lo hi = (r, H) ∧ (∀ r5 r6, f_e_number_x5 0 (G 19) (G 14) (G 15) r5 r6 f lo hi = (v, a, b, p)) ∧ PQ G H ∧ a = H 18 ∧ b = H 19 ∧ ((r = 1 ∧ a = 0 ∧ b = G 19 ∧ p = H 15 ∧ v = H 17 ∧ lo.toInt ≤ v.toInt ∧ v.toInt ≤ hi.toInt ∧ (G 15).toInt < p.toInt ∧ p.toInt ≤ (G 14).toInt) ∨ (r = 0 ∧ a ≠ 0)) := by
  obtain ⟨h0, h1, h2, h3⟩ := hp
  obtain ⟨k, k0, k1, k2, km, ke⟩ := here_spec (f := f) h0 h1 h2
  have q2 : PQ G (upd (upd G 15 k) 16 k) := PQ_upd (PQ_upd (PQ.refl G) (by decide) (by decide)) (by decide) (by decide)
  by_cases c : 48 ≤ (ltr (G 14) f k).toInt ∧ (ltr (G 14) f k).toInt ≤ 57
  · obtain ⟨p, v, j, a1, a2, a3, a4, a5⟩ := num_loop (f := f) h2 300 241 0 (upd (upd (upd G 15 k) 16 k) 17 0) rfl (by decide) (by rw [pk_un (by decide), pk_us]; omega) (by rw [pk_un (by decide), pk_un (by decide), pk_us, pk_un (by decide), pk_us, i_0]; omega) (by rw [pk_un (by decide), pk_un (by decide), pk_us]; exact k1) (by rw [pk_un (by decide), pk_un (by decide), pk_us]; omega) (by rw [i_0]; omega)
    have e15 : (upd (upd (upd G 15 k) 16 k) 17 0) 15 = k := by rw [pk_un (by decide), pk_un (by decide), pk_us]
    rw [e15] at a1 a4
    have a6 : ∀ r5 r6 a b, f_e_number_x5_42 0 (G 19) (G 14) (G 15) r5 r6 f lo hi 241 0 0 a b k = (j, v, a, b, p) := by
      intro r5 r6 a b
      have := a5 0 (G 19) (G 15) r5 r6 lo hi a b
      rw [e15, pk_us] at this
      exact this
    have hp := a4 c
    have n1 : ¬ f_m_in (ltr (G 14) f k).toInt64 48 57 = 0 := by
      rw [fig_m]
      exact fun q => q c
    have n2 : ∀ r5 r6, ¬ f_e_isFigure_x5 0 (G 19) (G 14) k r5 r6 (ltr (G 14) f k) = 0 := by
      intro r5 r6
      rw [fig_e]
      exact fun q => q c
    have e16 : (upd (upd (upd (upd (upd G 15 k) 16 k) 17 0) 17 v) 15 p) 16 = k := by rw [pk_un (by decide), pk_un (by decide), pk_un (by decide), pk_us]
    have e17 : (upd (upd (upd (upd (upd G 15 k) 16 k) 17 0) 17 v) 15 p) 17 = v := by rw [pk_un (by decide), pk_us]
    have es := i_sub (a := p) (b := k) (by omega) (by omega)
    have q5 : PQ G (upd (upd (upd (upd (upd G 15 k) 16 k) 17 0) 17 v) 15 p) := PQ_upd (PQ_upd (PQ_upd q2 (by decide) (by decide)) (by decide) (by decide)) (by decide) (by decide)
    have hm : f_m_takesNumber G f lo hi = (if 4 ≤ p - k then (0, upd (upd (upd (upd (upd (upd (upd G 15 k) 16 k) 17 0) 17 v) 15 p) 18 2) 19 k) else if f_m_in v.toInt64 lo.toInt64 hi.toInt64 = 0 then (0, upd (upd (upd (upd (upd (upd (upd G 15 k) 16 k) 17 0) 17 v) 15 p) 18 2) 19 k) else (1, upd (upd (upd (upd (upd G 15 k) 16 k) 17 0) 17 v) 15 p)) := by
      unfold f_m_takesNumber
      rw [km]
      dsimp only
      rw [if_neg n1, a3]
      try dsimp only
      rw [pk_us, e16, e17]
      unfold f_m_fails
      dsimp only
      rw [if_pos rfl]
    have he : ∀ r5 r6, f_e_number_x5 0 (G 19) (G 14) (G 15) r5 r6 f lo hi = (if 3 < p - k then (lo, 2, k, p) else if v < lo then (lo, 2, k, p) else if v ≤ hi then (v, 0, G 19, p) else (lo, 2, k, p)) := by
      intro r5 r6
      unfold f_e_number_x5
      have e : ((240 : Int32).toInt - (0 : Int32).toInt).toNat + 1 = 241 := rfl
      rw [if_pos rfl, ke]
      dsimp only
      rw [if_neg (n2 _ _), e, a6]
      rfl
    have bad : ∃ (r v' a b p' : Int32) (H : Nat → Int32), ((0 : Int32), upd (upd (upd (upd (upd (upd (upd G 15 k) 16 k) 17 0) 17 v) 15 p) 18 2) 19 k) = (r, H) ∧ (lo, (2 : Int32), k, p) = (v', a, b, p') ∧ PQ G H ∧ a = H 18 ∧ b = H 19 ∧ ((r = 1 ∧ a = 0 ∧ b = G 19 ∧ p' = H 15 ∧ v' = H 17 ∧ lo.toInt ≤ v'.toInt ∧ v'.toInt ≤ hi.toInt ∧ (G 15).toInt < p'.toInt ∧ p'.toInt ≤ (G 14).toInt) ∨ (r = 0 ∧ a ≠ 0)) :=
      ⟨0, lo, 2, k, p, _, rfl, rfl, PQ_upd (PQ_upd q5 (by decide) (by decide)) (by decide) (by decide), by rw [pk_un (by decide), pk_us], by rw [pk_us], Or.inr ⟨rfl, by decide⟩⟩
    by_cases c4 : 4 ≤ p - k
    · have c5 : 3 < p - k := by
        simp only [i_le, i_lt, Int32.reduceToInt] at c4 ⊢
        omega
      obtain ⟨r, v', a, b, p', H, b1, b2, b3⟩ := bad
      refine ⟨r, v', a, b, p', H, ?_, fun r5 r6 => ?_, b3⟩
      · rw [hm, if_pos c4, b1]
      · rw [he, if_pos c5, b2]
    · have c5 : ¬ 3 < p - k := by
        simp only [i_le, i_lt, Int32.reduceToInt] at c4 ⊢
        omega
      have ein : f_m_in v.toInt64 lo.toInt64 hi.toInt64 = 0 ↔ ¬ (lo.toInt ≤ v.toInt ∧ v.toInt ≤ hi.toInt) := by
        rw [i_in, Int32.toInt_toInt64, Int32.toInt_toInt64, Int32.toInt_toInt64]
      by_cases c6 : lo.toInt ≤ v.toInt ∧ v.toInt ≤ hi.toInt
      · refine ⟨1, v, 0, G 19, p, upd (upd (upd (upd (upd G 15 k) 16 k) 17 0) 17 v) 15 p, ?_, fun r5 r6 => ?_, q5, ?_, ?_, Or.inl ⟨rfl, rfl, rfl, ?_, ?_, c6.1, c6.2, by omega, a2⟩⟩
        · rw [hm, if_neg c4, if_neg (fun q => ein.mp q c6)]
        · rw [he, if_neg c5, if_neg (by rw [i_lt]; omega), if_pos (by rw [i_le]; omega)]
        · rw [pk_un (by decide), pk_un (by decide), pk_un (by decide), pk_un (by decide), pk_un (by decide), h3]
        · rw [pk_un (by decide), pk_un (by decide), pk_un (by decide), pk_un (by decide), pk_un (by decide)]
        · rw [pk_us]
        · rw [e17]
      · obtain ⟨r, v', a, b, p', H, b1, b2, b3⟩ := bad
        refine ⟨r, v', a, b, p', H, ?_, fun r5 r6 => ?_, b3⟩
        · rw [hm, if_neg c4, if_pos (ein.mpr c6), b1]
        · rw [he, if_neg c5]
          by_cases c7 : v < lo
          · rw [if_pos c7, b2]
          · have c8 : ¬ v ≤ hi := by
              rw [i_lt] at c7
              rw [i_le]
              omega
            rw [if_neg c7, if_neg c8, b2]
  · refine ⟨0, lo, 1, k, k, upd (upd (upd (upd G 15 k) 16 k) 18 1) 19 k, ?_, fun r5 r6 => ?_, PQ_upd (PQ_upd q2 (by decide) (by decide)) (by decide) (by decide), ?_, ?_, Or.inr ⟨rfl, by decide⟩⟩
    · have n1 : f_m_in (ltr (G 14) f k).toInt64 48 57 = 0 := by
        rw [fig_m]
        exact c
      unfold f_m_takesNumber
      rw [km]
      dsimp only
      rw [if_pos n1, pk_us]
      rfl
    · have n2 : f_e_isFigure_x5 0 (G 19) (G 14) k r5 r6 (ltr (G 14) f k) = 0 := by
        rw [fig_e]
        exact c
      unfold f_e_number_x5
      rw [if_pos rfl, ke]
      dsimp only
      rw [if_pos n2]
      rfl
    · rw [pk_un (by decide), pk_us]
    · rw [pk_us]
theorem number_off {r0 r1 r3 r4 r5 r6 lo hi : Int32} {f : Nat → Int32} (h : r0 ≠ 0) : f_e_number_x5 r0 r1 r3 r4 r5 r6 f lo hi = (lo, r0, r1, r4) := by
  unfold f_e_number_x5
  rw [if_neg h]
theorem expect_off {r0 r1 r3 r4 r5 r6 c : Int32} {f : Nat → Int32} (h : r0 ≠ 0) : f_e_expect_x5 r0 r1 r3 r4 r5 r6 f c = (r0, r1, r4) := by
  unfold f_e_expect_x5
  rw [if_neg h]
/-- a sign that must stand there: place is where the class stands, at where the reference stands: blanks alone may lie between -/
theorem expect_eq {G f : Nat → Int32} {c p : Int32} (hp : PS G) (hc : c ≠ -1) (hq : p = G 15 ∨ ∃ k, (∀ r0 r1 r5 r6, f_e_next_x5 r0 r1 (G 14) p r5 r6 f = (ltr (G 14) f k, k)) ∧ G 15 = k ∧ ltr (G 14) f k ≠ 32) : ∃ (r a b z : Int32) (H : Nat → Int32), f_m_takes G f c = (r, H) ∧ (∀ r5 r6, f_e_expect_x5 0 (G 19) (G 14) p r5 r6 f c = (a, b, z)) ∧ PQ G H ∧ a = H 18 ∧ b = H 19 ∧ ((r = 1 ∧ a = 0 ∧ b = G 19 ∧ z = H 15 ∧ (G 15).toInt < z.toInt ∧ z.toInt ≤ (G 14).toInt) ∨ (r = 0 ∧ a ≠ 0)) := by
  obtain ⟨h0, h1, h2, h3⟩ := hp
  have key : ∃ k : Int32, (G 15).toInt ≤ k.toInt ∧ k.toInt ≤ (G 14).toInt ∧ f_m_here G f = (ltr (G 14) f k, upd (upd G 15 k) 16 k) ∧ ∀ r0 r1 r5 r6, f_e_next_x5 r0 r1 (G 14) p r5 r6 f = (ltr (G 14) f k, k) := by
    rcases hq with rfl | ⟨k, ke, kg, kn⟩
    · obtain ⟨k, k0, k1, k2, km, ke⟩ := here_spec (f := f) h0 h1 h2
      exact ⟨k, k0, k1, km, ke⟩
    · refine ⟨k, by rw [kg]; exact Int.le_refl _, by rw [← kg]; exact h1, ?_, ke⟩
      rw [(here_again (by rw [← kg]; exact h0) h2 kn kg).1, ← kg, rl_self]
  obtain ⟨k, k0, k1, km, ke⟩ := key
  have q2 : PQ G (upd (upd G 15 k) 16 k) := PQ_upd (PQ_upd (PQ.refl G) (by decide) (by decide)) (by decide) (by decide)
  by_cases d : ltr (G 14) f k = c
  · have hlt := ltr_lt d hc
    have e1 := i_a1 (a := k) (by omega) (by omega)
    refine ⟨1, 0, G 19, k + 1, upd (upd (upd G 15 k) 16 k) 15 (k + 1), ?_, fun r5 r6 => ?_, PQ_upd q2 (by decide) (by decide), ?_, ?_, Or.inl ⟨rfl, rfl, rfl, ?_, by omega, by omega⟩⟩
    · unfold f_m_takes
      rw [km]
      dsimp only
      rw [if_pos d, pk_un (by decide), pk_us]
    · unfold f_e_expect_x5
      rw [if_pos rfl, ke]
      dsimp only
      rw [if_pos d]
    · rw [pk_un (by decide), pk_un (by decide), pk_un (by decide), h3]
    · rw [pk_un (by decide), pk_un (by decide), pk_un (by decide)]
    · rw [pk_us]
  · refine ⟨0, 1, k, k, upd (upd (upd (upd G 15 k) 16 k) 18 1) 19 k, ?_, fun r5 r6 => ?_, PQ_upd (PQ_upd q2 (by decide) (by decide)) (by decide) (by decide), ?_, ?_, Or.inr ⟨rfl, by decide⟩⟩
    · unfold f_m_takes
      rw [km]
      dsimp only
      rw [if_neg d, pk_us]
      rfl
    · unfold f_e_expect_x5
      rw [if_pos rfl, ke]
      dsimp only
      rw [if_neg d]
      rfl
    · rw [pk_un (by decide), pk_us]
    · rw [pk_us]
end
section
/-! the clauses, side by side -/
def AG (f g : Nat → Int32) (n lo hi : Int) : Prop := ∀ k : Nat, (k : Int) < n → f k = g k ∧ lo ≤ (g k).toInt ∧ (g k).toInt ≤ hi
def AF (f g : Nat → Int32) (n m : Int) : Prop := ∀ c t : Nat, (c : Int) < n → (t : Int) < m → f (5 * c + t) = g (5 * c + t) ∧ 0 ≤ (g (5 * c + t)).toInt ∧ (g (5 * c + t)).toInt ≤ 9
theorem put_in {n : Nat} {f : Nat → Int32} {i x : Int32} (h0 : 0 ≤ i.toInt) (h1 : i.toInt < n) : putF n f i x = upd f i.toNatClampNeg x := by
  unfold putF
  rw [if_neg]
  rw [i_lt, i_0, i_clamp]
  omega
theorem at_in {n : Nat} {f : Nat → Int32} {i : Int32} (h0 : 0 ≤ i.toInt) (h1 : i.toInt < n) : atF n f i = f i.toNatClampNeg := by
  unfold atF
  rw [if_neg]
  rw [i_lt, i_0, i_clamp]
  omega
theorem AG_snoc {f g : Nat → Int32} {i v : Int32} {lo hi : Int} {m : Nat} (h : AG f g i.toInt lo hi) (h0 : 0 ≤ i.toInt) (h1 : i.toInt < m) (hlo : lo ≤ v.toInt) (hhi : v.toInt ≤ hi) : AG (putF m f i v) (upd g i.toNatClampNeg v) (i.toInt + 1) lo hi := by
  intro k hk
  rw [put_in h0 h1]
  by_cases c : k = i.toNatClampNeg
  · subst c
    rw [pk_us, pk_us]
    exact ⟨rfl, hlo, hhi⟩
  · rw [pk_un c, pk_un c]
    refine h k ?_
    rw [i_clamp] at c
    omega
noncomputable def thenS (f : Nat → Int32) (r : Int32) (H : Nat → Int32) : Int32 × (Nat → Int32) := if r = 0 then (0, H) else (match f_m_takes H f 59 with | (r', H') => (if r' = 0 then (0, H') else (1, H')))
theorem thenS_0 {f H : Nat → Int32} : thenS f 0 H = (0, H) := if_pos rfl
theorem thenS_1 {f H H' : Nat → Int32} {r : Int32} (h : f_m_takes H f 59 = (r, H')) (hr : r = 1 ∨ r = 0) : thenS f 1 H = (r, H') := by
  unfold thenS
  rw [if_neg (by decide), h]
  dsimp only
  rcases hr with rfl | rfl
  · rw [if_neg (by decide)]
  · rw [if_pos rfl]
/-- but for at .. readBridges -/
def BQ (G H : Nat → Int32) : Prop := ∀ j, j < 15 ∨ 21 ≤ j → H j = G j
theorem br_loop {f : Nat → Int32} : ∀ (n m : Nat) (G arr brr : Nat → Int32), PS G → 1 ≤ (G 20).toInt → (G 20).toInt ≤ 6 → 7 - (G 20).toInt ≤ n → 6 - (G 20).toInt < m → AG brr arr (G 20).toInt 1 60 → ∃ (r rb a b z a1 b1 z1 u0 j : Int32) (Hb H h27 ga : Nat → Int32), (match (match f_m_here G f with | (r_11, u_10) => (if r_11 = 44 then f_m_takesBridges_2 f n 1 (upd u_10 15 ((u_10 15) + 1)) arr else f_m_takesBridges_2 f n 0 (upd u_10 15 ((u_10 15) + 0)) arr)) with | Sum.inl (_, w0, w1) => ((1 : Int32), w0, w1) | Sum.inr o => o) = (rb, Hb, h27) ∧ thenS f rb Hb = (r, H) ∧ (∀ q0 q1 q4 r5 r6 t0 t1 t2 t3 t4 fta, f_e_readBridges_x5_22 q0 q1 (G 14) q4 r5 r6 f t0 t1 t2 t3 t4 fta m (G 20) 0 (G 19) (G 15) (G 20) brr = (j, a1, b1, z1, u0, ga)) ∧ (∀ r5 r6, f_e_expect_x5 a1 b1 (G 14) z1 r5 r6 f 59 = (a, b, z)) ∧ BQ G H ∧ a = H 18 ∧ b = H 19 ∧ ((r = 1 ∧ a = 0 ∧ b = G 19 ∧ z = H 15 ∧ (G 15).toInt < z.toInt ∧ z.toInt ≤ (G 14).toInt ∧ u0 = H 20 ∧ 1 ≤ u0.toInt ∧ u0.toInt ≤ 6 ∧ AG ga h27 u0.toInt 1 60) ∨ (r = 0 ∧ a ≠ 0)) := by
  intro n
  induction n with
  | zero => intro m G arr brr hp h1 h2 h3; omega
  | succ n ih =>
    intro m G arr brr hp h1 h2 h3 h4 hA
    cases m with
    | zero => omega
    | succ m =>
      have hp0 := hp
      obtain ⟨p0, p1, p2, p3⟩ := hp
      obtain ⟨k, k0, k1, k2, km, ke⟩ := here_spec (f := f) p0 p1 p2
      rw [km]
      dsimp only
      have u15 : (upd (upd G 15 k) 16 k) 15 = k := by rw [pk_un (by decide), pk_us]
      rw [u15]
      by_cases c : ltr (G 14) f k = 44
      · rw [if_pos c]
        have hlt := ltr_lt c (by decide)
        have e1 := i_a1 (a := k) (by omega) (by omega)
        have g14 : (upd (upd (upd G 15 k) 16 k) 15 (k + 1)) 14 = G 14 := by rw [pk_un (by decide), pk_un (by decide), pk_un (by decide)]
        have g15 : (upd (upd (upd G 15 k) 16 k) 15 (k + 1)) 15 = k + 1 := by rw [pk_us]
        have g16 : (upd (upd (upd G 15 k) 16 k) 15 (k + 1)) 16 = k := by rw [pk_un (by decide), pk_us]
        have g18 : (upd (upd (upd G 15 k) 16 k) 15 (k + 1)) 18 = 0 := by rw [pk_un (by decide), pk_un (by decide), pk_un (by decide)]; exact p3
        have g19 : (upd (upd (upd G 15 k) 16 k) 15 (k + 1)) 19 = G 19 := by rw [pk_un (by decide), pk_un (by decide), pk_un (by decide)]
        have g20 : (upd (upd (upd G 15 k) 16 k) 15 (k + 1)) 20 = G 20 := by rw [pk_un (by decide), pk_un (by decide), pk_un (by decide)]
        have gq : PQ G (upd (upd (upd G 15 k) 16 k) 15 (k + 1)) := PQ_upd (PQ_upd (PQ_upd (PQ.refl G) (by decide) (by decide)) (by decide) (by decide)) (by decide) (by decide)
        generalize upd (upd (upd G 15 k) 16 k) 15 (k + 1) = G1 at g14 g15 g16 g18 g19 g20 gq ⊢
        rw [f_m_takesBridges_2_s, if_neg (by decide), g20]
        by_cases c6 : G 20 = 6
        · rw [if_pos c6, g16]
          unfold f_m_fails
          dsimp only
          refine ⟨0, 0, 1, k, k, 0, G 19, G 15, G 20, G 20, _, _, _, brr, rfl, thenS_0, fun q0 q1 q4 r5 r6 t0 t1 t2 t3 t4 fta => ?_, fun r5 r6 => ?_, ?_, ?_, ?_, Or.inr ⟨rfl, by decide⟩⟩
          · rw [f_e_readBridges_x5_22_s, if_pos (by rw [c6]; decide)]
          · unfold f_e_expect_x5
            rw [if_pos rfl, ke]
            dsimp only
            rw [if_neg (by rw [c]; decide)]
            rfl
          · exact fun j hj => (pk_un (by omega)).trans ((pk_un (by omega)).trans (gq j (by omega)))
          · rw [pk_un (by decide), pk_us]
          · rw [pk_us]
        · have d6 : (G 20).toInt < 6 := by
            rw [i_eq] at c6
            simp only [Int32.reduceToInt] at c6
            omega
          rw [if_neg c6]
          obtain ⟨r, v, a, b, p, H, n1, n2, n3, n4, n5, n6⟩ := number_eq (G := G1) (f := f) (lo := 1) (hi := 60) ⟨by rw [g15]; omega, by rw [g14, g15]; omega, by rw [g14]; exact p2, g18⟩
          rw [g14, g15, g19] at n2
          rw [n1]
          dsimp only
          have st : ∀ q0 q1 q4 r5 r6 t0 t1 t2 t3 t4 fta, f_e_readBridges_x5_22 q0 q1 (G 14) q4 r5 r6 f t0 t1 t2 t3 t4 fta (m + 1) (G 20) 0 (G 19) (G 15) (G 20) brr = f_e_readBridges_x5_22 q0 q1 (G 14) q4 r5 r6 f t0 t1 t2 t3 t4 fta m (G 20 + 1) a b p (G 20 + 1) (putF 6 brr (G 20) v) := by
            intro q0 q1 q4 r5 r6 t0 t1 t2 t3 t4 fta
            rw [f_e_readBridges_x5_22_s, if_neg (by rw [i_le]; simp only [Int32.reduceToInt]; omega), if_pos rfl, ke]
            dsimp only
            rw [if_pos c, n2]
          rcases n6 with ⟨rfl, rfl, rfl, rfl, rfl, l1, l2, l3, l4⟩ | ⟨rfl, ha⟩
          · rw [if_neg (by decide)]
            have h20 : H 20 = G 20 := (n3 20 (by decide)).trans g20
            have h14 : H 14 = G 14 := (n3 14 (by decide)).trans g14
            have e2 := i_a1 (a := G 20) (by omega) (by omega)
            have a14 : (upd H 20 (G 20 + 1)) 14 = G 14 := by rw [pk_un (by decide)]; exact h14
            have a15 : (upd H 20 (G 20 + 1)) 15 = H 15 := by rw [pk_un (by decide)]
            have a18 : (upd H 20 (G 20 + 1)) 18 = 0 := by rw [pk_un (by decide)]; exact n4.symm
            have a19 : (upd H 20 (G 20 + 1)) 19 = G 19 := by rw [pk_un (by decide), ← n5]; exact g19
            have a20 : (upd H 20 (G 20 + 1)) 20 = G 20 + 1 := by rw [pk_us]
            obtain ⟨r, rb, a, b, z, a1, b1, z1, u0, j, Hb, K, h27, ga, m1, m2, m3, m4, m5, m6, m7, m8⟩ := ih m (upd H 20 (G 20 + 1)) (upd arr (G 20).toNatClampNeg (H 17)) (putF 6 brr (G 20) (H 17)) ⟨by rw [a15]; rw [g15] at l3; omega, by rw [a15, a14]; rw [g14] at l4; exact l4, by rw [a14]; exact p2, a18⟩ (by rw [a20]; omega) (by rw [a20]; omega) (by rw [a20]; omega) (by rw [a20]; omega) (by rw [a20, e2]; exact AG_snoc hA (by omega) (by omega) l1 l2)
            rw [h20]
            refine ⟨r, rb, a, b, z, a1, b1, z1, u0, j, Hb, K, h27, ga, m1, m2, fun q0 q1 q4 r5 r6 t0 t1 t2 t3 t4 fta => ?_, ?_, ?_, m6, m7, ?_⟩
            · have := m3 q0 q1 q4 r5 r6 t0 t1 t2 t3 t4 fta
              rw [a14, a15, a19, a20] at this
              rw [st, g19]
              exact this
            · rw [a14] at m4
              exact m4
            · exact fun j hj => (m5 j hj).trans ((pk_un (by omega)).trans ((n3 j (by omega)).trans (gq j (by omega))))
            · rcases m8 with ⟨x1, x2, x3, x4, x5, x6, x7⟩ | q
              · rw [a19] at x3
                rw [a15] at x5
                rw [a14] at x6
                rw [g15] at l3
                exact Or.inl ⟨x1, x2, x3, x4, by omega, x6, x7⟩
              · exact Or.inr q
          · rw [if_pos rfl]
            refine ⟨0, 0, a, b, p, a, b, p, G 20 + 1, G 20 + 1, H, H, arr, putF 6 brr (G 20) v, rfl, thenS_0, fun q0 q1 q4 r5 r6 t0 t1 t2 t3 t4 fta => ?_, fun r5 r6 => expect_off ha, ?_, n4, n5, Or.inr ⟨rfl, ha⟩⟩
            · rw [st]
              cases m with
              | zero => omega
              | succ m =>
                rw [f_e_readBridges_x5_22_s]
                by_cases q : 6 ≤ G 20 + 1
                · rw [if_pos q]
                · rw [if_neg q, if_neg ha]
            · exact fun j hj => (n3 j (by omega)).trans (gq j (by omega))
      · rw [if_neg c, f_m_takesBridges_2_s, if_pos rfl]
        dsimp only
        rw [Int32.add_zero]
        have g14 : (upd (upd (upd G 15 k) 16 k) 15 k) 14 = G 14 := by rw [pk_un (by decide), pk_un (by decide), pk_un (by decide)]
        have g15 : (upd (upd (upd G 15 k) 16 k) 15 k) 15 = k := by rw [pk_us]
        have g18 : (upd (upd (upd G 15 k) 16 k) 15 k) 18 = 0 := by rw [pk_un (by decide), pk_un (by decide), pk_un (by decide)]; exact p3
        have g19 : (upd (upd (upd G 15 k) 16 k) 15 k) 19 = G 19 := by rw [pk_un (by decide), pk_un (by decide), pk_un (by decide)]
        have g20 : (upd (upd (upd G 15 k) 16 k) 15 k) 20 = G 20 := by rw [pk_un (by decide), pk_un (by decide), pk_un (by decide)]
        have gq : PQ G (upd (upd (upd G 15 k) 16 k) 15 k) := PQ_upd (PQ_upd (PQ_upd (PQ.refl G) (by decide) (by decide)) (by decide) (by decide)) (by decide) (by decide)
        generalize upd (upd (upd G 15 k) 16 k) 15 k = G1 at g14 g15 g18 g19 g20 gq ⊢
        have ex : ∃ z1 : Int32, (∀ q0 q1 q4 r5 r6 t0 t1 t2 t3 t4 fta, f_e_readBridges_x5_22 q0 q1 (G 14) q4 r5 r6 f t0 t1 t2 t3 t4 fta (m + 1) (G 20) 0 (G 19) (G 15) (G 20) brr = (G 20, 0, G 19, z1, G 20, brr)) ∧ (z1 = G1 15 ∨ ∃ k, (∀ r0 r1 r5 r6, f_e_next_x5 r0 r1 (G1 14) z1 r5 r6 f = (ltr (G1 14) f k, k)) ∧ G1 15 = k ∧ ltr (G1 14) f k ≠ 32) := by
          by_cases q : 6 ≤ G 20
          · refine ⟨G 15, fun q0 q1 q4 r5 r6 t0 t1 t2 t3 t4 fta => ?_, Or.inr ⟨k, ?_, g15, ?_⟩⟩
            · rw [f_e_readBridges_x5_22_s, if_pos q]
            · rw [g14]
              exact ke
            · rw [g14]
              exact k2
          · refine ⟨k, fun q0 q1 q4 r5 r6 t0 t1 t2 t3 t4 fta => ?_, Or.inl g15.symm⟩
            rw [f_e_readBridges_x5_22_s, if_neg q, if_pos rfl, ke]
            dsimp only
            rw [if_neg c]
        obtain ⟨z1, y1, y2⟩ := ex
        obtain ⟨r, a, b, z, H, x1, x2, x3, x4, x5, x6⟩ := expect_eq (G := G1) (f := f) (c := 59) (p := z1) ⟨by rw [g15]; omega, by rw [g14, g15]; exact k1, by rw [g14]; exact p2, g18⟩ (by decide) y2
        rw [g14, g19] at x2
        refine ⟨r, 1, a, b, z, 0, G 19, z1, G 20, G 20, G1, H, arr, brr, rfl, thenS_1 x1 ?_, y1, x2, ?_, x4, x5, ?_⟩
        · rcases x6 with q | q
          · exact Or.inl q.1
          · exact Or.inr q.1
        · exact fun j hj => (x3 j (by omega)).trans (gq j (by omega))
        · rcases x6 with ⟨w1, w2, w3, w4, w5, w6⟩ | q
          · rw [g19] at w3
            rw [g15] at w5
            rw [g14] at w6
            have h20 : H 20 = G 20 := (x3 20 (by decide)).trans g20
            exact Or.inl ⟨w1, w2, w3, w4, by omega, w6, h20.symm, h1, h2, hA⟩
          · exact Or.inr q
theorem bridges_eq {G f arr brr : Nat → Int32} (hp : PS G) (h20 : G 20 = 0) : ∃ (r rb a b z a1 b1 z1 u0 : Int32) (Hb H h27 ga : Nat → Int32), f_m_takesBridges G f arr = (rb, Hb, h27) ∧ thenS f rb Hb = (r, H) ∧ (∀ r5 r6 t0 t1 t2 t3 t4, f_e_readBridges_x5 0 (G 19) (G 14) (G 15) r5 r6 f t0 t1 t2 t3 t4 brr = (a1, b1, z1, u0, ga)) ∧ (∀ r5 r6, f_e_expect_x5 a1 b1 (G 14) z1 r5 r6 f 59 = (a, b, z)) ∧ BQ G H ∧ a = H 18 ∧ b = H 19 ∧ ((r = 1 ∧ a = 0 ∧ b = G 19 ∧ z = H 15 ∧ (G 15).toInt < z.toInt ∧ z.toInt ≤ (G 14).toInt ∧ u0 = H 20 ∧ 1 ≤ u0.toInt ∧ u0.toInt ≤ 6 ∧ AG ga h27 u0.toInt 1 60) ∨ (r = 0 ∧ a ≠ 0)) := by
  obtain ⟨r, v, a, b, p, H, n1, n2, n3, n4, n5, n6⟩ := number_eq (f := f) (lo := 1) (hi := 60) hp
  obtain ⟨p0, p1, p2, p3⟩ := hp
  have hb : f_m_takesBridges G f arr = (match (f_m_takesBridges_2 f 10 1 G arr) with | Sum.inl (_, w0, w1) => ((1 : Int32), w0, w1) | Sum.inr o => o) := rfl
  have st : ∀ r5 r6 t0 t1 t2 t3 t4, f_e_readBridges_x5 0 (G 19) (G 14) (G 15) r5 r6 f t0 t1 t2 t3 t4 brr = (match (f_e_readBridges_x5_22 0 (G 19) (G 14) (G 15) r5 r6 f t0 t1 t2 t3 t4 brr 6 1 a b p 1 (putF 6 brr 0 v)) with | (w_8l2, w_8m0, w_8m1, w_8m2, w_8m3, w_8m4) => (w_8m0, w_8m1, w_8m2, w_8m3, w_8m4)) := by
    intro r5 r6 t0 t1 t2 t3 t4
    unfold f_e_readBridges_x5
    rw [n2]
    rfl
  rw [hb, f_m_takesBridges_2_s, if_neg (by decide), if_neg (by rw [h20]; decide), n1]
  dsimp only
  rcases n6 with ⟨rfl, rfl, rfl, rfl, rfl, l1, l2, l3, l4⟩ | ⟨rfl, ha⟩
  · rw [if_neg (by decide)]
    have g20 : H 20 = 0 := (n3 20 (by decide)).trans h20
    have g14 : H 14 = G 14 := n3 14 (by decide)
    rw [g20]
    have e1 : (0 + 1 : Int32) = 1 := rfl
    rw [e1]
    have a14 : (upd H 20 1) 14 = G 14 := by rw [pk_un (by decide)]; exact g14
    have a15 : (upd H 20 1) 15 = H 15 := by rw [pk_un (by decide)]
    have a18 : (upd H 20 1) 18 = 0 := by rw [pk_un (by decide)]; exact n4.symm
    have a19 : (upd H 20 1) 19 = G 19 := by rw [pk_un (by decide), ← n5]
    have a20 : (upd H 20 1) 20 = 1 := by rw [pk_us]
    have hA : AG (putF 6 brr 0 (H 17)) (upd arr (0 : Int32).toNatClampNeg (H 17)) ((0 : Int32).toInt + 1) 1 60 := AG_snoc (fun k hk => absurd hk (by rw [i_0]; omega)) (by decide) (by decide) l1 l2
    obtain ⟨r, rb, a, b, z, a1, b1, z1, u0, j, Hb, K, h27, ga, m1, m2, m3, m4, m5, m6, m7, m8⟩ := br_loop (f := f) 9 6 (upd H 20 1) (upd arr (0 : Int32).toNatClampNeg (H 17)) (putF 6 brr 0 (H 17)) ⟨by rw [a15]; omega, by rw [a15, a14]; exact l4, by rw [a14]; exact p2, a18⟩ (by rw [a20]; decide) (by rw [a20]; decide) (by rw [a20]; decide) (by rw [a20]; decide) (by rw [a20]; exact hA)
    refine ⟨r, rb, a, b, z, a1, b1, z1, u0, Hb, K, h27, ga, m1, m2, fun r5 r6 t0 t1 t2 t3 t4 => ?_, ?_, ?_, m6, m7, ?_⟩
    · have := m3 0 (G 19) (G 15) r5 r6 t0 t1 t2 t3 t4 brr
      rw [a14, a15, a19, a20] at this
      rw [st, this]
    · rw [a14] at m4
      exact m4
    · exact fun j hj => (m5 j hj).trans ((pk_un (by omega)).trans (n3 j (by omega)))
    · rcases m8 with ⟨x1, x2, x3, x4, x5, x6, x7⟩ | q
      · rw [a19] at x3
        rw [a15] at x5
        rw [a14] at x6
        exact Or.inl ⟨x1, x2, x3, x4, by omega, x6, x7⟩
      · exact Or.inr q
  · rw [if_pos rfl]
    refine ⟨0, 0, a, b, p, a, b, p, 1, H, H, arr, putF 6 brr 0 v, rfl, thenS_0, fun r5 r6 t0 t1 t2 t3 t4 => ?_, fun r5 r6 => expect_off ha, ?_, n4, n5, Or.inr ⟨rfl, ha⟩⟩
    · rw [st, f_e_readBridges_x5_22_s, if_neg (by decide), if_neg ha]
    · exact fun j hj => n3 j (by omega)
end
section
/-! couples, barges, themes, snow, side by side -/
theorem i_mul5 {c t : Int32} (h0 : 0 ≤ c.toInt) (h1 : c.toInt ≤ 5) (h2 : 0 ≤ t.toInt) (h3 : t.toInt ≤ 4) : (5 * c + t).toInt = 5 * c.toInt + t.toInt ∧ (c * 5 + t).toInt = 5 * c.toInt + t.toInt := by
  have e5 : (5 : Int32).toInt = 5 := rfl
  have e1 : (5 * c).toInt = 5 * c.toInt := by
    rw [i_mul (by rw [e5]; omega) (by rw [e5]; omega), e5]
  have e2 : (c * 5).toInt = 5 * c.toInt := by
    rw [Int32.mul_comm]
    exact e1
  constructor
  · rw [i_add (by omega) (by omega), e1]
  · rw [i_add (by omega) (by omega), e2]
theorem cp_off {r0 r1 r3 r4 r5 r6 t0 t1 t2 t3 t4 : Int32} {f fb fc : Nat → Int32} : ∀ (m : Nat) (t a b p m3 : Int32) (m4 m5 : Nat → Int32), a ≠ 0 → ∃ (j p' : Int32) (ga : Nat → Int32), f_e_readCouple_x5_22 r0 r1 r3 r4 r5 r6 f t0 t1 t2 t3 t4 fb fc m t a b p m3 m4 m5 = (j, a, b, p', m3, m4, ga) := by
  intro m
  induction m with
  | zero => intro t a b p m3 m4 m5 ha; exact ⟨t, p, m5, rfl⟩
  | succ m ih =>
    intro t a b p m3 m4 m5 ha
    rw [f_e_readCouple_x5_22_s]
    by_cases c : t1 ≤ t
    · exact ⟨t, p, m5, if_pos c⟩
    · rw [if_neg c]
      by_cases c2 : t ≤ 0
      · rw [if_pos c2, number_off ha]
        exact ih _ _ _ _ _ _ _ ha
      · rw [if_neg c2, expect_off ha]
        dsimp only
        rw [number_off ha]
        exact ih _ _ _ _ _ _ _ ha
/-- what a couple's clause has read of forces so far -/
def CF (f g : Nat → Int32) (c t : Int) : Prop := ∀ i : Nat, 5 * c ≤ i → (i : Int) < 5 * c + t → f i = g i ∧ 0 ≤ (g i).toInt ∧ (g i).toInt ≤ 9
theorem CF_snoc {f g : Nat → Int32} {x t v : Int32} {c : Int} (h : CF f g c t.toInt) (hx : x.toInt = 5 * c + t.toInt) (h0 : 0 ≤ x.toInt) (v0 : 0 ≤ v.toInt) (v1 : v.toInt ≤ 9) : CF (upd f x.toNatClampNeg v) (upd g x.toNatClampNeg v) c (t.toInt + 1) := by
  intro i h1 h2
  by_cases q : i = x.toNatClampNeg
  · subst q
    rw [pk_us, pk_us]
    exact ⟨rfl, v0, v1⟩
  · rw [pk_un q, pk_un q]
    refine h i h1 ?_
    rw [i_clamp] at q
    omega
theorem cp_loop {f : Nat → Int32} {c : Int32} (hc0 : 0 ≤ c.toInt) (hc5 : c.toInt ≤ 5) : ∀ (n m : Nat) (t : Int32) (G f28 arr brr : Nat → Int32), PS G → G 23 = c → 0 ≤ t.toInt → t.toInt ≤ (G 21).toInt → (G 21).toInt ≤ 5 → (G 21).toInt - t.toInt < n → (G 21).toInt - t.toInt < m → CF brr arr c.toInt t.toInt → ∃ (a b p j : Int32) (H ga har : Nat → Int32), (∀ r0 r1 r4 r5 r6 t0 t3 t4 fb fc m3 m4, ∃ p' ga', f_e_readCouple_x5_22 r0 r1 (G 14) r4 r5 r6 f t0 (G 21) c t3 t4 fb fc m t 0 (G 19) (G 15) m3 m4 brr = (p', a, b, ga'.1, m3, m4, ga'.2) ∧ (a = 0 → ga' = (p, ga))) ∧ PQ G H ∧ a = H 18 ∧ b = H 19 ∧ ((f_m_takesCouple_27 f n t G f28 arr = Sum.inl (j, H, f28, har) ∧ a = 0 ∧ b = G 19 ∧ p = H 15 ∧ (G 15).toInt ≤ p.toInt ∧ p.toInt ≤ (G 14).toInt ∧ CF ga har c.toInt (G 21).toInt ∧ (∀ i : Nat, (i : Int) < 5 * c.toInt → ga i = brr i ∧ har i = arr i)) ∨ (f_m_takesCouple_27 f n t G f28 arr = Sum.inr (0, H, f28, har) ∧ a ≠ 0)) := by
  intro n
  induction n with
  | zero => intro m t G f28 arr brr hp hc h0 h1 h2 h3; omega
  | succ n ih =>
    intro m t G f28 arr brr hp hc h0 h1 h2 h3 h4 hA
    cases m with
    | zero => omega
    | succ m =>
      have hp0 := hp
      obtain ⟨p0, p1, p2, p3⟩ := hp
      by_cases c1 : G 21 ≤ t
      · refine ⟨0, G 19, G 15, t, G, brr, arr, fun r0 r1 r4 r5 r6 t0 t3 t4 fb fc m3 m4 => ⟨t, (G 15, brr), ?_, fun _ => rfl⟩, PQ.refl G, p3.symm, rfl, Or.inl ⟨?_, rfl, rfl, rfl, by omega, p1, ?_, fun i hi => ⟨rfl, rfl⟩⟩⟩
        · rw [f_e_readCouple_x5_22_s, if_pos c1]
        · rw [f_m_takesCouple_27_s, if_pos c1]
        · rw [i_le] at c1
          have : t.toInt = (G 21).toInt := by omega
          rw [← this]
          exact hA
      · have d1 : t.toInt < (G 21).toInt := by
          rw [i_le] at c1
          omega
        have et := i_a1 (a := t) (by omega) (by omega)
        obtain ⟨x1, x2⟩ := i_mul5 (c := c) (t := t) hc0 hc5 h0 (by omega)
        have ex : (5 * c + t).toNatClampNeg = (c * 5 + t).toNatClampNeg := by rw [i_clamp, i_clamp, x1, x2]
        -- what follows a number that was read from state G1 (place p0')
        have key : ∀ (G1 : Nat → Int32), PS G1 → PQ G G1 → G1 19 = G 19 → (G 15).toInt ≤ (G1 15).toInt → ∃ (r v a0 b0 p0 : Int32) (u : Nat → Int32) (a b p j : Int32) (H ga har : Nat → Int32), f_m_takesNumber G1 f 0 9 = (r, u) ∧ (∀ r5 r6, f_e_number_x5 0 (G 19) (G 14) (G1 15) r5 r6 f 0 9 = (v, a0, b0, p0)) ∧ (∀ r0 r1 r4 r5 r6 t0 t3 t4 fb fc m3 m4, ∃ p' ga', f_e_readCouple_x5_22 r0 r1 (G 14) r4 r5 r6 f t0 (G 21) c t3 t4 fb fc m (t + 1) a0 b0 p0 m3 m4 (putF 30 brr ((c * 5) + t) v) = (p', a, b, ga'.1, m3, m4, ga'.2) ∧ (a = 0 → ga' = (p, ga))) ∧ PQ G H ∧ a = H 18 ∧ b = H 19 ∧ (((if r = 0 then (Sum.inr (0, u, f28, arr)) else (f_m_takesCouple_27 f n (t + 1) u f28 (upd arr (((5 * (u 23)) + t) : Int32).toNatClampNeg (u 17)))) = Sum.inl (j, H, f28, har) ∧ a = 0 ∧ b = G 19 ∧ p = H 15 ∧ (G 15).toInt ≤ p.toInt ∧ p.toInt ≤ (G 14).toInt ∧ CF ga har c.toInt (G 21).toInt ∧ (∀ i : Nat, (i : Int) < 5 * c.toInt → ga i = brr i ∧ har i = arr i)) ∨ ((if r = 0 then (Sum.inr (0, u, f28, arr)) else (f_m_takesCouple_27 f n (t + 1) u f28 (upd arr (((5 * (u 23)) + t) : Int32).toNatClampNeg (u 17)))) = Sum.inr (0, H, f28, har) ∧ a ≠ 0)) := by
          intro G1 hp1 hq1 h19 h15
          obtain ⟨r, v, a, b, p, H, n1, n2, n3, n4, n5, n6⟩ := number_eq (f := f) (lo := 0) (hi := 9) hp1
          have g14 : G1 14 = G 14 := hq1 14 (by decide)
          rw [g14, h19] at n2
          rcases n6 with ⟨rfl, rfl, rfl, rfl, rfl, l1, l2, l3, l4⟩ | ⟨rfl, ha⟩
          · have g23 : H 23 = c := (n3 23 (by decide)).trans ((hq1 23 (by decide)).trans hc)
            have g21 : H 21 = G 21 := (n3 21 (by decide)).trans (hq1 21 (by decide))
            have k14 : H 14 = G 14 := (n3 14 (by decide)).trans g14
            have k19 : H 19 = G 19 := by rw [← n5]; exact h19
            have hput : putF 30 brr ((c * 5) + t) (H 17) = upd brr (5 * c + t).toNatClampNeg (H 17) := by
              rw [put_in (by omega) (by omega), ex]
            obtain ⟨a, b, p, j, K, ga, har, m1, m2, m3, m4, m5⟩ := ih m (t + 1) H f28 (upd arr (5 * c + t).toNatClampNeg (H 17)) (upd brr (5 * c + t).toNatClampNeg (H 17)) ⟨by rw [g14] at l4; omega, by rw [k14]; rw [g14] at l4; exact l4, by rw [k14]; exact p2, n4.symm⟩ g23 (by omega) (by rw [g21]; omega) (by rw [g21]; omega) (by rw [g21]; omega) (by rw [g21]; omega) (by rw [et]; exact CF_snoc hA x1 (by omega) l1 l2)
            refine ⟨1, H 17, 0, G1 19, H 15, H, a, b, p, j, K, ga, har, n1, n2, fun r0 r1 r4 r5 r6 t0 t3 t4 fb fc m3' m4' => ?_, hq1.trans (n3.trans m2), m3, m4, ?_⟩
            · obtain ⟨p', ga', y1, y2⟩ := m1 r0 r1 r4 r5 r6 t0 t3 t4 fb fc m3' m4'
              rw [k14, g21, k19] at y1
              refine ⟨p', ga', ?_, y2⟩
              rw [hput, h19, y1]
            · rw [if_neg (by decide), g23]
              rcases m5 with ⟨y1, y2, y3, y4, y5, y6, y7, y8⟩ | q
              · rw [k19] at y3
                rw [k14] at y6
                rw [g21] at y7
                refine Or.inl ⟨y1, y2, y3, y4, by omega, y6, y7, fun i hi => ?_⟩
                obtain ⟨z1, z2⟩ := y8 i hi
                rw [pk_un (by rw [i_clamp]; omega)] at z1 z2
                exact ⟨z1, z2⟩
              · exact Or.inr q
          · refine ⟨0, v, a, b, p, H, a, b, p, 0, H, brr, arr, n1, n2, fun r0 r1 r4 r5 r6 t0 t3 t4 fb fc m3' m4' => ?_, hq1.trans n3, n4, n5, Or.inr ⟨if_pos rfl, ha⟩⟩
            obtain ⟨j, p', ga', y⟩ := cp_off (r0 := r0) (r1 := r1) (r3 := G 14) (r4 := r4) (r5 := r5) (r6 := r6) (t0 := t0) (t1 := G 21) (t2 := c) (t3 := t3) (t4 := t4) (f := f) (fb := fb) (fc := fc) m (t + 1) a b p m3' m4' (putF 30 brr ((c * 5) + t) v) ha
            exact ⟨j, (p', ga'), y, fun q => absurd q ha⟩
        by_cases c2 : t ≤ 0
        · obtain ⟨r, v, a0, b0, p0, u, a, b, p, j, H, ga, har, k1, k2, m1, m2, m3, m4, m5⟩ := key G hp0 (PQ.refl G) rfl (by omega)
          refine ⟨a, b, p, j, H, ga, har, fun r0 r1 r4 r5 r6 t0 t3 t4 fb fc m3' m4' => ?_, m2, m3, m4, ?_⟩
          · rw [f_e_readCouple_x5_22_s, if_neg c1, if_pos c2, k2]
            exact m1 r0 r1 r4 r5 r6 t0 t3 t4 fb fc m3' m4'
          · rw [f_m_takesCouple_27_s, if_neg c1, if_pos c2, k1]
            exact m5
        · obtain ⟨r, a, b, z, H, x1, x2, x3, x4, x5, x6⟩ := expect_eq (G := G) (f := f) (c := 44) (p := G 15) hp0 (by decide) (Or.inl rfl)
          rw [f_m_takesCouple_27_s, if_neg c1, if_neg c2, x1]
          dsimp only
          rcases x6 with ⟨rfl, rfl, rfl, rfl, w5, w6⟩ | ⟨rfl, ha⟩
          · rw [if_neg (by decide)]
            have k14 : H 14 = G 14 := x3 14 (by decide)
            obtain ⟨r, v, a0, b0, p0, u, a, b, p, j, K, ga, har, k1, k2, m1, m2, m3, m4, m5⟩ := key H ⟨by omega, by rw [k14]; exact w6, by rw [k14]; exact p2, x4.symm⟩ x3 x5.symm (by omega)
            rw [k1]
            dsimp only
            refine ⟨a, b, p, j, K, ga, har, fun r0 r1 r4 r5 r6 t0 t3 t4 fb fc m3' m4' => ?_, m2, m3, m4, m5⟩
            rw [f_e_readCouple_x5_22_s, if_neg c1, if_neg c2, x2]
            dsimp only
            rw [k2]
            exact m1 r0 r1 r4 r5 r6 t0 t3 t4 fb fc m3' m4'
          · rw [if_pos rfl]
            refine ⟨a, b, z, 0, H, brr, arr, fun r0 r1 r4 r5 r6 t0 t3 t4 fb fc m3' m4' => ?_, x3, x4, x5, Or.inr ⟨rfl, ha⟩⟩
            rw [f_e_readCouple_x5_22_s, if_neg c1, if_neg c2, x2]
            dsimp only
            rw [number_off ha]
            dsimp only
            obtain ⟨j, p', ga', y⟩ := cp_off (r0 := r0) (r1 := r1) (r3 := G 14) (r4 := r4) (r5 := r5) (r6 := r6) (t0 := t0) (t1 := G 21) (t2 := c) (t3 := t3) (t4 := t4) (f := f) (fb := fb) (fc := fc) m (t + 1) a b z m3' m4' (putF 30 brr ((c * 5) + t) 0) ha
            exact ⟨j, (p', ga'), y, fun q => absurd q ha⟩
/-- the sign behind a clause -/
theorem finish_eq {f H : Nat → Int32} {L a1 b1 z1 r : Int32} (hL : H 14 = L) (ha : a1 = H 18) (hb : b1 = H 19) (h : (r = 1 ∧ a1 = 0 ∧ z1 = H 15 ∧ 0 ≤ z1.toInt ∧ z1.toInt ≤ L.toInt ∧ L.toInt ≤ 240) ∨ (r = 0 ∧ a1 ≠ 0)) : ∃ (r' a b z : Int32) (K : Nat → Int32), thenS f r H = (r', K) ∧ (∀ r5 r6, f_e_expect_x5 a1 b1 L z1 r5 r6 f 59 = (a, b, z)) ∧ PQ H K ∧ a = K 18 ∧ b = K 19 ∧ ((r' = 1 ∧ a = 0 ∧ a1 = 0 ∧ b = b1 ∧ r = 1 ∧ z = K 15 ∧ (H 15).toInt < z.toInt ∧ z.toInt ≤ L.toInt) ∨ (r' = 0 ∧ a ≠ 0)) := by
  rcases h with ⟨rfl, h1, h2, h3, h4, h5⟩ | ⟨rfl, h1⟩
  · obtain ⟨r, a, b, z, K, x1, x2, x3, x4, x5, x6⟩ := expect_eq (G := H) (f := f) (c := 59) (p := z1) ⟨by rw [← h2]; exact h3, by rw [← h2, hL]; exact h4, by rw [hL]; exact h5, by rw [← ha]; exact h1⟩ (by decide) (Or.inl h2)
    rw [hL, ← hb] at x2
    refine ⟨r, a, b, z, K, thenS_1 x1 ?_, fun r5 r6 => by rw [h1]; exact x2 r5 r6, x3, x4, x5, ?_⟩
    · rcases x6 with q | q
      · exact Or.inl q.1
      · exact Or.inr q.1
    · rcases x6 with ⟨w1, w2, w3, w4, w5, w6⟩ | q
      · rw [hL] at w6
        exact Or.inl ⟨w1, w2, h1, w3.trans hb.symm, rfl, w4, w5, w6⟩
      · exact Or.inr q
  · exact ⟨0, a1, b1, z1, H, thenS_0, fun r5 r6 => expect_off h1, PQ.refl H, ha, hb, Or.inr ⟨rfl, h1⟩⟩
end
section
/-! one clause, side by side -/
theorem thenS_x {α : Type} {X : α} {f H K : Nat → Int32} {r r' : Int32} (h : thenS f r H = (r', K)) : (if r = 0 then ((0 : Int32), H, X) else (match f_m_takes H f 59 with | (r_17, u_16) => (if r_17 = 0 then ((0 : Int32), u_16, X) else ((1 : Int32), u_16, X)))) = (r', K, X) := by
  unfold thenS at h
  by_cases c : r = 0
  · rw [if_pos c] at h ⊢
    cases h
    rfl
  · rw [if_neg c] at h ⊢
    cases q : f_m_takes H f 59 with
    | mk x y =>
      rw [q] at h
      dsimp only at h ⊢
      by_cases d : x = 0
      · rw [if_pos d] at h ⊢
        cases h
        rfl
      · rw [if_neg d] at h ⊢
        cases h
        rfl
theorem couple_eq {G f f28 f29 ftb ftc : Nat → Int32} (r5 r6 t0 t3 t4 : Int32) (hp : PS G) (hc0 : 0 ≤ (G 23).toInt) (hc5 : (G 23).toInt ≤ 5) (ht0 : 0 ≤ (G 21).toInt) (ht5 : (G 21).toInt ≤ 5) (hb : AG ftb f28 (G 23).toInt 0 99) (hf : AF ftc f29 (G 23).toInt (G 21).toInt) : ∃ (r a1 b1 z1 u2 : Int32) (H h28 h29 gb gc : Nat → Int32), f_m_takesCouple G f f28 f29 = (r, H, h28, h29) ∧ f_e_readCouple_x5 0 (G 19) (G 14) (G 15) r5 r6 f t0 (G 21) (G 23) t3 t4 ftb ftc = (a1, b1, z1, u2, gb, gc) ∧ (∀ j, j < 15 ∨ 20 ≤ j → j ≠ 23 → H j = G j) ∧ a1 = H 18 ∧ b1 = H 19 ∧ ((r = 1 ∧ a1 = 0 ∧ b1 = G 19 ∧ z1 = H 15 ∧ (G 15).toInt < z1.toInt ∧ z1.toInt ≤ (G 14).toInt ∧ u2 = H 23 ∧ (H 23).toInt = (G 23).toInt + 1 ∧ AG gb h28 ((G 23).toInt + 1) 0 99 ∧ AF gc h29 ((G 23).toInt + 1) (G 21).toInt) ∨ (r = 0 ∧ a1 ≠ 0)) := by
  obtain ⟨r, v, a, b, p, H, n1, n2, n3, n4, n5, n6⟩ := number_eq (f := f) (lo := 0) (hi := 99) hp
  obtain ⟨p0, p1, p2, p3⟩ := hp
  have st : f_e_readCouple_x5 0 (G 19) (G 14) (G 15) r5 r6 f t0 (G 21) (G 23) t3 t4 ftb ftc = (match (f_e_readCouple_x5_22 0 (G 19) (G 14) (G 15) r5 r6 f t0 (G 21) (G 23) t3 t4 ftb ftc (((G 21).toInt - (0 : Int32).toInt).toNat + 1) 0 a b p (G 23) (putF 6 ftb (G 23) v) ftc) with | (w_8l3, w_8m0, w_8m1, w_8m2, w_8m3, w_8m4, w_8m5) => (w_8m0, w_8m1, w_8m2, ((G 23) + 1), w_8m4, w_8m5)) := by
    unfold f_e_readCouple_x5
    rw [n2]
  rw [st]
  unfold f_m_takesCouple
  rw [n1]
  dsimp (config := { etaStruct := .none }) only
  rcases n6 with ⟨rfl, rfl, rfl, rfl, rfl, l1, l2, l3, l4⟩ | ⟨rfl, ha⟩
  · rw [if_neg (by decide)]
    have g23 : H 23 = G 23 := n3 23 (by decide)
    have g21 : H 21 = G 21 := n3 21 (by decide)
    have g14 : H 14 = G 14 := n3 14 (by decide)
    have e23 := i_a1 (a := G 23) (by omega) (by omega)
    rw [g23]
    obtain ⟨a, b, p, j, K, ga, har, m1, m2, m3, m4, m5⟩ := cp_loop (f := f) hc0 hc5 10 (((G 21).toInt - (0 : Int32).toInt).toNat + 1) 0 H (upd f28 (G 23).toNatClampNeg (H 17)) f29 ftc ⟨by omega, by rw [g14]; exact l4, by rw [g14]; exact p2, n4.symm⟩ g23 (by decide) (by rw [g21]; exact ht0) (by rw [g21]; exact ht5) (by rw [g21, i_0]; omega) (by rw [g21, i_0]; omega) (fun i x y => by rw [i_0] at y; omega)
    obtain ⟨p', ga', y1, y2⟩ := m1 0 (G 19) (G 15) r5 r6 t0 t3 t4 ftb ftc (G 23) (putF 6 ftb (G 23) (H 17))
    rw [g14, g21, ← n5] at y1
    rw [y1]
    dsimp (config := { etaStruct := .none }) only
    have kq : ∀ j, j < 15 ∨ 20 ≤ j → j ≠ 23 → K j = G j := fun j hj _ => (m2 j hj).trans (n3 j hj)
    rcases m5 with ⟨x1, x2, x3, x4, x5, x6, x7, x8⟩ | ⟨x1, x2⟩
    · have hga := y2 x2
      rw [x1]
      dsimp (config := { etaStruct := .none }) only
      have k23 : K 23 = G 23 := (m2 23 (by decide)).trans g23
      rw [k23]
      refine ⟨1, a, b, ga'.1, G 23 + 1, upd K 23 (G 23 + 1), _, har, putF 6 ftb (G 23) (H 17), ga'.2, rfl, rfl, fun j hj hn => (pk_un hn).trans (kq j hj hn), ?_, ?_, Or.inl ⟨rfl, x2, ?_, ?_, ?_, ?_, ?_, ?_, ?_, ?_⟩⟩
      · rw [pk_un (by decide)]
        exact m3
      · rw [pk_un (by decide)]
        exact m4
      · rw [x3, ← n5]
      · rw [hga, pk_un (by decide)]
        exact x4
      · rw [hga]
        dsimp (config := { etaStruct := .none }) only
        omega
      · rw [hga]
        dsimp (config := { etaStruct := .none }) only
        rw [g14] at x6
        exact x6
      · rw [pk_us]
      · rw [pk_us, e23]
      · exact AG_snoc hb hc0 (by omega) l1 l2
      · rw [hga]
        dsimp (config := { etaStruct := .none }) only
        intro c t h1 h2
        rw [g21] at x7
        by_cases q : (c : Int) < (G 23).toInt
        · obtain ⟨z1, z2⟩ := x8 (5 * c + t) (by omega)
          rw [z1, z2]
          exact hf c t q h2
        · exact x7 (5 * c + t) (by omega) (by omega)
    · rw [x1]
      dsimp (config := { etaStruct := .none }) only
      exact ⟨0, a, b, ga'.1, G 23 + 1, K, _, har, putF 6 ftb (G 23) (H 17), ga'.2, rfl, rfl, kq, m3, m4, Or.inr ⟨rfl, x2⟩⟩
  · rw [if_pos rfl]
    obtain ⟨j, p', ga', y⟩ := cp_off (r0 := 0) (r1 := G 19) (r3 := G 14) (r4 := G 15) (r5 := r5) (r6 := r6) (t0 := t0) (t1 := G 21) (t2 := G 23) (t3 := t3) (t4 := t4) (f := f) (fb := ftb) (fc := ftc) (((G 21).toInt - (0 : Int32).toInt).toNat + 1) 0 a b p (G 23) (putF 6 ftb (G 23) v) ftc ha
    rw [y]
    dsimp (config := { etaStruct := .none }) only
    exact ⟨0, a, b, p', G 23 + 1, H, f28, f29, _, ga', rfl, rfl, fun j hj _ => n3 j hj, n4, n5, Or.inr ⟨rfl, ha⟩⟩
theorem barge_eq {G f f30 f31 ftd fte : Nat → Int32} (r5 r6 t1 t2 t4 : Int32) (hp : PS G) (hc0 : 0 ≤ (G 24).toInt) (hc5 : (G 24).toInt ≤ 6) (h20 : 1 ≤ (G 20).toInt) (h26 : (G 20).toInt ≤ 6) (hb : AG ftd f30 (G 24).toInt 0 ((G 20).toInt - 1)) (hf : AG fte f31 (G 24).toInt 1 300) : ∃ (r a1 b1 z1 u3 : Int32) (H h30 h31 gd ge : Nat → Int32), f_m_takesBarge G f f30 f31 = (r, H, h30, h31) ∧ f_e_readBarge_x5 0 (G 19) (G 14) (G 15) r5 r6 f (G 20) t1 t2 (G 24) t4 ftd fte = (a1, b1, z1, u3, gd, ge) ∧ (∀ j, j < 15 ∨ 20 ≤ j → j ≠ 24 → H j = G j) ∧ a1 = H 18 ∧ b1 = H 19 ∧ ((r = 1 ∧ a1 = 0 ∧ b1 = G 19 ∧ z1 = H 15 ∧ (G 15).toInt < z1.toInt ∧ z1.toInt ≤ (G 14).toInt ∧ u3 = H 24 ∧ (H 24).toInt = (G 24).toInt + 1 ∧ AG gd h30 ((G 24).toInt + 1) 0 ((G 20).toInt - 1) ∧ AG ge h31 ((G 24).toInt + 1) 1 300) ∨ (r = 0 ∧ a1 ≠ 0)) := by
  obtain ⟨r, v, a, b, p, H, n1, n2, n3, n4, n5, n6⟩ := number_eq (f := f) (lo := 0) (hi := G 20 - 1) hp
  obtain ⟨p0, p1, p2, p3⟩ := hp
  have es := i_sub (a := G 20) (b := 1) (by rw [i_1]; omega) (by rw [i_1]; omega)
  rw [i_1] at es
  unfold f_e_readBarge_x5 f_m_takesBarge
  rw [n1, n2]
  dsimp (config := { etaStruct := .none }) only
  rcases n6 with ⟨rfl, rfl, rfl, rfl, rfl, l1, l2, l3, l4⟩ | ⟨rfl, ha⟩
  · rw [if_neg (by decide)]
    have g24 : H 24 = G 24 := n3 24 (by decide)
    have g14 : H 14 = G 14 := n3 14 (by decide)
    have e24 := i_a1 (a := G 24) (by omega) (by omega)
    obtain ⟨r, v, a, b, p, K, m1, m2, m3, m4, m5, m6⟩ := number_eq (G := H) (f := f) (lo := 1) (hi := 300) ⟨by omega, by rw [g14]; exact l4, by rw [g14]; exact p2, n4.symm⟩
    rw [g14, ← n5] at m2
    rw [m1, m2]
    dsimp (config := { etaStruct := .none }) only
    have k24 : K 24 = G 24 := (m3 24 (by decide)).trans g24
    have kq : ∀ j, j < 15 ∨ 20 ≤ j → j ≠ 24 → K j = G j := fun j hj _ => (m3 j hj).trans (n3 j hj)
    rcases m6 with ⟨rfl, rfl, rfl, rfl, rfl, y1, y2, y3, y4⟩ | ⟨rfl, ha⟩
    · rw [if_neg (by decide), k24, g24]
      refine ⟨1, 0, H 19, K 15, G 24 + 1, upd K 24 (G 24 + 1), _, _, _, _, rfl, rfl, fun j hj hn => (pk_un hn).trans (kq j hj hn), ?_, ?_, Or.inl ⟨rfl, rfl, n5.symm, ?_, by omega, by rw [g14] at y4; exact y4, ?_, ?_, ?_, ?_⟩⟩
      · rw [pk_un (by decide)]
        exact m4
      · rw [pk_un (by decide)]
        exact m5
      · rw [pk_un (by decide)]
      · rw [pk_us]
      · rw [pk_us, e24]
      · exact AG_snoc hb hc0 (by omega) l1 (by rw [es] at l2; exact l2)
      · exact AG_snoc hf hc0 (by omega) y1 y2
    · rw [if_pos rfl]
      exact ⟨0, a, b, p, G 24 + 1, K, _, _, _, _, rfl, rfl, kq, m4, m5, Or.inr ⟨rfl, ha⟩⟩
  · rw [if_pos rfl, number_off ha]
    dsimp (config := { etaStruct := .none }) only
    exact ⟨0, a, b, p, G 24 + 1, H, _, _, _, _, rfl, rfl, fun j hj _ => n3 j hj, n4, n5, Or.inr ⟨rfl, ha⟩⟩
/-- what has been read, alike -/
def PB (G fta ftb ftc ftd fte f27 f28 f29 f30 f31 : Nat → Int32) : Prop := (0 ≤ (G 20).toInt ∧ (G 20).toInt ≤ 6) ∧ (1 ≤ (G 21).toInt ∧ (G 21).toInt ≤ 5) ∧ (0 ≤ (G 23).toInt ∧ (G 23).toInt ≤ 6) ∧ (0 ≤ (G 24).toInt ∧ (G 24).toInt ≤ 7) ∧ (0 ≤ (G 25).toInt ∧ (G 25).toInt ≤ 1) ∧ ((G 20).toInt = 0 → (G 23).toInt = 0 ∧ (G 24).toInt = 0) ∧ AG fta f27 (G 20).toInt 1 60 ∧ AG ftb f28 (G 23).toInt 0 99 ∧ AF ftc f29 (G 23).toInt (G 21).toInt ∧ AG ftd f30 (G 24).toInt 0 ((G 20).toInt - 1) ∧ AG fte f31 (G 24).toInt 1 300
def CQ (G H : Nat → Int32) : Prop := ∀ j, j < 15 ∨ 27 ≤ j → H j = G j
def CLQ (G f fta ftb ftc ftd fte f27 f28 f29 f30 f31 : Nat → Int32) : Prop := ∃ (r a b z s5 s6 u0 u1 u2 u3 u4 : Int32) (H h27 h28 h29 h30 h31 ga gb gc gd ge : Nat → Int32), f_m_takesClause G f f27 f28 f29 f30 f31 = (r, H, h27, h28, h29, h30, h31) ∧ f_e_readClause_x5 0 (G 19) (G 14) (G 15) (G 22) (G 26) f (G 20) (G 21) (G 23) (G 24) (G 25) fta ftb ftc ftd fte = (a, b, z, s5, s6, u0, u1, u2, u3, u4, ga, gb, gc, gd, ge) ∧ CQ G H ∧ a = H 18 ∧ b = H 19 ∧ ((r = 1 ∧ a = 0 ∧ b = G 19 ∧ z = H 15 ∧ (G 15).toInt < z.toInt ∧ z.toInt ≤ (G 14).toInt ∧ s5 = H 22 ∧ s6 = H 26 ∧ u0 = H 20 ∧ u1 = H 21 ∧ u2 = H 23 ∧ u3 = H 24 ∧ u4 = H 25 ∧ PB H ga gb gc gd ge h27 h28 h29 h30 h31) ∨ (r = 0 ∧ a ≠ 0))
set_option maxHeartbeats 20000000 in
theorem clause_eq {G f fta ftb ftc ftd fte f27 f28 f29 f30 f31 : Nat → Int32} (hp : PS G) (hB : PB G fta ftb ftc ftd fte f27 f28 f29 f30 f31) : CLQ G f fta ftb ftc ftd fte f27 f28 f29 f30 f31 := by
  obtain ⟨p0, p1, p2, p3⟩ := hp
  obtain ⟨k, k0, k1, k2, km, ke⟩ := here_spec (f := f) p0 p1 p2
  have u15 : (upd (upd G 15 k) 16 k) 15 = k := by rw [pk_un (by decide), pk_us]
  have u16 : (upd (upd G 15 k) 16 k) 16 = k := by rw [pk_us]
  have uq : PQ G (upd (upd G 15 k) 16 k) := PQ_upd (PQ_upd (PQ.refl G) (by decide) (by decide)) (by decide) (by decide)
  have u18 : (upd (upd G 15 k) 16 k) 18 = 0 := by rw [pk_un (by decide), pk_un (by decide)]; exact p3
  have u19 : (upd (upd G 15 k) 16 k) 19 = G 19 := by rw [pk_un (by decide), pk_un (by decide)]
  generalize upd (upd G 15 k) 16 k = U at km u15 u16 uq u18 u19
  have u14 := uq 14 (by decide)
  have u20 := uq 20 (by decide)
  have u21 := uq 21 (by decide)
  have u22 := uq 22 (by decide)
  have u23 := uq 23 (by decide)
  have u24 := uq 24 (by decide)
  have u25 := uq 25 (by decide)
  have u26 := uq 26 (by decide)
  have bad : ∀ w : Int32, w ≠ 0 → f_m_takesClause G f f27 f28 f29 f30 f31 = (0, upd (upd U 18 w) 19 k, f27, f28, f29, f30, f31) → f_e_readClause_x5 0 (G 19) (G 14) (G 15) (G 22) (G 26) f (G 20) (G 21) (G 23) (G 24) (G 25) fta ftb ftc ftd fte = (w, k, k, G 22, G 26, G 20, G 21, G 23, G 24, G 25, fta, ftb, ftc, ftd, fte) → CLQ G f fta ftb ftc ftd fte f27 f28 f29 f30 f31 := by
    intro w hw e1 e2
    refine ⟨0, w, k, k, _, _, _, _, _, _, _, _, _, _, _, _, _, _, _, _, _, _, e1, e2, ?_, ?_, ?_, Or.inr ⟨rfl, hw⟩⟩
    · exact fun j hj => (pk_un (by omega)).trans ((pk_un (by omega)).trans (uq j (by omega)))
    · rw [pk_un (by decide), pk_us]
    · rw [pk_us]
  obtain ⟨⟨b1, b2⟩, ⟨b3, b4⟩, ⟨b5, b6⟩, ⟨b7, b8⟩, ⟨b9, b10⟩, b11, b12, b13, b14, b15, b16⟩ := hB
  have l0 : G 20 ≤ 0 ↔ G 20 = 0 := by
    rw [i_le, i_eq, i_0]
    omega
  -- the reader behind the word
  have word : ∀ c : Int32, c ≠ -1 → ltr (G 14) f k = c → PS (upd U 15 (k + 1)) ∧ (upd U 15 (k + 1)) 15 = k + 1 ∧ (k + 1).toInt = k.toInt + 1 ∧ PQ G (upd U 15 (k + 1)) ∧ (upd U 15 (k + 1)) 19 = G 19 := by
    intro c hc e
    have hlt := ltr_lt e hc
    have e1 := i_a1 (a := k) (by omega) (by omega)
    refine ⟨⟨by rw [pk_us]; omega, by rw [pk_us, pk_un (by decide), u14]; omega, by rw [pk_un (by decide), u14]; exact p2, by rw [pk_un (by decide)]; exact u18⟩, pk_us, e1, PQ_upd uq (by decide) (by decide), ?_⟩
    rw [pk_un (by decide)]
    exact u19
  by_cases c98 : ltr (G 14) f k = 98
  · by_cases z20 : G 20 = 0
    · obtain ⟨w1, w2, w3, w4, w5⟩ := word 98 (by decide) c98
      have w14 := w4 14 (by decide)
      have w20 : (upd U 15 (k + 1)) 20 = 0 := (w4 20 (by decide)).trans z20
      generalize hW : upd U 15 (k + 1) = W at w1 w2 w4 w5 w14 w20
      obtain ⟨r, rb, a, b, z, a1, b1, z1, v0, Hb, H, h27, ga, m1, m2, m3, m4, m5, m6, m7, m8⟩ := bridges_eq (f := f) (arr := f27) (brr := fta) w1 w20
      rw [w14, w2, w5] at m3
      rw [w14] at m4
      have hm : f_m_takesClause G f f27 f28 f29 f30 f31 = (r, H, h27, f28, f29, f30, f31) := by
        unfold f_m_takesClause
        rw [km]
        dsimp (config := { etaStruct := .none }) only
        rw [if_pos c98, u20, if_pos (l0.mpr z20), u15, hW, m1]
        exact thenS_x m2
      have he : f_e_readClause_x5 0 (G 19) (G 14) (G 15) (G 22) (G 26) f (G 20) (G 21) (G 23) (G 24) (G 25) fta ftb ftc ftd fte = (a, b, z, G 22, G 26, v0, G 21, G 23, G 24, G 25, ga, ftb, ftc, ftd, fte) := by
        have t1 : f_e_isTooOften_x5 0 (G 19) (G 14) k (G 22) (G 26) (G 20) (G 21) (G 23) (G 24) (G 25) 98 = 0 := by
          unfold f_e_isTooOften_x5
          rw [if_pos rfl, if_pos (l0.mpr z20)]
        unfold f_e_readClause_x5
        rw [ke]
        dsimp (config := { etaStruct := .none }) only
        rw [if_pos c98, if_pos z20, if_pos t1, m3]
        dsimp (config := { etaStruct := .none }) only
        rw [m4]
      have hq : CQ G H := fun j hj => (m5 j (by omega)).trans (w4 j (by omega))
      refine ⟨r, a, b, z, _, _, _, _, _, _, _, H, _, _, _, _, _, _, _, _, _, _, hm, he, hq, m6, m7, ?_⟩
      rcases m8 with ⟨x1, x2, x3, x4, x5, x6, x7, x8, x9, x10⟩ | q
      · have q21 : H 21 = G 21 := (m5 21 (by decide)).trans (w4 21 (by decide))
        have q22 : H 22 = G 22 := (m5 22 (by decide)).trans (w4 22 (by decide))
        have q23 : H 23 = G 23 := (m5 23 (by decide)).trans (w4 23 (by decide))
        have q24 : H 24 = G 24 := (m5 24 (by decide)).trans (w4 24 (by decide))
        have q25 : H 25 = G 25 := (m5 25 (by decide)).trans (w4 25 (by decide))
        have q26 : H 26 = G 26 := (m5 26 (by decide)).trans (w4 26 (by decide))
        have z0 := b11 (by rw [z20, i_0])
        rw [w5] at x3
        rw [w2] at x5
        rw [w14] at x6
        refine Or.inl ⟨x1, x2, x3, x4, by omega, x6, q22.symm, q26.symm, x7, q21.symm, q23.symm, q24.symm, q25.symm, ?_⟩
        unfold PB
        rw [← x7, q21, q23, q24, q25]
        exact ⟨⟨by omega, x9⟩, ⟨b3, b4⟩, ⟨b5, b6⟩, ⟨b7, b8⟩, ⟨b9, b10⟩, fun _ => z0, x10, b13, b14, fun j hj => by rw [z0.2] at hj; omega, b16⟩
      · exact Or.inr q
    · refine bad 3 (by decide) ?_ ?_
      · unfold f_m_takesClause
        rw [km]
        dsimp (config := { etaStruct := .none }) only
        rw [if_pos c98, u20, if_neg (fun q => z20 (l0.mp q)), u16]
        rfl
      · have t1 : ¬ f_e_isTooOften_x5 0 (G 19) (G 14) k (G 22) (G 26) (G 20) (G 21) (G 23) (G 24) (G 25) 98 = 0 := by
          unfold f_e_isTooOften_x5
          rw [if_pos rfl, if_neg (fun q => z20 (l0.mp q))]
          decide
        unfold f_e_readClause_x5
        rw [ke]
        dsimp (config := { etaStruct := .none }) only
        rw [if_pos c98, if_neg z20, if_neg t1]
        rfl
  · by_cases z20 : G 20 = 0
    · refine bad 1 (by decide) ?_ ?_
      · unfold f_m_takesClause
        rw [km]
        dsimp (config := { etaStruct := .none }) only
        rw [if_neg c98, u20, if_pos (l0.mpr z20), u16]
        rfl
      · unfold f_e_readClause_x5
        rw [ke]
        dsimp (config := { etaStruct := .none }) only
        rw [if_neg c98]
        by_cases c116 : ltr (G 14) f k = 116
        · rw [if_pos c116, if_pos z20]
          rfl
        · rw [if_neg c116]
          by_cases c99 : ltr (G 14) f k = 99
          · rw [if_pos c99, if_pos z20]
            rfl
          · rw [if_neg c99]
            by_cases c118 : ltr (G 14) f k = 118
            · rw [if_pos c118, if_pos z20]
              rfl
            · rw [if_neg c118]
              by_cases c115 : ltr (G 14) f k = 115
              · rw [if_pos c115, if_pos z20]
                rfl
              · rw [if_neg c115]
                rfl
    · have n20 : ¬ U 20 ≤ 0 := by
        rw [u20]
        exact fun q => z20 (l0.mp q)
      have one20 : 1 ≤ (G 20).toInt := by
        rw [i_eq, i_0] at z20
        omega
      have b15' := b15
      by_cases c116 : ltr (G 14) f k = 116
      · have t0 : f_e_isTooOften_x5 0 (G 19) (G 14) k (G 22) (G 26) (G 20) (G 21) (G 23) (G 24) (G 25) 116 = (if G 22 = 0 then (if G 23 ≤ 0 then 0 else 1) else 1) := by
          unfold f_e_isTooOften_x5
          rw [if_neg (by decide), if_neg (by decide), if_pos rfl]
        by_cases z22 : G 22 = 0
        · by_cases z23 : G 23 ≤ 0
          · obtain ⟨w1, w2, w3, w4, w5⟩ := word 116 (by decide) c116
            have w14 := w4 14 (by decide)
            generalize hW : upd U 15 (k + 1) = W at w1 w2 w4 w5 w14
            have w1' : PS (upd W 22 1) := ⟨by rw [pk_un (by decide)]; exact w1.1, by rw [pk_un (by decide), pk_un (by decide)]; exact w1.2.1, by rw [pk_un (by decide)]; exact w1.2.2.1, by rw [pk_un (by decide)]; exact w1.2.2.2⟩
            have v14 : (upd W 22 1) 14 = G 14 := by rw [pk_un (by decide)]; exact w14
            have v15 : (upd W 22 1) 15 = k + 1 := by rw [pk_un (by decide)]; exact w2
            have v19 : (upd W 22 1) 19 = G 19 := by rw [pk_un (by decide)]; exact w5
            have v22 : (upd W 22 1) 22 = 1 := pk_us
            have vq : ∀ j, j < 15 ∨ 20 ≤ j → j ≠ 22 → (upd W 22 1) j = G j := fun j hj hn => (pk_un hn).trans (w4 j hj)
            generalize hV : upd W 22 1 = V at w1' v14 v15 v19 v22 vq
            obtain ⟨r, v, a, b, p, H, n1, n2, n3, n4, n5, n6⟩ := number_eq (f := f) (lo := 1) (hi := 5) w1'
            rw [v14, v15, v19] at n2
            have tm : ∃ rt K, f_m_takesThemes W f = (rt, K) ∧ ((rt = 1 ∧ r = 1 ∧ K = upd H 21 (H 17)) ∨ (rt = 0 ∧ r = 0 ∧ K = H)) := by
              unfold f_m_takesThemes
              rw [hV, n1]
              dsimp (config := { etaStruct := .none }) only
              rcases n6 with q | q
              · rw [if_neg (by rw [q.1]; decide)]
                exact ⟨1, _, rfl, Or.inl ⟨rfl, q.1, rfl⟩⟩
              · rw [if_pos q.1]
                exact ⟨0, _, rfl, Or.inr ⟨rfl, q.1, rfl⟩⟩
            obtain ⟨rt, K, y1, y2⟩ := tm
            have fk : K 14 = G 14 ∧ K 18 = H 18 ∧ K 19 = H 19 ∧ K 15 = H 15 := by
              have hh14 : H 14 = G 14 := (n3 14 (by decide)).trans v14
              rcases y2 with ⟨_, _, rfl⟩ | ⟨_, _, rfl⟩
              · exact ⟨by rw [pk_un (by decide)]; exact hh14, by rw [pk_un (by decide)], by rw [pk_un (by decide)], by rw [pk_un (by decide)]⟩
              · exact ⟨hh14, rfl, rfl, rfl⟩
            obtain ⟨r', a', b', z', K', g1, g2, g3, g4, g5, g6⟩ := finish_eq (f := f) (H := K) (L := G 14) (a1 := a) (b1 := b) (z1 := p) (r := rt) fk.1 (by rw [fk.2.1]; exact n4) (by rw [fk.2.2.1]; exact n5) (by
              rcases n6 with ⟨q1, q2, q3, q4, q5, q6, q7, q8, q9⟩ | ⟨q1, q2⟩
              · rcases y2 with ⟨e1, e2, e3⟩ | ⟨e1, e2, e3⟩
                · rw [v15] at q8
                  rw [v14] at q9
                  exact Or.inl ⟨e1, q2, by rw [fk.2.2.2]; exact q4, by omega, q9, p2⟩
                · rw [q1] at e2
                  exact absurd e2 (by decide)
              · rcases y2 with ⟨e1, e2, e3⟩ | ⟨e1, e2, e3⟩
                · rw [q1] at e2
                  exact absurd e2 (by decide)
                · exact Or.inr ⟨e1, q2⟩)
            have hm : f_m_takesClause G f f27 f28 f29 f30 f31 = (r', K', f27, f28, f29, f30, f31) := by
              unfold f_m_takesClause
              rw [km]
              dsimp (config := { etaStruct := .none }) only
              rw [if_neg c98, if_neg n20, if_pos c116, u22, if_pos z22, u23, if_pos z23, u15, hW, y1]
              exact thenS_x g1
            have he : f_e_readClause_x5 0 (G 19) (G 14) (G 15) (G 22) (G 26) f (G 20) (G 21) (G 23) (G 24) (G 25) fta ftb ftc ftd fte = (a', b', z', 1, G 26, G 20, v, G 23, G 24, G 25, fta, ftb, ftc, ftd, fte) := by
              unfold f_e_readClause_x5
              rw [ke]
              dsimp (config := { etaStruct := .none }) only
              rw [if_neg c98, if_pos c116, if_neg z20, t0, if_pos z22, if_pos z23, if_pos rfl, n2]
              dsimp (config := { etaStruct := .none }) only
              rw [g2]
            have kq : ∀ j, j < 15 ∨ 20 ≤ j → j ≠ 21 → j ≠ 22 → K' j = G j := by
              intro j hj h1 h2
              rw [g3 j hj]
              rcases y2 with ⟨_, _, rfl⟩ | ⟨_, _, rfl⟩
              · rw [pk_un h1, n3 j hj, vq j hj h2]
              · rw [n3 j hj, vq j hj h2]
            refine ⟨r', a', b', z', _, _, _, _, _, _, _, K', _, _, _, _, _, _, _, _, _, _, hm, he, fun j hj => kq j (by omega) (by omega) (by omega), g4, g5, ?_⟩
            rcases g6 with ⟨x1, x2, x3, x4, x5, x6, x7, x8⟩ | q
            · rcases n6 with ⟨q1, q2, q3, q4, q5, q6, q7, q8, q9⟩ | ⟨q1, q2⟩
              · rcases y2 with ⟨e1, e2, e3⟩ | ⟨e1, e2, e3⟩
                · have k21 : K' 21 = v := by rw [g3 21 (by decide), e3, pk_us, q5]
                  have k22 : K' 22 = 1 := by rw [g3 22 (by decide), e3, pk_un (by decide), n3 22 (by decide), v22]
                  have k20 := kq 20 (by decide) (by decide) (by decide)
                  have k23 := kq 23 (by decide) (by decide) (by decide)
                  have k24 := kq 24 (by decide) (by decide) (by decide)
                  have k25 := kq 25 (by decide) (by decide) (by decide)
                  have k26 := kq 26 (by decide) (by decide) (by decide)
                  rw [v15] at q8
                  rw [fk.2.2.2, ← q4] at x7
                  rw [i_le, i_0] at z23
                  refine Or.inl ⟨x1, x2, by rw [x4, q3, v19], x6, by omega, x8, k22.symm, k26.symm, k20.symm, k21.symm, k23.symm, k24.symm, k25.symm, ?_⟩
                  unfold PB
                  rw [k20, k21, k23, k24, k25]
                  exact ⟨⟨b1, b2⟩, ⟨q6, q7⟩, ⟨b5, b6⟩, ⟨b7, b8⟩, ⟨b9, b10⟩, b11, b12, b13, fun c t hc _ => by omega, b15, b16⟩
                · rw [q1] at e2
                  exact absurd e2 (by decide)
              · exact absurd x3 q2
            · exact Or.inr q
          · refine bad 3 (by decide) ?_ ?_
            · unfold f_m_takesClause
              rw [km]
              dsimp (config := { etaStruct := .none }) only
              rw [if_neg c98, if_neg n20, if_pos c116, u22, if_pos z22, u23, if_neg z23, u16]
              rfl
            · unfold f_e_readClause_x5
              rw [ke]
              dsimp (config := { etaStruct := .none }) only
              rw [if_neg c98, if_pos c116, if_neg z20, t0, if_pos z22, if_neg z23, if_neg (by decide)]
              rfl
        · refine bad 3 (by decide) ?_ ?_
          · unfold f_m_takesClause
            rw [km]
            dsimp (config := { etaStruct := .none }) only
            rw [if_neg c98, if_neg n20, if_pos c116, u22, if_neg z22, u16]
            rfl
          · unfold f_e_readClause_x5
            rw [ke]
            dsimp (config := { etaStruct := .none }) only
            rw [if_neg c98, if_pos c116, if_neg z20, t0, if_neg z22, if_neg (by decide)]
            rfl
      · by_cases c99 : ltr (G 14) f k = 99
        · have t0 : f_e_isTooOften_x5 0 (G 19) (G 14) k (G 22) (G 26) (G 20) (G 21) (G 23) (G 24) (G 25) 99 = (if G 23 < 6 then 0 else 1) := by
            unfold f_e_isTooOften_x5
            rw [if_neg (by decide), if_pos rfl]
          by_cases z23 : G 23 = 6
          · have z23' : ¬ G 23 < 6 := by rw [z23]; decide
            refine bad 3 (by decide) ?_ ?_
            · unfold f_m_takesClause
              rw [km]
              dsimp (config := { etaStruct := .none }) only
              rw [if_neg c98, if_neg n20, if_neg c116, if_pos c99, u23, if_pos z23, u16]
              rfl
            · unfold f_e_readClause_x5
              rw [ke]
              dsimp (config := { etaStruct := .none }) only
              rw [if_neg c98, if_neg c116, if_pos c99, if_neg z20, t0, if_neg z23', if_neg (by decide)]
              rfl
          · have z23' : G 23 < 6 := by
              rw [i_eq] at z23
              rw [i_lt]
              simp only [Int32.reduceToInt] at z23 ⊢
              omega
            have z23i : (G 23).toInt ≤ 5 := by
              rw [i_lt] at z23'
              simp only [Int32.reduceToInt] at z23'
              omega
            obtain ⟨w1, w2, w3, w4, w5⟩ := word 99 (by decide) c99
            have w14 := w4 14 (by decide)
            have w21 := w4 21 (by decide)
            have w23 := w4 23 (by decide)
            generalize hW : upd U 15 (k + 1) = W at w1 w2 w4 w5 w14 w21 w23
            obtain ⟨r, a1, b1', z1, v2, H, h28, h29, gb, gc, y1, y2, y3, y4, y5, y6⟩ := couple_eq (f := f) (f28 := f28) (f29 := f29) (ftb := ftb) (ftc := ftc) (G 22) (G 26) (G 20) (G 24) (G 25) w1 (by rw [w23]; exact b5) (by rw [w23]; exact z23i) (by rw [w21]; omega) (by rw [w21]; exact b4) (by rw [w23]; exact b13) (by rw [w23, w21]; exact b14)
            rw [w14, w2, w5, w21, w23] at y2
            have h14 : H 14 = G 14 := (y3 14 (by decide) (by decide)).trans w14
            obtain ⟨r', a', b', z', K', g1, g2, g3, g4, g5, g6⟩ := finish_eq (f := f) (H := H) (L := G 14) (a1 := a1) (b1 := b1') (z1 := z1) (r := r) h14 y4 y5 (by
              rcases y6 with ⟨q1, q2, q3, q4, q5, q6, q7⟩ | q
              · rw [w2] at q5
                rw [w14] at q6
                exact Or.inl ⟨q1, q2, q4, by omega, q6, p2⟩
              · exact Or.inr q)
            have hm : f_m_takesClause G f f27 f28 f29 f30 f31 = (r', K', f27, h28, h29, f30, f31) := by
              unfold f_m_takesClause
              rw [km]
              dsimp (config := { etaStruct := .none }) only
              rw [if_neg c98, if_neg n20, if_neg c116, if_pos c99, u23, if_neg z23, u15, hW, y1]
              exact thenS_x g1
            have he : f_e_readClause_x5 0 (G 19) (G 14) (G 15) (G 22) (G 26) f (G 20) (G 21) (G 23) (G 24) (G 25) fta ftb ftc ftd fte = (a', b', z', G 22, G 26, G 20, G 21, v2, G 24, G 25, fta, gb, gc, ftd, fte) := by
              unfold f_e_readClause_x5
              rw [ke]
              dsimp (config := { etaStruct := .none }) only
              rw [if_neg c98, if_neg c116, if_pos c99, if_neg z20, t0, if_pos z23', if_pos rfl, y2]
              dsimp (config := { etaStruct := .none }) only
              rw [g2]
            have kq : ∀ j, j < 15 ∨ 20 ≤ j → j ≠ 23 → K' j = G j := fun j hj hn => (g3 j hj).trans ((y3 j hj hn).trans (w4 j hj))
            refine ⟨r', a', b', z', _, _, _, _, _, _, _, K', _, _, _, _, _, _, _, _, _, _, hm, he, fun j hj => kq j (by omega) (by omega), g4, g5, ?_⟩
            rcases g6 with ⟨x1, x2, x3, x4, x5, x6, x7, x8⟩ | q
            · rcases y6 with ⟨q1, q2, q3, q4, q5, q6, q7, q8, q9, q10⟩ | ⟨q1, q2⟩
              · have k23 : K' 23 = H 23 := g3 23 (by decide)
                have k20 := kq 20 (by decide) (by decide)
                have k21 := kq 21 (by decide) (by decide)
                have k22 := kq 22 (by decide) (by decide)
                have k24 := kq 24 (by decide) (by decide)
                have k25 := kq 25 (by decide) (by decide)
                have k26 := kq 26 (by decide) (by decide)
                rw [w2] at q5
                rw [← q4] at x7
                refine Or.inl ⟨x1, x2, by rw [x4, q3, w5], x6, by omega, x8, k22.symm, k26.symm, k20.symm, k21.symm, by rw [k23]; exact q7, k24.symm, k25.symm, ?_⟩
                rw [w23] at q8 q9 q10
                rw [w21] at q10
                unfold PB
                rw [k20, k21, k23, k24, k25, q8]
                exact ⟨⟨b1, b2⟩, ⟨b3, b4⟩, ⟨by omega, by omega⟩, ⟨b7, b8⟩, ⟨b9, b10⟩, fun q => by omega, b12, q9, q10, b15, b16⟩
              · exact absurd x3 q2
            · exact Or.inr q
        · by_cases c118 : ltr (G 14) f k = 118
          · have t0 : f_e_isTooOften_x5 0 (G 19) (G 14) k (G 22) (G 26) (G 20) (G 21) (G 23) (G 24) (G 25) 118 = (if G 24 < 7 then 0 else 1) := by
              unfold f_e_isTooOften_x5
              rw [if_neg (by decide), if_neg (by decide), if_neg (by decide), if_pos rfl]
            by_cases z24 : G 24 = 7
            · have z24' : ¬ G 24 < 7 := by rw [z24]; decide
              refine bad 3 (by decide) ?_ ?_
              · unfold f_m_takesClause
                rw [km]
                dsimp (config := { etaStruct := .none }) only
                rw [if_neg c98, if_neg n20, if_neg c116, if_neg c99, if_pos c118, u24, if_pos z24, u16]
                rfl
              · unfold f_e_readClause_x5
                rw [ke]
                dsimp (config := { etaStruct := .none }) only
                rw [if_neg c98, if_neg c116, if_neg c99, if_pos c118, if_neg z20, t0, if_neg z24', if_neg (by decide)]
                rfl
            · have z24' : G 24 < 7 := by
                rw [i_eq] at z24
                rw [i_lt]
                simp only [Int32.reduceToInt] at z24 ⊢
                omega
              have z24i : (G 24).toInt ≤ 6 := by
                rw [i_lt] at z24'
                simp only [Int32.reduceToInt] at z24'
                omega
              obtain ⟨w1, w2, w3, w4, w5⟩ := word 118 (by decide) c118
              have w14 := w4 14 (by decide)
              have w20 := w4 20 (by decide)
              have w24 := w4 24 (by decide)
              generalize hW : upd U 15 (k + 1) = W at w1 w2 w4 w5 w14 w20 w24
              obtain ⟨r, a1, b1', z1, v3, H, h30, h31, gd, ge, y1, y2, y3, y4, y5, y6⟩ := barge_eq (f := f) (f30 := f30) (f31 := f31) (ftd := ftd) (fte := fte) (G 22) (G 26) (G 21) (G 23) (G 25) w1 (by rw [w24]; exact b7) (by rw [w24]; exact z24i) (by rw [w20]; exact one20) (by rw [w20]; exact b2) (by rw [w24, w20]; exact b15) (by rw [w24]; exact b16)
              rw [w14, w2, w5, w20, w24] at y2
              have h14 : H 14 = G 14 := (y3 14 (by decide) (by decide)).trans w14
              obtain ⟨r', a', b', z', K', g1, g2, g3, g4, g5, g6⟩ := finish_eq (f := f) (H := H) (L := G 14) (a1 := a1) (b1 := b1') (z1 := z1) (r := r) h14 y4 y5 (by
                rcases y6 with ⟨q1, q2, q3, q4, q5, q6, q7⟩ | q
                · rw [w2] at q5
                  rw [w14] at q6
                  exact Or.inl ⟨q1, q2, q4, by omega, q6, p2⟩
                · exact Or.inr q)
              have hm : f_m_takesClause G f f27 f28 f29 f30 f31 = (r', K', f27, f28, f29, h30, h31) := by
                unfold f_m_takesClause
                rw [km]
                dsimp (config := { etaStruct := .none }) only
                rw [if_neg c98, if_neg n20, if_neg c116, if_neg c99, if_pos c118, u24, if_neg z24, u15, hW, y1]
                exact thenS_x g1
              have he : f_e_readClause_x5 0 (G 19) (G 14) (G 15) (G 22) (G 26) f (G 20) (G 21) (G 23) (G 24) (G 25) fta ftb ftc ftd fte = (a', b', z', G 22, G 26, G 20, G 21, G 23, v3, G 25, fta, ftb, ftc, gd, ge) := by
                unfold f_e_readClause_x5
                rw [ke]
                dsimp (config := { etaStruct := .none }) only
                rw [if_neg c98, if_neg c116, if_neg c99, if_pos c118, if_neg z20, t0, if_pos z24', if_pos rfl, y2]
                dsimp (config := { etaStruct := .none }) only
                rw [g2]
              have kq : ∀ j, j < 15 ∨ 20 ≤ j → j ≠ 24 → K' j = G j := fun j hj hn => (g3 j hj).trans ((y3 j hj hn).trans (w4 j hj))
              refine ⟨r', a', b', z', _, _, _, _, _, _, _, K', _, _, _, _, _, _, _, _, _, _, hm, he, fun j hj => kq j (by omega) (by omega), g4, g5, ?_⟩
              rcases g6 with ⟨x1, x2, x3, x4, x5, x6, x7, x8⟩ | q
              · rcases y6 with ⟨q1, q2, q3, q4, q5, q6, q7, q8, q9, q10⟩ | ⟨q1, q2⟩
                · have k24 : K' 24 = H 24 := g3 24 (by decide)
                  have k20 := kq 20 (by decide) (by decide)
                  have k21 := kq 21 (by decide) (by decide)
                  have k22 := kq 22 (by decide) (by decide)
                  have k23 := kq 23 (by decide) (by decide)
                  have k25 := kq 25 (by decide) (by decide)
                  have k26 := kq 26 (by decide) (by decide)
                  rw [w2] at q5
                  rw [← q4] at x7
                  refine Or.inl ⟨x1, x2, by rw [x4, q3, w5], x6, by omega, x8, k22.symm, k26.symm, k20.symm, k21.symm, k23.symm, by rw [k24]; exact q7, k25.symm, ?_⟩
                  rw [w24] at q8 q9 q10
                  rw [w20] at q9
                  unfold PB
                  rw [k20, k21, k23, k24, k25, q8]
                  exact ⟨⟨b1, b2⟩, ⟨b3, b4⟩, ⟨b5, b6⟩, ⟨by omega, by omega⟩, ⟨b9, b10⟩, fun q => by omega, b12, b13, b14, q9, q10⟩
                · exact absurd x3 q2
              · exact Or.inr q
          · by_cases c115 : ltr (G 14) f k = 115
            · have t0 : f_e_isTooOften_x5 0 (G 19) (G 14) k (G 22) (G 26) (G 20) (G 21) (G 23) (G 24) (G 25) 115 = G 26 := by
                unfold f_e_isTooOften_x5
                rw [if_neg (by decide), if_neg (by decide), if_neg (by decide), if_neg (by decide)]
              by_cases z26 : G 26 = 0
              · obtain ⟨w1, w2, w3, w4, w5⟩ := word 115 (by decide) c115
                have w14 := w4 14 (by decide)
                generalize hW : upd U 15 (k + 1) = W at w1 w2 w4 w5 w14
                have w1' : PS (upd W 26 1) := ⟨by rw [pk_un (by decide)]; exact w1.1, by rw [pk_un (by decide), pk_un (by decide)]; exact w1.2.1, by rw [pk_un (by decide)]; exact w1.2.2.1, by rw [pk_un (by decide)]; exact w1.2.2.2⟩
                have v14 : (upd W 26 1) 14 = G 14 := by rw [pk_un (by decide)]; exact w14
                have v15 : (upd W 26 1) 15 = k + 1 := by rw [pk_un (by decide)]; exact w2
                have v19 : (upd W 26 1) 19 = G 19 := by rw [pk_un (by decide)]; exact w5
                have v26 : (upd W 26 1) 26 = 1 := pk_us
                have vq : ∀ j, j < 15 ∨ 20 ≤ j → j ≠ 26 → (upd W 26 1) j = G j := fun j hj hn => (pk_un hn).trans (w4 j hj)
                generalize hV : upd W 26 1 = V at w1' v14 v15 v19 v26 vq
                obtain ⟨r, v, a, b, p, H, n1, n2, n3, n4, n5, n6⟩ := number_eq (f := f) (lo := 0) (hi := 1) w1'
                rw [v14, v15, v19] at n2
                have tm : ∃ rt K, f_m_takesSnow W f = (rt, K) ∧ ((rt = 1 ∧ r = 1 ∧ K = upd H 25 (H 17)) ∨ (rt = 0 ∧ r = 0 ∧ K = H)) := by
                  unfold f_m_takesSnow
                  rw [hV, n1]
                  dsimp (config := { etaStruct := .none }) only
                  rcases n6 with q | q
                  · rw [if_neg (by rw [q.1]; decide)]
                    exact ⟨1, _, rfl, Or.inl ⟨rfl, q.1, rfl⟩⟩
                  · rw [if_pos q.1]
                    exact ⟨0, _, rfl, Or.inr ⟨rfl, q.1, rfl⟩⟩
                obtain ⟨rt, K, y1, y2⟩ := tm
                have fk : K 14 = G 14 ∧ K 18 = H 18 ∧ K 19 = H 19 ∧ K 15 = H 15 := by
                  have hh14 : H 14 = G 14 := (n3 14 (by decide)).trans v14
                  rcases y2 with ⟨_, _, rfl⟩ | ⟨_, _, rfl⟩
                  · exact ⟨by rw [pk_un (by decide)]; exact hh14, by rw [pk_un (by decide)], by rw [pk_un (by decide)], by rw [pk_un (by decide)]⟩
                  · exact ⟨hh14, rfl, rfl, rfl⟩
                obtain ⟨r', a', b', z', K', g1, g2, g3, g4, g5, g6⟩ := finish_eq (f := f) (H := K) (L := G 14) (a1 := a) (b1 := b) (z1 := p) (r := rt) fk.1 (by rw [fk.2.1]; exact n4) (by rw [fk.2.2.1]; exact n5) (by
                  rcases n6 with ⟨q1, q2, q3, q4, q5, q6, q7, q8, q9⟩ | ⟨q1, q2⟩
                  · rcases y2 with ⟨e1, e2, e3⟩ | ⟨e1, e2, e3⟩
                    · rw [v15] at q8
                      rw [v14] at q9
                      exact Or.inl ⟨e1, q2, by rw [fk.2.2.2]; exact q4, by omega, q9, p2⟩
                    · rw [q1] at e2
                      exact absurd e2 (by decide)
                  · rcases y2 with ⟨e1, e2, e3⟩ | ⟨e1, e2, e3⟩
                    · rw [q1] at e2
                      exact absurd e2 (by decide)
                    · exact Or.inr ⟨e1, q2⟩)
                have hm : f_m_takesClause G f f27 f28 f29 f30 f31 = (r', K', f27, f28, f29, f30, f31) := by
                  unfold f_m_takesClause
                  rw [km]
                  dsimp (config := { etaStruct := .none }) only
                  rw [if_neg c98, if_neg n20, if_neg c116, if_neg c99, if_neg c118, if_pos c115, u26, if_pos z26, u15, hW, y1]
                  exact thenS_x g1
                have he : f_e_readClause_x5 0 (G 19) (G 14) (G 15) (G 22) (G 26) f (G 20) (G 21) (G 23) (G 24) (G 25) fta ftb ftc ftd fte = (a', b', z', G 22, 1, G 20, G 21, G 23, G 24, v, fta, ftb, ftc, ftd, fte) := by
                  unfold f_e_readClause_x5
                  rw [ke]
                  dsimp (config := { etaStruct := .none }) only
                  rw [if_neg c98, if_neg c116, if_neg c99, if_neg c118, if_pos c115, if_neg z20, t0, if_pos z26, n2]
                  dsimp (config := { etaStruct := .none }) only
                  rw [g2]
                have kq : ∀ j, j < 15 ∨ 20 ≤ j → j ≠ 25 → j ≠ 26 → K' j = G j := by
                  intro j hj h1 h2
                  rw [g3 j hj]
                  rcases y2 with ⟨_, _, rfl⟩ | ⟨_, _, rfl⟩
                  · rw [pk_un h1, n3 j hj, vq j hj h2]
                  · rw [n3 j hj, vq j hj h2]
                refine ⟨r', a', b', z', _, _, _, _, _, _, _, K', _, _, _, _, _, _, _, _, _, _, hm, he, fun j hj => kq j (by omega) (by omega) (by omega), g4, g5, ?_⟩
                rcases g6 with ⟨x1, x2, x3, x4, x5, x6, x7, x8⟩ | q
                · rcases n6 with ⟨q1, q2, q3, q4, q5, q6, q7, q8, q9⟩ | ⟨q1, q2⟩
                  · rcases y2 with ⟨e1, e2, e3⟩ | ⟨e1, e2, e3⟩
                    · have k25 : K' 25 = v := by rw [g3 25 (by decide), e3, pk_us, q5]
                      have k26 : K' 26 = 1 := by rw [g3 26 (by decide), e3, pk_un (by decide), n3 26 (by decide), v26]
                      have k20 := kq 20 (by decide) (by decide) (by decide)
                      have k21 := kq 21 (by decide) (by decide) (by decide)
                      have k22 := kq 22 (by decide) (by decide) (by decide)
                      have k23 := kq 23 (by decide) (by decide) (by decide)
                      have k24 := kq 24 (by decide) (by decide) (by decide)
                      rw [v15] at q8
                      rw [fk.2.2.2, ← q4] at x7
                      refine Or.inl ⟨x1, x2, by rw [x4, q3, v19], x6, by omega, x8, k22.symm, k26.symm, k20.symm, k21.symm, k23.symm, k24.symm, k25.symm, ?_⟩
                      unfold PB
                      rw [k20, k21, k23, k24, k25]
                      exact ⟨⟨b1, b2⟩, ⟨b3, b4⟩, ⟨b5, b6⟩, ⟨b7, b8⟩, ⟨q6, q7⟩, b11, b12, b13, b14, b15, b16⟩
                    · rw [q1] at e2
                      exact absurd e2 (by decide)
                  · exact absurd x3 q2
                · exact Or.inr q
              · refine bad 3 (by decide) ?_ ?_
                · unfold f_m_takesClause
                  rw [km]
                  dsimp (config := { etaStruct := .none }) only
                  rw [if_neg c98, if_neg n20, if_neg c116, if_neg c99, if_neg c118, if_pos c115, u26, if_neg z26, u16]
                  rfl
                · unfold f_e_readClause_x5
                  rw [ke]
                  dsimp (config := { etaStruct := .none }) only
                  rw [if_neg c98, if_neg c116, if_neg c99, if_neg c118, if_pos c115, if_neg z20, t0, if_neg z26]
                  rfl
            · refine bad 1 (by decide) ?_ ?_
              · unfold f_m_takesClause
                rw [km]
                dsimp (config := { etaStruct := .none }) only
                rw [if_neg c98, if_neg n20, if_neg c116, if_neg c99, if_neg c118, if_neg c115, u16]
                rfl
              · unfold f_e_readClause_x5
                rw [ke]
                dsimp (config := { etaStruct := .none }) only
                rw [if_neg c98, if_neg c116, if_neg c99, if_neg c118, if_neg c115]
                rfl
end
section
/-! the whole text, side by side -/
theorem PB_of {G H fta ftb ftc ftd fte f27 f28 f29 f30 f31 : Nat → Int32} (q : PQ G H) (h : PB G fta ftb ftc ftd fte f27 f28 f29 f30 f31) : PB H fta ftb ftc ftd fte f27 f28 f29 f30 f31 := by
  unfold PB
  rw [q 20 (by decide), q 21 (by decide), q 23 (by decide), q 24 (by decide), q 25 (by decide)]
  exact h
theorem read_loop {f : Nat → Int32} (f0 f1 f8 f9 f10 f11 f12 : Nat → Int32) : ∀ (n m : Nat) (i : Int32) (G fta ftb ftc ftd fte f27 f28 f29 f30 f31 : Nat → Int32), PS G → PB G fta ftb ftc ftd fte f27 f28 f29 f30 f31 → 0 ≤ i.toInt → i.toInt ≤ (G 15).toInt → (G 14).toInt - (G 15).toInt + 1 < n → 240 - i.toInt < m → ∃ (rg a b z s5 s6 u0 u1 u2 u3 u4 j : Int32) (H h27 h28 h29 h30 h31 ga gb gc gd ge : Nat → Int32), f_m_town_52 f n 1 G f0 f1 f8 f9 f10 f11 f12 f27 f28 f29 f30 f31 = (rg, H, f0, f1, f8, f9, f10, f11, f12, h27, h28, h29, h30, h31) ∧ (∀ (q0 q1 q3 q4 q5 q6 d0 d1 d2 d3 d4 l : Int32) (ca cb cc cd ce : Nat → Int32), f_e_read_x5_42 q0 q1 q3 q4 q5 q6 f d0 d1 d2 d3 d4 ca cb cc cd ce l m i 0 (G 19) (G 14) (G 15) (G 22) (G 26) (G 20) (G 21) (G 23) (G 24) (G 25) fta ftb ftc ftd fte = (j, a, b, G 14, z, s5, s6, u0, u1, u2, u3, u4, ga, gb, gc, gd, ge)) ∧ CQ G H ∧ a = H 18 ∧ b = H 19 ∧ ((rg = 1 ∧ a = 0 ∧ b = G 19 ∧ u0 = H 20 ∧ u1 = H 21 ∧ u2 = H 23 ∧ u3 = H 24 ∧ u4 = H 25 ∧ PB H ga gb gc gd ge h27 h28 h29 h30 h31) ∨ (rg = 0 ∧ a ≠ 0)) := by
  intro n
  induction n with
  | zero => intro m i G fta ftb ftc ftd fte f27 f28 f29 f30 f31 hp hB h0 h1 h2; have := hp.2.1; omega
  | succ n ih =>
    intro m i G fta ftb ftc ftd fte f27 f28 f29 f30 f31 hp hB h0 h1 h2 h3
    obtain ⟨p0, p1, p2, p3⟩ := hp
    cases m with
    | zero => omega
    | succ m =>
      obtain ⟨k, k0, k1, k2, km, ke⟩ := here_spec (f := f) p0 p1 p2
      have u15 : (upd (upd G 15 k) 16 k) 15 = k := by rw [pk_un (by decide), pk_us]
      have uq : PQ G (upd (upd G 15 k) 16 k) := PQ_upd (PQ_upd (PQ.refl G) (by decide) (by decide)) (by decide) (by decide)
      have u18 : (upd (upd G 15 k) 16 k) 18 = 0 := by rw [pk_un (by decide), pk_un (by decide)]; exact p3
      have u19 : (upd (upd G 15 k) 16 k) 19 = G 19 := by rw [pk_un (by decide), pk_un (by decide)]
      generalize upd (upd G 15 k) 16 k = U at km u15 uq u18 u19
      have u14 := uq 14 (by decide)
      have u20 := uq 20 (by decide)
      have u21 := uq 21 (by decide)
      have u22 := uq 22 (by decide)
      have u23 := uq 23 (by decide)
      have u24 := uq 24 (by decide)
      have u25 := uq 25 (by decide)
      have u26 := uq 26 (by decide)
      rw [f_m_town_52_s, if_neg (by decide), km]
      dsimp (config := { etaStruct := .none }) only
      by_cases cE : ltr (G 14) f k = -1
      · rw [if_pos cE]
        have ex : ∃ z : Int32, ∀ (q0 q1 q3 q4 q5 q6 d0 d1 d2 d3 d4 l : Int32) (ca cb cc cd ce : Nat → Int32), f_e_read_x5_42 q0 q1 q3 q4 q5 q6 f d0 d1 d2 d3 d4 ca cb cc cd ce l (m + 1) i 0 (G 19) (G 14) (G 15) (G 22) (G 26) (G 20) (G 21) (G 23) (G 24) (G 25) fta ftb ftc ftd fte = (i, 0, G 19, G 14, z, G 22, G 26, G 20, G 21, G 23, G 24, G 25, fta, ftb, ftc, ftd, fte) := by
          by_cases q : 240 ≤ i
          · refine ⟨G 15, fun q0 q1 q3 q4 q5 q6 d0 d1 d2 d3 d4 l ca cb cc cd ce => ?_⟩
            rw [f_e_read_x5_42_s, if_pos q]
          · refine ⟨k, fun q0 q1 q3 q4 q5 q6 d0 d1 d2 d3 d4 l ca cb cc cd ce => ?_⟩
            rw [f_e_read_x5_42_s, if_neg q, if_pos rfl, ke]
            dsimp (config := { etaStruct := .none }) only
            rw [if_pos cE]
        obtain ⟨z, hz⟩ := ex
        exact ⟨1, 0, G 19, z, G 22, G 26, G 20, G 21, G 23, G 24, G 25, i, U, f27, f28, f29, f30, f31, fta, ftb, ftc, ftd, fte, rfl, hz, fun j hj => uq j (by omega), u18.symm, u19.symm, Or.inl ⟨rfl, rfl, rfl, u20.symm, u21.symm, u23.symm, u24.symm, u25.symm, PB_of uq hB⟩⟩
      · rw [if_neg cE]
        have hlt := ltr_lt (L := G 14) (f := f) (k := k) rfl cE
        have c1 : ¬ 240 ≤ i := by
          rw [i_le]
          simp only [Int32.reduceToInt]
          omega
        have e1 := i_a1 (a := i) (by omega) (by omega)
        obtain ⟨r, a, b, z, s5, s6, v0, v1, v2, v3, v4, H, h27, h28, h29, h30, h31, ga, gb, gc, gd, ge, y1, y2, y3, y4, y5, y6⟩ := clause_eq (f := f) (G := U) ⟨by rw [u15]; omega, by rw [u15, u14]; exact k1, by rw [u14]; exact p2, u18⟩ (PB_of uq hB)
        rw [u14, u15, u19, u20, u21, u22, u23, u24, u25, u26] at y2
        rw [y1]
        dsimp (config := { etaStruct := .none }) only
        have st : ∀ (q0 q1 q3 q4 q5 q6 d0 d1 d2 d3 d4 l : Int32) (ca cb cc cd ce : Nat → Int32), f_e_read_x5_42 q0 q1 q3 q4 q5 q6 f d0 d1 d2 d3 d4 ca cb cc cd ce l (m + 1) i 0 (G 19) (G 14) (G 15) (G 22) (G 26) (G 20) (G 21) (G 23) (G 24) (G 25) fta ftb ftc ftd fte = f_e_read_x5_42 q0 q1 q3 q4 q5 q6 f d0 d1 d2 d3 d4 ca cb cc cd ce l m (i + 1) a b (G 14) z s5 s6 v0 v1 v2 v3 v4 ga gb gc gd ge := by
          intro q0 q1 q3 q4 q5 q6 d0 d1 d2 d3 d4 l ca cb cc cd ce
          rw [f_e_read_x5_42_s, if_neg c1, if_pos rfl, ke]
          dsimp (config := { etaStruct := .none }) only
          rw [if_neg cE, y2]
        have h14 : H 14 = G 14 := (y3 14 (by decide)).trans u14
        rcases y6 with ⟨rfl, rfl, x3, rfl, x5, x6, rfl, rfl, rfl, rfl, rfl, rfl, rfl, hB'⟩ | ⟨rfl, ha⟩
        · rw [u15] at x5
          rw [u14] at x6
          rw [u19] at x3
          obtain ⟨rg, a, b', z, s5, s6, w0, w1, w2, w3, w4, j, K, k27, k28, k29, k30, k31, ea, eb, ec, ed, ee, m1, m2, m3, m4, m5, m6⟩ := ih m (i + 1) H ga gb gc gd ge h27 h28 h29 h30 h31 ⟨by omega, by rw [h14]; exact x6, by rw [h14]; exact p2, y4.symm⟩ hB' (by omega) (by omega) (by rw [h14]; omega) (by omega)
          refine ⟨rg, a, b', z, s5, s6, w0, w1, w2, w3, w4, j, K, k27, k28, k29, k30, k31, ea, eb, ec, ed, ee, m1, fun q0 q1 q3 q4 q5 q6 d0 d1 d2 d3 d4 l ca cb cc cd ce => ?_, fun j hj => (m3 j hj).trans ((y3 j hj).trans (uq j (by omega))), m4, m5, ?_⟩
          · have := m2 q0 q1 q3 q4 q5 q6 d0 d1 d2 d3 d4 l ca cb cc cd ce
            rw [h14, ← y5] at this
            rw [st, this]
          · rcases m6 with ⟨z1, z2, z3, z4⟩ | q
            · rw [← y5, x3] at z3
              exact Or.inl ⟨z1, z2, z3, z4⟩
            · exact Or.inr q
        · refine ⟨0, a, b, z, s5, s6, v0, v1, v2, v3, v4, i + 1, H, h27, h28, h29, h30, h31, ga, gb, gc, gd, ge, ?_, fun q0 q1 q3 q4 q5 q6 d0 d1 d2 d3 d4 l ca cb cc cd ce => ?_, fun j hj => (y3 j hj).trans (uq j (by omega)), y4, y5, Or.inr ⟨rfl, ha⟩⟩
          · cases n with
            | zero => omega
            | succ n => rw [f_m_town_52_s, if_pos rfl]
          · rw [st]
            cases m with
            | zero => rfl
            | succ m =>
              rw [f_e_read_x5_42_s]
              by_cases q : 240 ≤ i + 1
              · rw [if_pos q]
              · rw [if_neg q, if_neg ha]
/-- the reference, as it begins to read -/
def G0r (G : Nat → Int32) : Nat → Int32 := upd (upd (upd (upd (upd (upd (upd (upd (upd (upd G 15 0) 18 0) 19 (-1)) 20 0) 21 1) 22 0) 23 0) 24 0) 25 0) 26 0
theorem G0r_off {G : Nat → Int32} (j : Nat) (h : j < 15 ∨ 27 ≤ j) : G0r G j = G j := by
  unfold G0r
  rw [pk_un (by omega), pk_un (by omega), pk_un (by omega), pk_un (by omega), pk_un (by omega), pk_un (by omega), pk_un (by omega), pk_un (by omega), pk_un (by omega), pk_un (by omega)]
theorem read_eq {G f fta ftb ftc ftd fte : Nat → Int32} (f0 f1 f8 f9 f10 f11 f12 f27 f28 f29 f30 f31 : Nat → Int32) (h0 : 0 ≤ (G 14).toInt) (h1 : (G 14).toInt ≤ 240) : ∃ (rg a b z s5 s6 u0 u1 u2 u3 u4 : Int32) (H h27 h28 h29 h30 h31 ga gb gc gd ge : Nat → Int32), f_m_town_52 f 300 1 (G0r G) f0 f1 f8 f9 f10 f11 f12 f27 f28 f29 f30 f31 = (rg, H, f0, f1, f8, f9, f10, f11, f12, h27, h28, h29, h30, h31) ∧ (∀ (q0 q1 q3 q4 q5 q6 d0 d1 d2 d3 d4 : Int32), f_e_read_x5 q0 q1 q3 q4 q5 q6 f d0 d1 d2 d3 d4 fta ftb ftc ftd fte (G 14) = (a, b, G 14, z, s5, s6, u0, u1, u2, u3, u4, ga, gb, gc, gd, ge)) ∧ CQ G H ∧ a = H 18 ∧ b = H 19 ∧ ((rg = 1 ∧ a = 0 ∧ b = -1 ∧ u0 = H 20 ∧ u1 = H 21 ∧ u2 = H 23 ∧ u3 = H 24 ∧ u4 = H 25 ∧ PB H ga gb gc gd ge h27 h28 h29 h30 h31) ∨ (rg = 0 ∧ a ≠ 0)) := by
  have g14 : G0r G 14 = G 14 := G0r_off 14 (by decide)
  have g15 : G0r G 15 = 0 := by
    unfold G0r
    rw [pk_un (by decide), pk_un (by decide), pk_un (by decide), pk_un (by decide), pk_un (by decide), pk_un (by decide), pk_un (by decide), pk_un (by decide), pk_un (by decide), pk_us]
  have g18 : G0r G 18 = 0 := by
    unfold G0r
    rw [pk_un (by decide), pk_un (by decide), pk_un (by decide), pk_un (by decide), pk_un (by decide), pk_un (by decide), pk_un (by decide), pk_un (by decide), pk_us]
  have g19 : G0r G 19 = -1 := by
    unfold G0r
    rw [pk_un (by decide), pk_un (by decide), pk_un (by decide), pk_un (by decide), pk_un (by decide), pk_un (by decide), pk_un (by decide), pk_us]
  have g20 : G0r G 20 = 0 := by
    unfold G0r
    rw [pk_un (by decide), pk_un (by decide), pk_un (by decide), pk_un (by decide), pk_un (by decide), pk_un (by decide), pk_us]
  have g21 : G0r G 21 = 1 := by
    unfold G0r
    rw [pk_un (by decide), pk_un (by decide), pk_un (by decide), pk_un (by decide), pk_un (by decide), pk_us]
  have g22 : G0r G 22 = 0 := by
    unfold G0r
    rw [pk_un (by decide), pk_un (by decide), pk_un (by decide), pk_un (by decide), pk_us]
  have g23 : G0r G 23 = 0 := by
    unfold G0r
    rw [pk_un (by decide), pk_un (by decide), pk_un (by decide), pk_us]
  have g24 : G0r G 24 = 0 := by
    unfold G0r
    rw [pk_un (by decide), pk_un (by decide), pk_us]
  have g25 : G0r G 25 = 0 := by
    unfold G0r
    rw [pk_un (by decide), pk_us]
  have g26 : G0r G 26 = 0 := by
    unfold G0r
    rw [pk_us]
  have go : ∀ j, j < 15 ∨ 27 ≤ j → G0r G j = G j := fun j hj => G0r_off j hj
  generalize G0r G = Z at g14 g15 g18 g19 g20 g21 g22 g23 g24 g25 g26 go
  have nil : ∀ (x y : Nat → Int32) (lo hi : Int), AG x y 0 lo hi := fun x y lo hi k hk => absurd hk (by omega)
  have hB : PB Z fta ftb ftc ftd fte f27 f28 f29 f30 f31 := by
    unfold PB
    rw [g20, g21, g23, g24, g25]
    exact ⟨by decide, by decide, by decide, by decide, by decide, fun _ => by decide, nil _ _ _ _, nil _ _ _ _, fun c t hc _ => absurd hc (by rw [i_0]; omega), nil _ _ _ _, nil _ _ _ _⟩
  obtain ⟨rg, a, b, z, s5, s6, u0, u1, u2, u3, u4, j, H, h27, h28, h29, h30, h31, ga, gb, gc, gd, ge, m1, m2, m3, m4, m5, m6⟩ := read_loop (f := f) f0 f1 f8 f9 f10 f11 f12 300 241 0 Z fta ftb ftc ftd fte f27 f28 f29 f30 f31 ⟨by rw [g15]; decide, by rw [g15, g14, i_0]; exact h0, by rw [g14]; exact h1, g18⟩ hB (by decide) (by rw [g15]; decide) (by rw [g14, g15, i_0]; omega) (by rw [i_0]; omega)
  refine ⟨rg, a, b, z, s5, s6, u0, u1, u2, u3, u4, H, h27, h28, h29, h30, h31, ga, gb, gc, gd, ge, m1, fun q0 q1 q3 q4 q5 q6 d0 d1 d2 d3 d4 => ?_, fun j hj => (m3 j hj).trans (go j hj), m4, m5, ?_⟩
  · have := m2 q0 q1 q3 q4 q5 q6 d0 d1 d2 d3 d4 (G 14) fta ftb ftc ftd fte
    rw [g14, g15, g19, g20, g21, g22, g23, g24, g25, g26] at this
    unfold f_e_read_x5 f_e_clear_x8
    have e : ((240 : Int32).toInt - (0 : Int32).toInt).toNat + 1 = 241 := rfl
    dsimp (config := { etaStruct := .none }) only
    rw [e, this]
  · rw [g19] at m6
    exact m6
theorem cp131 : ∀ (n : Nat) (i : Int32) (m0 m1 m2 m3 m4 m5 m6 m7 m8 m9 m10 m11 m12 : Nat → Int32), 0 ≤ i.toInt → i.toInt ≤ 6 → 6 - i.toInt < n → (∀ k : Nat, (k : Int) < i.toInt → m3 k = m8 k ∧ m4 k = m9 k) → ∃ (j : Int32) (g3 g4 : Nat → Int32), f_m_town_131 n i m0 m1 m2 m3 m4 m5 m6 m7 m8 m9 m10 m11 m12 = (j, m0, m1, m2, g3, g4, m5, m6, m7, m8, m9, m10, m11, m12) ∧ ∀ k : Nat, k < 6 → g3 k = m8 k ∧ g4 k = m9 k := by
  intro n
  induction n with
  | zero => intro i m0 m1 m2 m3 m4 m5 m6 m7 m8 m9 m10 m11 m12 h0 h1 h2; omega
  | succ n ih =>
    intro i m0 m1 m2 m3 m4 m5 m6 m7 m8 m9 m10 m11 m12 h0 h1 h2 h3
    rw [f_m_town_131_s]
    by_cases c : 6 ≤ i
    · rw [if_pos c]
      simp only [i_le, Int32.reduceToInt] at c
      exact ⟨i, m3, m4, rfl, fun k hk => h3 k (by omega)⟩
    · rw [if_neg c]
      simp only [i_le, Int32.reduceToInt] at c
      have e := i_a1 (a := i) (by omega) (by omega)
      refine ih (i + 1) m0 m1 m2 _ _ m5 m6 m7 m8 m9 m10 m11 m12 (by omega) (by omega) (by omega) (fun k hk => ?_)
      by_cases q : k = i.toNatClampNeg
      · subst q
        rw [pk_us, pk_us]
        exact ⟨rfl, rfl⟩
      · rw [pk_un q, pk_un q]
        refine h3 k ?_
        rw [i_clamp] at q
        omega
theorem cp169 : ∀ (n : Nat) (i : Int32) (m0 m1 m2 m3 m4 m5 m6 m7 m8 m9 m10 m11 m12 : Nat → Int32), 0 ≤ i.toInt → i.toInt ≤ 30 → 30 - i.toInt < n → (∀ k : Nat, (k : Int) < i.toInt → m5 k = m10 k) → ∃ (j : Int32) (g5 : Nat → Int32), f_m_town_169 n i m0 m1 m2 m3 m4 m5 m6 m7 m8 m9 m10 m11 m12 = (j, m0, m1, m2, m3, m4, g5, m6, m7, m8, m9, m10, m11, m12) ∧ ∀ k : Nat, k < 30 → g5 k = m10 k := by
  intro n
  induction n with
  | zero => intro i m0 m1 m2 m3 m4 m5 m6 m7 m8 m9 m10 m11 m12 h0 h1 h2; omega
  | succ n ih =>
    intro i m0 m1 m2 m3 m4 m5 m6 m7 m8 m9 m10 m11 m12 h0 h1 h2 h3
    rw [f_m_town_169_s]
    by_cases c : 30 ≤ i
    · rw [if_pos c]
      simp only [i_le, Int32.reduceToInt] at c
      exact ⟨i, m5, rfl, fun k hk => h3 k (by omega)⟩
    · rw [if_neg c]
      simp only [i_le, Int32.reduceToInt] at c
      have e := i_a1 (a := i) (by omega) (by omega)
      refine ih (i + 1) m0 m1 m2 m3 m4 _ m6 m7 m8 m9 m10 m11 m12 (by omega) (by omega) (by omega) (fun k hk => ?_)
      by_cases q : k = i.toNatClampNeg
      · subst q
        rw [pk_us]
      · rw [pk_un q]
        refine h3 k ?_
        rw [i_clamp] at q
        omega
theorem cp195 : ∀ (n : Nat) (i : Int32) (m0 m1 m2 m3 m4 m5 m6 m7 m8 m9 m10 m11 m12 : Nat → Int32), 0 ≤ i.toInt → i.toInt ≤ 7 → 7 - i.toInt < n → (∀ k : Nat, (k : Int) < i.toInt → m6 k = m11 k ∧ m7 k = m12 k) → ∃ (j : Int32) (g6 g7 : Nat → Int32), f_m_town_195 n i m0 m1 m2 m3 m4 m5 m6 m7 m8 m9 m10 m11 m12 = (j, m0, m1, m2, m3, m4, m5, g6, g7, m8, m9, m10, m11, m12) ∧ ∀ k : Nat, k < 7 → g6 k = m11 k ∧ g7 k = m12 k := by
  intro n
  induction n with
  | zero => intro i m0 m1 m2 m3 m4 m5 m6 m7 m8 m9 m10 m11 m12 h0 h1 h2; omega
  | succ n ih =>
    intro i m0 m1 m2 m3 m4 m5 m6 m7 m8 m9 m10 m11 m12 h0 h1 h2 h3
    rw [f_m_town_195_s]
    by_cases c : 7 ≤ i
    · rw [if_pos c]
      simp only [i_le, Int32.reduceToInt] at c
      exact ⟨i, m6, m7, rfl, fun k hk => h3 k (by omega)⟩
    · rw [if_neg c]
      simp only [i_le, Int32.reduceToInt] at c
      have e := i_a1 (a := i) (by omega) (by omega)
      refine ih (i + 1) m0 m1 m2 m3 m4 m5 _ _ m8 m9 m10 m11 m12 (by omega) (by omega) (by omega) (fun k hk => ?_)
      by_cases q : k = i.toNatClampNeg
      · subst q
        rw [pk_us, pk_us]
        exact ⟨rfl, rfl⟩
      · rw [pk_un q, pk_un q]
        refine h3 k ?_
        rw [i_clamp] at q
        omega
end
