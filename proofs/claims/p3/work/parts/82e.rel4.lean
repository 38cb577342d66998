/-! the whole text, side by side -/
theorem PB_of {G H fta ftb ftc ftd fte f27 f28 f29 f30 f31 : Nat → Int32} (q : PQ G H) (h : PB G fta ftb ftc ftd fte f27 f28 f29 f30 f31) : PB H fta ftb ftc ftd fte f27 f28 f29 f30 f31 := by
  unfold PB
  rw [q 20 (by decide), q 21 (by decide), q 23 (by decide), q 24 (by decide), q 25 (by decide)]
  exact h
theorem read_loop {f : Nat → Int32} (f0 f1 f8 f9 f10 f11 f12 : Nat → Int32) : ∀ (n m : Nat) (i : Int32) (G fta ftb ftc ftd fte f27 f28 f29 f30 f31 : Nat → Int32), PS G → PB G fta ftb ftc ftd fte f27 f28 f29 f30 f31 → 0 ≤ i.toInt → i.toInt ≤ (G 15).toInt → (G 14).toInt - (G 15).toInt + 1 < n → 240 - i.toInt < m → ∃ (rg a b z s5 s6 u0 u1 u2 u3 u4 j : Int32) (H h27 h28 h29 h30 h31 ga gb gc gd ge : Nat → Int32), f_m_town_52 f n 1 G f0 f1 f8 f9 f10 f11 f12 f27 f28 f29 f30 f31 = (rg, H, f0, f1, f8, f9, f10, f11, f12, h27, h28, h29, h30, h31) ∧ (∀ (q0 q1 q3 q4 q5 q6 d0 d1 d2 d3 d4 l : Int32) (ca cb cc cd ce : Nat → Int32), f_e_read_x5_42 q0 q1 q3 q4 q5 q6 f d0 d1 d2 d3 d4 ca cb cc cd ce l m i 0 (G 19) (G 14) (G 15) (G 22) (G 26) (G 20) (G 21) (G 23) (G 24) (G 25) fta ftb ftc ftd fte = (j, a, b, G 14, z, s5, s6, u0, u1, u2, u3, u4, ga, gb, gc, gd, ge)) ∧ CQ G H ∧ a = H 18 ∧ b = H 19 ∧ ((rg = 1 ∧ a = 0 ∧ b = G 19 ∧ u0 = H 20 ∧ u1 = H 21 ∧ u2 = H 23 ∧ u3 = H 24 ∧ u4 = H 25 ∧ PB H ga gb gc gd ge h27 h28 h29 h30 h31) ∨ (rg = 0 ∧ a ≠ 0)) := by
  intro n
  induction n with
  | zero => intro m i G fta ftb ftc ftd fte f27 f28 f29 f30 f31 hp hB h0 h1 h2; have := hp.2.1; omega
  | succ n ih =>
    intro m i G fta ftb ftc ftd fte f27 f28 f29 f30 f31 hp hB h0 h1 h2 h3
    obtain ⟨p0, p1, p2, p3⟩ := hp
    cases m with
    | zero => omega
    | succ m =>
      obtain ⟨k, k0, k1, k2, km, ke⟩ := here_spec (f := f) p0 p1 p2
      have u15 : (upd (upd G 15 k) 16 k) 15 = k := by rw [pk_un (by decide), pk_us]
      have uq : PQ G (upd (upd G 15 k) 16 k) := PQ_upd (PQ_upd (PQ.refl G) (by decide) (by decide)) (by decide) (by decide)
      have u18 : (upd (upd G 15 k) 16 k) 18 = 0 := by rw [pk_un (by decide), pk_un (by decide)]; exact p3
      have u19 : (upd (upd G 15 k) 16 k) 19 = G 19 := by rw [pk_un (by decide), pk_un (by decide)]
      generalize upd (upd G 15 k) 16 k = U at km u15 uq u18 u19
      have u14 := uq 14 (by decide)
      have u20 := uq 20 (by decide)
      have u21 := uq 21 (by decide)
      have u22 := uq 22 (by decide)
      have u23 := uq 23 (by decide)
      have u24 := uq 24 (by decide)
      have u25 := uq 25 (by decide)
      have u26 := uq 26 (by decide)
      rw [f_m_town_52_s, if_neg (by decide), km]
      dsimp (config := { etaStruct := .none }) only
      by_cases cE : ltr (G 14) f k = -1
      · rw [if_pos cE]
        have ex : ∃ z : Int32, ∀ (q0 q1 q3 q4 q5 q6 d0 d1 d2 d3 d4 l : Int32) (ca cb cc cd ce : Nat → Int32), f_e_read_x5_42 q0 q1 q3 q4 q5 q6 f d0 d1 d2 d3 d4 ca cb cc cd ce l (m + 1) i 0 (G 19) (G 14) (G 15) (G 22) (G 26) (G 20) (G 21) (G 23) (G 24) (G 25) fta ftb ftc ftd fte = (i, 0, G 19, G 14, z, G 22, G 26, G 20, G 21, G 23, G 24, G 25, fta, ftb, ftc, ftd, fte) := by
          by_cases q : 240 ≤ i
          · refine ⟨G 15, fun q0 q1 q3 q4 q5 q6 d0 d1 d2 d3 d4 l ca cb cc cd ce => ?_⟩
            rw [f_e_read_x5_42_s, if_pos q]
          · refine ⟨k, fun q0 q1 q3 q4 q5 q6 d0 d1 d2 d3 d4 l ca cb cc cd ce => ?_⟩
            rw [f_e_read_x5_42_s, if_neg q, if_pos rfl, ke]
            dsimp (config := { etaStruct := .none }) only
            rw [if_pos cE]
        obtain ⟨z, hz⟩ := ex
        exact ⟨1, 0, G 19, z, G 22, G 26, G 20, G 21, G 23, G 24, G 25, i, U, f27, f28, f29, f30, f31, fta, ftb, ftc, ftd, fte, rfl, hz, fun j hj => uq j (by omega), u18.symm, u19.symm, Or.inl ⟨rfl, rfl, rfl, u20.symm, u21.symm, u23.symm, u24.symm, u25.symm, PB_of uq hB⟩⟩
      · rw [if_neg cE]
        have hlt := ltr_lt (L := G 14) (f := f) (k := k) rfl cE
        have c1 : ¬ 240 ≤ i := by
          rw [i_le]
          simp only [Int32.reduceToInt]
          omega
        have e1 := i_a1 (a := i) (by omega) (by omega)
        obtain ⟨r, a, b, z, s5, s6, v0, v1, v2, v3, v4, H, h27, h28, h29, h30, h31, ga, gb, gc, gd, ge, y1, y2, y3, y4, y5, y6⟩ := clause_eq (f := f) (G := U) ⟨by rw [u15]; omega, by rw [u15, u14]; exact k1, by rw [u14]; exact p2, u18⟩ (PB_of uq hB)
        rw [u14, u15, u19, u20, u21, u22, u23, u24, u25, u26] at y2
        rw [y1]
        dsimp (config := { etaStruct := .none }) only
        have st : ∀ (q0 q1 q3 q4 q5 q6 d0 d1 d2 d3 d4 l : Int32) (ca cb cc cd ce : Nat → Int32), f_e_read_x5_42 q0 q1 q3 q4 q5 q6 f d0 d1 d2 d3 d4 ca cb cc cd ce l (m + 1) i 0 (G 19) (G 14) (G 15) (G 22) (G 26) (G 20) (G 21) (G 23) (G 24) (G 25) fta ftb ftc ftd fte = f_e_read_x5_42 q0 q1 q3 q4 q5 q6 f d0 d1 d2 d3 d4 ca cb cc cd ce l m (i + 1) a b (G 14) z s5 s6 v0 v1 v2 v3 v4 ga gb gc gd ge := by
          intro q0 q1 q3 q4 q5 q6 d0 d1 d2 d3 d4 l ca cb cc cd ce
          rw [f_e_read_x5_42_s, if_neg c1, if_pos rfl, ke]
          dsimp (config := { etaStruct := .none }) only
          rw [if_neg cE, y2]
        have h14 : H 14 = G 14 := (y3 14 (by decide)).trans u14
        rcases y6 with ⟨rfl, rfl, x3, rfl, x5, x6, rfl, rfl, rfl, rfl, rfl, rfl, rfl, hB'⟩ | ⟨rfl, ha⟩
        · rw [u15] at x5
          rw [u14] at x6
          rw [u19] at x3
          obtain ⟨rg, a, b', z, s5, s6, w0, w1, w2, w3, w4, j, K, k27, k28, k29, k30, k31, ea, eb, ec, ed, ee, m1, m2, m3, m4, m5, m6⟩ := ih m (i + 1) H ga gb gc gd ge h27 h28 h29 h30 h31 ⟨by omega, by rw [h14]; exact x6, by rw [h14]; exact p2, y4.symm⟩ hB' (by omega) (by omega) (by rw [h14]; omega) (by omega)
          refine ⟨rg, a, b', z, s5, s6, w0, w1, w2, w3, w4, j, K, k27, k28, k29, k30, k31, ea, eb, ec, ed, ee, m1, fun q0 q1 q3 q4 q5 q6 d0 d1 d2 d3 d4 l ca cb cc cd ce => ?_, fun j hj => (m3 j hj).trans ((y3 j hj).trans (uq j (by omega))), m4, m5, ?_⟩
          · have := m2 q0 q1 q3 q4 q5 q6 d0 d1 d2 d3 d4 l ca cb cc cd ce
            rw [h14, ← y5] at this
            rw [st, this]
          · rcases m6 with ⟨z1, z2, z3, z4⟩ | q
            · rw [← y5, x3] at z3
              exact Or.inl ⟨z1, z2, z3, z4⟩
            · exact Or.inr q
        · refine ⟨0, a, b, z, s5, s6, v0, v1, v2, v3, v4, i + 1, H, h27, h28, h29, h30, h31, ga, gb, gc, gd, ge, ?_, fun q0 q1 q3 q4 q5 q6 d0 d1 d2 d3 d4 l ca cb cc cd ce => ?_, fun j hj => (y3 j hj).trans (uq j (by omega)), y4, y5, Or.inr ⟨rfl, ha⟩⟩
          · cases n with
            | zero => omega
            | succ n => rw [f_m_town_52_s, if_pos rfl]
          · rw [st]
            cases m with
            | zero => rfl
            | succ m =>
              rw [f_e_read_x5_42_s]
              by_cases q : 240 ≤ i + 1
              · rw [if_pos q]
              · rw [if_neg q, if_neg ha]
/-- the reference, as it begins to read -/
def G0r (G : Nat → Int32) : Nat → Int32 := upd (upd (upd (upd (upd (upd (upd (upd (upd (upd G 15 0) 18 0) 19 (-1)) 20 0) 21 1) 22 0) 23 0) 24 0) 25 0) 26 0
theorem G0r_off {G : Nat → Int32} (j : Nat) (h : j < 15 ∨ 27 ≤ j) : G0r G j = G j := by
  unfold G0r
  rw [pk_un (by omega), pk_un (by omega), pk_un (by omega), pk_un (by omega), pk_un (by omega), pk_un (by omega), pk_un (by omega), pk_un (by omega), pk_un (by omega), pk_un (by omega)]
theorem read_eq {G f fta ftb ftc ftd fte : Nat → Int32} (f0 f1 f8 f9 f10 f11 f12 f27 f28 f29 f30 f31 : Nat → Int32) (h0 : 0 ≤ (G 14).toInt) (h1 : (G 14).toInt ≤ 240) : ∃ (rg a b z s5 s6 u0 u1 u2 u3 u4 : Int32) (H h27 h28 h29 h30 h31 ga gb gc gd ge : Nat → Int32), f_m_town_52 f 300 1 (G0r G) f0 f1 f8 f9 f10 f11 f12 f27 f28 f29 f30 f31 = (rg, H, f0, f1, f8, f9, f10, f11, f12, h27, h28, h29, h30, h31) ∧ (∀ (q0 q1 q3 q4 q5 q6 d0 d1 d2 d3 d4 : Int32), f_e_read_x5 q0 q1 q3 q4 q5 q6 f d0 d1 d2 d3 d4 fta ftb ftc ftd fte (G 14) = (a, b, G 14, z, s5, s6, u0, u1, u2, u3, u4, ga, gb, gc, gd, ge)) ∧ CQ G H ∧ a = H 18 ∧ b = H 19 ∧ ((rg = 1 ∧ a = 0 ∧ b = -1 ∧ u0 = H 20 ∧ u1 = H 21 ∧ u2 = H 23 ∧ u3 = H 24 ∧ u4 = H 25 ∧ PB H ga gb gc gd ge h27 h28 h29 h30 h31) ∨ (rg = 0 ∧ a ≠ 0)) := by
  have g14 : G0r G 14 = G 14 := G0r_off 14 (by decide)
  have g15 : G0r G 15 = 0 := by
    unfold G0r
    rw [pk_un (by decide), pk_un (by decide), pk_un (by decide), pk_un (by decide), pk_un (by decide), pk_un (by decide), pk_un (by decide), pk_un (by decide), pk_un (by decide), pk_us]
  have g18 : G0r G 18 = 0 := by
    unfold G0r
    rw [pk_un (by decide), pk_un (by decide), pk_un (by decide), pk_un (by decide), pk_un (by decide), pk_un (by decide), pk_un (by decide), pk_un (by decide), pk_us]
  have g19 : G0r G 19 = -1 := by
    unfold G0r
    rw [pk_un (by decide), pk_un (by decide), pk_un (by decide), pk_un (by decide), pk_un (by decide), pk_un (by decide), pk_un (by decide), pk_us]
  have g20 : G0r G 20 = 0 := by
    unfold G0r
    rw [pk_un (by decide), pk_un (by decide), pk_un (by decide), pk_un (by decide), pk_un (by decide), pk_un (by decide), pk_us]
  have g21 : G0r G 21 = 1 := by
    unfold G0r
    rw [pk_un (by decide), pk_un (by decide), pk_un (by decide), pk_un (by decide), pk_un (by decide), pk_us]
  have g22 : G0r G 22 = 0 := by
    unfold G0r
    rw [pk_un (by decide), pk_un (by decide), pk_un (by decide), pk_un (by decide), pk_us]
  have g23 : G0r G 23 = 0 := by
    unfold G0r
    rw [pk_un (by decide), pk_un (by decide), pk_un (by decide), pk_us]
  have g24 : G0r G 24 = 0 := by
    unfold G0r
    rw [pk_un (by decide), pk_un (by decide), pk_us]
  have g25 : G0r G 25 = 0 := by
    unfold G0r
    rw [pk_un (by decide), pk_us]
  have g26 : G0r G 26 = 0 := by
    unfold G0r
    rw [pk_us]
  have go : ∀ j, j < 15 ∨ 27 ≤ j → G0r G j = G j := fun j hj => G0r_off j hj
  generalize G0r G = Z at g14 g15 g18 g19 g20 g21 g22 g23 g24 g25 g26 go
  have nil : ∀ (x y : Nat → Int32) (lo hi : Int), AG x y 0 lo hi := fun x y lo hi k hk => absurd hk (by omega)
  have hB : PB Z fta ftb ftc ftd fte f27 f28 f29 f30 f31 := by
    unfold PB
    rw [g20, g21, g23, g24, g25]
    exact ⟨by decide, by decide, by decide, by decide, by decide, fun _ => by decide, nil _ _ _ _, nil _ _ _ _, fun c t hc _ => absurd hc (by rw [i_0]; omega), nil _ _ _ _, nil _ _ _ _⟩
  obtain ⟨rg, a, b, z, s5, s6, u0, u1, u2, u3, u4, j, H, h27, h28, h29, h30, h31, ga, gb, gc, gd, ge, m1, m2, m3, m4, m5, m6⟩ := read_loop (f := f) f0 f1 f8 f9 f10 f11 f12 300 241 0 Z fta ftb ftc ftd fte f27 f28 f29 f30 f31 ⟨by rw [g15]; decide, by rw [g15, g14, i_0]; exact h0, by rw [g14]; exact h1, g18⟩ hB (by decide) (by rw [g15]; decide) (by rw [g14, g15, i_0]; omega) (by rw [i_0]; omega)
  refine ⟨rg, a, b, z, s5, s6, u0, u1, u2, u3, u4, H, h27, h28, h29, h30, h31, ga, gb, gc, gd, ge, m1, fun q0 q1 q3 q4 q5 q6 d0 d1 d2 d3 d4 => ?_, fun j hj => (m3 j hj).trans (go j hj), m4, m5, ?_⟩
  · have := m2 q0 q1 q3 q4 q5 q6 d0 d1 d2 d3 d4 (G 14) fta ftb ftc ftd fte
    rw [g14, g15, g19, g20, g21, g22, g23, g24, g25, g26] at this
    unfold f_e_read_x5 f_e_clear_x8
    have e : ((240 : Int32).toInt - (0 : Int32).toInt).toNat + 1 = 241 := rfl
    dsimp (config := { etaStruct := .none }) only
    rw [e, this]
  · rw [g19] at m6
    exact m6
theorem cp131 : ∀ (n : Nat) (i : Int32) (m0 m1 m2 m3 m4 m5 m6 m7 m8 m9 m10 m11 m12 : Nat → Int32), 0 ≤ i.toInt → i.toInt ≤ 6 → 6 - i.toInt < n → (∀ k : Nat, (k : Int) < i.toInt → m3 k = m8 k ∧ m4 k = m9 k) → ∃ (j : Int32) (g3 g4 : Nat → Int32), f_m_town_131 n i m0 m1 m2 m3 m4 m5 m6 m7 m8 m9 m10 m11 m12 = (j, m0, m1, m2, g3, g4, m5, m6, m7, m8, m9, m10, m11, m12) ∧ ∀ k : Nat, k < 6 → g3 k = m8 k ∧ g4 k = m9 k := by
  intro n
  induction n with
  | zero => intro i m0 m1 m2 m3 m4 m5 m6 m7 m8 m9 m10 m11 m12 h0 h1 h2; omega
  | succ n ih =>
    intro i m0 m1 m2 m3 m4 m5 m6 m7 m8 m9 m10 m11 m12 h0 h1 h2 h3
    rw [f_m_town_131_s]
    by_cases c : 6 ≤ i
    · rw [if_pos c]
      simp only [i_le, Int32.reduceToInt] at c
      exact ⟨i, m3, m4, rfl, fun k hk => h3 k (by omega)⟩
    · rw [if_neg c]
      simp only [i_le, Int32.reduceToInt] at c
      have e := i_a1 (a := i) (by omega) (by omega)
      refine ih (i + 1) m0 m1 m2 _ _ m5 m6 m7 m8 m9 m10 m11 m12 (by omega) (by omega) (by omega) (fun k hk => ?_)
      by_cases q : k = i.toNatClampNeg
      · subst q
        rw [pk_us, pk_us]
        exact ⟨rfl, rfl⟩
      · rw [pk_un q, pk_un q]
        refine h3 k ?_
        rw [i_clamp] at q
        omega
theorem cp169 : ∀ (n : Nat) (i : Int32) (m0 m1 m2 m3 m4 m5 m6 m7 m8 m9 m10 m11 m12 : Nat → Int32), 0 ≤ i.toInt → i.toInt ≤ 30 → 30 - i.toInt < n → (∀ k : Nat, (k : Int) < i.toInt → m5 k = m10 k) → ∃ (j : Int32) (g5 : Nat → Int32), f_m_town_169 n i m0 m1 m2 m3 m4 m5 m6 m7 m8 m9 m10 m11 m12 = (j, m0, m1, m2, m3, m4, g5, m6, m7, m8, m9, m10, m11, m12) ∧ ∀ k : Nat, k < 30 → g5 k = m10 k := by
  intro n
  induction n with
  | zero => intro i m0 m1 m2 m3 m4 m5 m6 m7 m8 m9 m10 m11 m12 h0 h1 h2; omega
  | succ n ih =>
    intro i m0 m1 m2 m3 m4 m5 m6 m7 m8 m9 m10 m11 m12 h0 h1 h2 h3
    rw [f_m_town_169_s]
    by_cases c : 30 ≤ i
    · rw [if_pos c]
      simp only [i_le, Int32.reduceToInt] at c
      exact ⟨i, m5, rfl, fun k hk => h3 k (by omega)⟩
    · rw [if_neg c]
      simp only [i_le, Int32.reduceToInt] at c
      have e := i_a1 (a := i) (by omega) (by omega)
      refine ih (i + 1) m0 m1 m2 m3 m4 _ m6 m7 m8 m9 m10 m11 m12 (by omega) (by omega) (by omega) (fun k hk => ?_)
      by_cases q : k = i.toNatClampNeg
      · subst q
        rw [pk_us]
      · rw [pk_un q]
        refine h3 k ?_
        rw [i_clamp] at q
        omega
theorem cp195 : ∀ (n : Nat) (i : Int32) (m0 m1 m2 m3 m4 m5 m6 m7 m8 m9 m10 m11 m12 : Nat → Int32), 0 ≤ i.toInt → i.toInt ≤ 7 → 7 - i.toInt < n → (∀ k : Nat, (k : Int) < i.toInt → m6 k = m11 k ∧ m7 k = m12 k) → ∃ (j : Int32) (g6 g7 : Nat → Int32), f_m_town_195 n i m0 m1 m2 m3 m4 m5 m6 m7 m8 m9 m10 m11 m12 = (j, m0, m1, m2, m3, m4, m5, g6, g7, m8, m9, m10, m11, m12) ∧ ∀ k : Nat, k < 7 → g6 k = m11 k ∧ g7 k = m12 k := by
  intro n
  induction n with
  | zero => intro i m0 m1 m2 m3 m4 m5 m6 m7 m8 m9 m10 m11 m12 h0 h1 h2; omega
  | succ n ih =>
    intro i m0 m1 m2 m3 m4 m5 m6 m7 m8 m9 m10 m11 m12 h0 h1 h2 h3
    rw [f_m_town_195_s]
    by_cases c : 7 ≤ i
    · rw [if_pos c]
      simp only [i_le, Int32.reduceToInt] at c
      exact ⟨i, m6, m7, rfl, fun k hk => h3 k (by omega)⟩
    · rw [if_neg c]
      simp only [i_le, Int32.reduceToInt] at c
      have e := i_a1 (a := i) (by omega) (by omega)
      refine ih (i + 1) m0 m1 m2 m3 m4 m5 _ _ m8 m9 m10 m11 m12 (by omega) (by omega) (by omega) (fun k hk => ?_)
      by_cases q : k = i.toNatClampNeg
      · subst q
        rw [pk_us, pk_us]
        exact ⟨rfl, rfl⟩
      · rw [pk_un q, pk_un q]
        refine h3 k ?_
        rw [i_clamp] at q
        omega
