/-! blocks that are kept and brought back, side by side -/
theorem i_mulc {a b : Int32} {k : Int} (ha : a.toInt = k) (h1 : -2147483648 ≤ k * b.toInt) (h2 : k * b.toInt < 2147483648) : (a * b).toInt = k * b.toInt := by
  rw [i_mul (by rw [ha]; exact h1) (by rw [ha]; exact h2), ha]
theorem i_mulr {a b : Int32} {k : Int} (hb : b.toInt = k) (h1 : -2147483648 ≤ a.toInt * k) (h2 : a.toInt * k < 2147483648) : (a * b).toInt = a.toInt * k := by
  rw [i_mul (by rw [hb]; exact h1) (by rw [hb]; exact h2), hb]
theorem copy_loop {fr to : Int32} (a0 : 0 ≤ fr.toInt) (a1 : fr.toInt ≤ 1260) (b0 : 0 ≤ to.toInt) (b1 : to.toInt ≤ 1260) (hd : fr.toInt + 42 ≤ to.toInt ∨ to.toInt + 42 ≤ fr.toInt) : ∀ (n : Nat) (i : Int32) (w : Nat → Int32), 0 ≤ i.toInt → i.toInt ≤ 42 → 42 - i.toInt < n → ∃ (j : Int32) (u : Nat → Int32), f_m_copy_2 fr to n i w = (j, u) ∧ (∀ k : Nat, i.toInt ≤ k → k < 42 → u (to.toNatClampNeg + k) = w (fr.toNatClampNeg + k)) ∧ (∀ x : Nat, ¬ (to.toInt + i.toInt ≤ x ∧ (x : Int) < to.toInt + 42) → u x = w x) := by
  have ef := clI a0
  have et := clI b0
  intro n
  induction n with
  | zero => intro i w h0 h1 h2; omega
  | succ n ih =>
    intro i w h0 h1 h2
    rw [f_m_copy_2_s]
    by_cases c : 42 ≤ i
    · rw [if_pos c]
      rw [i_le] at c
      simp only [Int32.reduceToInt] at c
      exact ⟨i, w, rfl, fun k hk hl => by omega, fun x _ => rfl⟩
    · rw [if_neg c]
      rw [i_le] at c
      simp only [Int32.reduceToInt] at c
      have e := i_a1 (a := i) (by omega) (by omega)
      have ei := clI h0
      rw [ixn b0 h0 (by omega), ixn a0 h0 (by omega)]
      obtain ⟨j, u, x1, x2, x3⟩ := ih (i + 1) (upd w (to.toNatClampNeg + i.toNatClampNeg) (w (fr.toNatClampNeg + i.toNatClampNeg))) (by omega) (by omega) (by omega)
      refine ⟨j, u, x1, fun k hk hl => ?_, fun x hx => ?_⟩
      · by_cases q : k = i.toNatClampNeg
        · subst q
          rw [x3 _ (by omega), pk_us]
        · rw [x2 k (by omega) hl, pk_un (by omega)]
      · rw [x3 x (by omega), pk_un (by omega)]
theorem copy_spec {fr to : Int32} (w : Nat → Int32) (a0 : 0 ≤ fr.toInt) (a1 : fr.toInt ≤ 1260) (b0 : 0 ≤ to.toInt) (b1 : to.toInt ≤ 1260) (hd : fr.toInt + 42 ≤ to.toInt ∨ to.toInt + 42 ≤ fr.toInt) : (∀ k : Nat, k < 42 → f_m_copy w fr to (to.toNatClampNeg + k) = w (fr.toNatClampNeg + k)) ∧ (∀ x : Nat, ¬ (to.toInt ≤ x ∧ (x : Int) < to.toInt + 42) → f_m_copy w fr to x = w x) := by
  obtain ⟨j, u, x1, x2, x3⟩ := copy_loop a0 a1 b0 b1 hd 43 0 w (by decide) (by decide) (by decide)
  have e : f_m_copy w fr to = u := by
    unfold f_m_copy
    have e43 : ((42 : Int32).toInt - (0 : Int32).toInt).toNat + 1 = 43 := rfl
    rw [e43, x1]
  rw [e]
  rw [i_0] at x2 x3
  exact ⟨fun k hk => x2 k (by omega) hk, fun x hx => x3 x (by omega)⟩
theorem shift_loop {G : Nat → Int32} : ∀ (n : Nat) (i : Int32) (w : Nat → Int32), 0 ≤ i.toInt → i.toInt ≤ 798 → 798 - i.toInt < n → ∃ (j : Int32) (u : Nat → Int32), f_m_minds_11 n i G w = (j, G, u) ∧ (∀ k : Nat, i.toInt ≤ k → k < 798 → u (462 + k) = w (462 + k + 42)) ∧ (∀ x : Nat, ¬ (462 + i.toInt ≤ x ∧ x < 1260) → u x = w x) := by
  intro n
  induction n with
  | zero => intro i w h0 h1 h2; omega
  | succ n ih =>
    intro i w h0 h1 h2
    rw [f_m_minds_11_s]
    by_cases c : 798 ≤ i
    · rw [if_pos c]
      rw [i_le] at c
      simp only [Int32.reduceToInt] at c
      exact ⟨i, w, rfl, fun k hk hl => by omega, fun x _ => rfl⟩
    · rw [if_neg c]
      rw [i_le] at c
      simp only [Int32.reduceToInt] at c
      have e := i_a1 (a := i) (by omega) (by omega)
      have ei := clI h0
      have x462 : (462 : Int32).toInt = 462 := rfl
      have x42 : (42 : Int32).toInt = 42 := rfl
      have ea := i_add (a := 462) (b := i) (by omega) (by omega)
      have e1 : (462 + i).toNatClampNeg = 462 + i.toNatClampNeg := by
        rw [ixn (by decide) h0 (by omega)]
        rfl
      have e2 : (462 + i + 42).toNatClampNeg = 462 + i.toNatClampNeg + 42 := by
        rw [ixn (by omega) (by decide) (by omega), e1]
        rfl
      rw [e1, e2]
      obtain ⟨j, u, x1, x2, x3⟩ := ih (i + 1) (upd w (462 + i.toNatClampNeg) (w (462 + i.toNatClampNeg + 42))) (by omega) (by omega) (by omega)
      refine ⟨j, u, x1, fun k hk hl => ?_, fun x hx => ?_⟩
      · by_cases q : k = i.toNatClampNeg
        · subst q
          rw [x3 _ (by omega), pk_us]
        · rw [x2 k (by omega) hl, pk_un (by omega)]
      · rw [x3 x (by omega), pk_un (by omega)]
theorem minds_spec {G w : Nat → Int32} (hG : GI G) : ∃ (H u : Nat → Int32), f_m_minds G w = (H, u) ∧ (∀ k, k ≠ 2 → H k = G k) ∧ (∀ x, x < 462 → u x = w x) ∧ ((G 2 = 20 ∧ H 2 = 20 ∧ (∀ i k : Nat, i < 19 → k < 42 → u (462 + 42 * i + k) = w (462 + 42 * (i + 1) + k)) ∧ (∀ k : Nat, k < 42 → u (1260 + k) = w k)) ∨ ((G 2).toInt < 20 ∧ H 2 = G 2 + 1 ∧ (∀ x : Nat, x < 462 + 42 * (G 2).toNatClampNeg → u x = w x) ∧ (∀ k : Nat, k < 42 → u (462 + 42 * (G 2).toNatClampNeg + k) = w k))) := by
  obtain ⟨⟨g0, g20⟩, _⟩ := hG
  unfold f_m_minds
  by_cases c : G 2 = 20
  · obtain ⟨j, u, x1, x2, x3⟩ := shift_loop (G := G) 799 0 w (by decide) (by decide) (by decide)
    rw [i_0] at x2 x3
    have e : ((798 : Int32).toInt - (0 : Int32).toInt).toNat + 1 = 799 := rfl
    have cs := copy_spec (fr := 0) (to := 1260) u (by decide) (by decide) (by decide) (by decide) (by decide)
    have et : (462 + 42 * (G 2 - 1) : Int32) = 1260 := by rw [c]; rfl
    have n1260 : (1260 : Int32).toNatClampNeg = 1260 := rfl
    have i1260 : (1260 : Int32).toInt = 1260 := rfl
    rw [n1260, i1260] at cs
    have n0 : (0 : Int32).toNatClampNeg = 0 := rfl
    rw [n0] at cs
    rw [if_pos c, e, x1]
    dsimp (config := { etaStruct := .none }) only
    rw [et]
    refine ⟨_, _, rfl, fun k hk => by rw [pk_un hk, pk_un hk], fun x hx => ?_, Or.inl ⟨c, ?_, fun i k hi hk => ?_, fun k hk => ?_⟩⟩
    · rw [cs.2 x (by omega), x3 x (by omega)]
    · rw [pk_us, pk_us, c]
      rfl
    · rw [cs.2 _ (by omega)]
      have := x2 (42 * i + k) (by omega) (by omega)
      rw [show 462 + 42 * i + k = 462 + (42 * i + k) by omega, this]
      exact congrArg w (by omega)
    · rw [cs.1 k hk, Nat.zero_add, x3 k (by omega)]
  · have g19 : (G 2).toInt < 20 := by
      rw [i_eq] at c
      simp only [Int32.reduceToInt] at c
      omega
    have x42 : (42 : Int32).toInt = 42 := rfl
    have x462 : (462 : Int32).toInt = 462 := rfl
    have em := i_mulc (a := 42) (k := 42) (b := G 2) rfl (by omega) (by omega)
    have ea := i_add (a := 462) (b := 42 * G 2) (by omega) (by omega)
    rw [em, x462] at ea
    have eN : (462 + 42 * G 2 : Int32).toNatClampNeg = 462 + 42 * (G 2).toNatClampNeg := by
      rw [i_clamp, i_clamp, ea]
      omega
    have eC := clI g0
    have cs := copy_spec (fr := 0) (to := 462 + 42 * G 2) w (by decide) (by decide) (by omega) (by omega) (by rw [i_0, ea]; omega)
    rw [eN, ea] at cs
    have n0 : (0 : Int32).toNatClampNeg = 0 := rfl
    rw [n0] at cs
    rw [if_neg c]
    refine ⟨_, _, rfl, fun k hk => pk_un hk, fun x hx => ?_, Or.inr ⟨g19, pk_us, fun x hx => ?_, fun k hk => ?_⟩⟩
    · rw [cs.2 x (by omega)]
    · rw [cs.2 x (by omega)]
    · rw [cs.1 k hk, Nat.zero_add]
theorem mod20 {x : Int32} (h0 : 0 ≤ x.toInt) (h1 : x.toInt < 1000) : (x - x / 20 * 20).toInt = x.toInt % 20 := by
  have x20 : (20 : Int32).toInt = 20 := rfl
  have e1 := i_div (a := x) (d := 20) h0 (by decide)
  rw [x20] at e1
  have e2 := i_mul (a := x / 20) (b := 20) (by rw [e1, x20]; omega) (by rw [e1, x20]; omega)
  rw [e1, x20] at e2
  rw [i_sub (by rw [e2]; omega) (by rw [e2]; omega), e2]
  omega
theorem store_spec {fsh fn : Nat → Int32} {i : Int32} (h0 : 0 ≤ i.toInt) (h1 : i.toInt < 20) : (∀ k : Nat, k < 41 → f_e_store20 fsh fn i (i.toNatClampNeg * 41 + k) = fn k) ∧ (∀ s k : Nat, s ≠ i.toNatClampNeg → k < 41 → f_e_store20 fsh fn i (s * 41 + k) = fsh (s * 41 + k)) := by
  have em := i_mulr (a := i) (b := 41) (k := 41) rfl (by omega) (by omega)
  have eN : (i * 41).toNatClampNeg = i.toNatClampNeg * 41 := by
    rw [i_clamp, i_clamp, em]
    omega
  have n0 : (0 : Int32).toNatClampNeg = 0 := rfl
  have n41 : (41 : Int32).toNatClampNeg = 41 := rfl
  have e : f_e_store20 fsh fn i = va_cpy fn fsh 0 (i.toNatClampNeg * 41) 41 := by
    unfold f_e_store20
    rw [if_neg (by rw [i_lt, i_0]; omega), if_neg (by rw [i_le]; simp only [Int32.reduceToInt]; omega), eN, n0, n41]
  rw [e]
  unfold va_cpy
  refine ⟨fun k hk => ?_, fun s k hs hk => ?_⟩
  · rw [if_pos (by omega)]
    exact congrArg fn (by omega)
  · rw [if_neg]
    omega
theorem fetch_spec {fsh fn : Nat → Int32} {i : Int32} (h0 : 0 ≤ i.toInt) (h1 : i.toInt < 20) : ∀ k : Nat, k < 41 → f_e_fetch20 fsh fn i k = fsh (i.toNatClampNeg * 41 + k) := by
  have em := i_mulr (a := i) (b := 41) (k := 41) rfl (by omega) (by omega)
  have eN : (i * 41).toNatClampNeg = i.toNatClampNeg * 41 := by
    rw [i_clamp, i_clamp, em]
    omega
  have n0 : (0 : Int32).toNatClampNeg = 0 := rfl
  have n41 : (41 : Int32).toNatClampNeg = 41 := rfl
  have e : f_e_fetch20 fsh fn i = va_cpy fsh fn (i.toNatClampNeg * 41) 0 41 := by
    unfold f_e_fetch20
    rw [if_neg (by rw [i_lt, i_0]; omega), if_neg (by rw [i_le]; simp only [Int32.reduceToInt]; omega), eN, n0, n41]
  intro k hk
  rw [e]
  unfold va_cpy
  rw [if_pos (by omega)]
  exact congrArg fsh (by omega)
theorem store2_spec {fsh fn : Nat → Int32} {i : Int32} (h0 : 0 ≤ i.toInt) (h1 : i.toInt < 2) : (∀ k : Nat, k < 41 → f_e_store2 fsh fn i (i.toNatClampNeg * 41 + k) = fn k) ∧ (∀ s k : Nat, s ≠ i.toNatClampNeg → k < 41 → f_e_store2 fsh fn i (s * 41 + k) = fsh (s * 41 + k)) := by
  have em := i_mulr (a := i) (b := 41) (k := 41) rfl (by omega) (by omega)
  have eN : (i * 41).toNatClampNeg = i.toNatClampNeg * 41 := by
    rw [i_clamp, i_clamp, em]
    omega
  have n0 : (0 : Int32).toNatClampNeg = 0 := rfl
  have n41 : (41 : Int32).toNatClampNeg = 41 := rfl
  have e : f_e_store2 fsh fn i = va_cpy fn fsh 0 (i.toNatClampNeg * 41) 41 := by
    unfold f_e_store2
    rw [if_neg (by rw [i_lt, i_0]; omega), if_neg (by rw [i_le]; simp only [Int32.reduceToInt]; omega), eN, n0, n41]
  rw [e]
  unfold va_cpy
  refine ⟨fun k hk => ?_, fun s k hs hk => ?_⟩
  · rw [if_pos (by omega)]
    exact congrArg fn (by omega)
  · rw [if_neg]
    omega
theorem fetch2_spec {fsh fn : Nat → Int32} {i : Int32} (h0 : 0 ≤ i.toInt) (h1 : i.toInt < 2) : ∀ k : Nat, k < 41 → f_e_fetch2 fsh fn i k = fsh (i.toNatClampNeg * 41 + k) := by
  have em := i_mulr (a := i) (b := 41) (k := 41) rfl (by omega) (by omega)
  have eN : (i * 41).toNatClampNeg = i.toNatClampNeg * 41 := by
    rw [i_clamp, i_clamp, em]
    omega
  have n0 : (0 : Int32).toNatClampNeg = 0 := rfl
  have n41 : (41 : Int32).toNatClampNeg = 41 := rfl
  have e : f_e_fetch2 fsh fn i = va_cpy fsh fn (i.toNatClampNeg * 41) 0 41 := by
    unfold f_e_fetch2
    rw [if_neg (by rw [i_lt, i_0]; omega), if_neg (by rw [i_le]; simp only [Int32.reduceToInt]; omega), eN, n0, n41]
  intro k hk
  rw [e]
  unfold va_cpy
  rw [if_pos (by omega)]
  exact congrArg fsh (by omega)
/-- what can be undone -/
def UR (G : Nat → Int32) (p1 p2 : Int32) (fsh w : Nat → Int32) : Prop := p2 = G 2 ∧ 0 ≤ p1.toInt ∧ p1.toInt < 20 ∧ ∀ i : Nat, (i : Int) < (G 2).toInt → ST fsh w (((p1.toNatClampNeg + i) % 20) * 41) (462 + 42 * i) ∧ BI G w (462 + 42 * i)
theorem UR_of {G H w u fsh : Nat → Int32} {p1 p2 : Int32} (h : UR G p1 p2 fsh w) (hG : GI G) (e : ∀ x, 462 ≤ x → x < 1302 → u x = w x) (e2 : H 2 = G 2) (e3 : H 3 = G 3) (e4 : H 4 = G 4) (e5 : H 5 = G 5) (e6 : H 6 = G 6) : UR H p1 p2 fsh u := by
  obtain ⟨u1, u2, u3, u4⟩ := h
  have g20 := hG.1.2
  refine ⟨by rw [e2]; exact u1, u2, u3, fun i hi => ?_⟩
  rw [e2] at hi
  have q := u4 i hi
  have ee : ∀ k, k < 41 → u (462 + 42 * i + k) = w (462 + 42 * i + k) := fun k hk => e _ (by omega) (by omega)
  exact ⟨ST_of q.1 ee, BI_of q.2 ee e3 e4 e5 e6⟩
theorem UR_nil {G H w fsh : Nat → Int32} {p1 : Int32} (h1 : 0 ≤ p1.toInt) (h2 : p1.toInt < 20) (e : H 2 = 0) : UR H p1 0 fsh w := ⟨e.symm, h1, h2, fun i hi => absurd hi (by rw [e, i_0]; omega)⟩
theorem remember_eq {G w fn fsh : Nat → Int32} {p1 p2 : Int32} (hG : GI G) (hU : UR G p1 p2 fsh w) (hS : ST fn w 0 0) (hB : BI G w 0) : ∃ (q1 q2 : Int32) (gsh H u : Nat → Int32), f_e_remember_x2 p1 p2 fsh fn = (q1, q2, gsh) ∧ f_m_minds G w = (H, u) ∧ UR H q1 q2 gsh u ∧ (∀ k, k ≠ 2 → H k = G k) ∧ (∀ x, x < 462 → u x = w x) := by
  obtain ⟨u1, u2, u3, u4⟩ := hU
  obtain ⟨H, u, m1, m2, m3, m4⟩ := minds_spec (w := w) hG
  have e3 := m2 3 (by decide)
  have e4 := m2 4 (by decide)
  have e5 := m2 5 (by decide)
  have e6 := m2 6 (by decide)
  have ep := clI u2
  have g0 := hG.1.1
  subst u1
  rcases m4 with ⟨c, h2, y1, y2⟩ | ⟨c, h2, y1, y2⟩
  · have a1 := i_a1 (a := p1) (by omega) (by omega)
    have s1 := mod20 (x := p1 + 1) (by omega) (by omega)
    generalize hq : (p1 + 1) - (p1 + 1) / 20 * 20 = q1 at s1
    have x19 : (G 2 - 1 : Int32) = 19 := by rw [c]; rfl
    have i19 : (19 : Int32).toInt = 19 := rfl
    have a2 := i_add (a := q1) (b := 19) (by omega) (by omega)
    have s2 := mod20 (x := q1 + 19) (by omega) (by omega)
    generalize hs : (q1 + 19) - (q1 + 19) / 20 * 20 = sl at s2
    have eq := clI (c := q1) (by omega)
    have es := clI (c := sl) (by omega)
    have st := store_spec (fsh := fsh) (fn := fn) (i := sl) (by omega) (by omega)
    refine ⟨q1, 20, f_e_store20 fsh fn sl, H, u, ?_, m1, ⟨h2.symm, by omega, by omega, fun i hi => ?_⟩, m2, m3⟩
    · unfold f_e_remember_x2
      rw [if_pos c, hq, x19, hs]
      rfl
    · rw [h2] at hi
      have i20 : (20 : Int32).toInt = 20 := rfl
      rw [i20] at hi
      by_cases q : i = 19
      · subst q
        have hsl : (q1.toNatClampNeg + 19) % 20 = sl.toNatClampNeg := by omega
        rw [hsl]
        refine ⟨fun k hk => ?_, BI_of hB (fun k hk => ?_) e3 e4 e5 e6⟩
        · have := cx_lt hk
          rw [st.1 k hk]
          have h0 := hS k hk
          rw [Nat.zero_add, Nat.zero_add] at h0
          rw [h0, show 462 + 42 * 19 + cx k = 1260 + cx k by omega, y2 _ (by omega)]
        · rw [show 462 + 42 * 19 + k = 1260 + k by omega, y2 _ (by omega), Nat.zero_add]
      · obtain ⟨z1, z2⟩ := u4 (i + 1) (by rw [c, i20]; omega)
        have hsl : (q1.toNatClampNeg + i) % 20 = (p1.toNatClampNeg + (i + 1)) % 20 := by omega
        have hne : (p1.toNatClampNeg + (i + 1)) % 20 ≠ sl.toNatClampNeg := by omega
        rw [hsl]
        refine ⟨fun k hk => ?_, BI_of z2 (fun k hk => y1 i k (by omega) (by omega)) e3 e4 e5 e6⟩
        have := cx_lt hk
        rw [st.2 _ k hne hk, z1 k hk, y1 i (cx k) (by omega) (by omega)]
  · have a2 := i_add (a := p1) (b := G 2) (by omega) (by omega)
    have s2 := mod20 (x := p1 + G 2) (by omega) (by omega)
    generalize hs : (p1 + G 2) - (p1 + G 2) / 20 * 20 = sl at s2
    have eg := clI g0
    have es := clI (c := sl) (by omega)
    have st := store_spec (fsh := fsh) (fn := fn) (i := sl) (by omega) (by omega)
    have cne : ¬ G 2 = 20 := by
      intro q
      rw [q] at c
      exact absurd c (by decide)
    have ea := i_a1 (a := G 2) (by omega) (by omega)
    refine ⟨p1, G 2 + 1, f_e_store20 fsh fn sl, H, u, ?_, m1, ⟨h2.symm, u2, u3, fun i hi => ?_⟩, m2, m3⟩
    · unfold f_e_remember_x2
      rw [if_neg cne, hs]
    · rw [h2, ea] at hi
      by_cases q : i = (G 2).toNatClampNeg
      · subst q
        have hsl : (p1.toNatClampNeg + (G 2).toNatClampNeg) % 20 = sl.toNatClampNeg := by omega
        rw [hsl]
        refine ⟨fun k hk => ?_, BI_of hB (fun k hk => ?_) e3 e4 e5 e6⟩
        · have := cx_lt hk
          rw [st.1 k hk]
          have h0 := hS k hk
          rw [Nat.zero_add, Nat.zero_add] at h0
          rw [h0, y2 _ (by omega)]
        · rw [y2 _ (by omega), Nat.zero_add]
      · obtain ⟨z1, z2⟩ := u4 i (by omega)
        have hne : (p1.toNatClampNeg + i) % 20 ≠ sl.toNatClampNeg := by omega
        refine ⟨fun k hk => ?_, BI_of z2 (fun k hk => y1 _ (by omega)) e3 e4 e5 e6⟩
        have := cx_lt hk
        rw [st.2 _ k hne hk, z1 k hk, y1 _ (by omega)]
/-- the images -/
def IR (G : Nat → Int32) (q10 : Int32) (fim fis f1 w : Nat → Int32) : Prop := (q10 = 0 ∨ q10 = 1 ∨ q10 = 2 ∨ q10 = 3) ∧ ∀ i : Int32, i = 0 ∨ i = 1 → ((q10 >>> (i &&& 31)) &&& 1 = 0 ↔ f1 i.toNatClampNeg = 0) ∧ (¬ f1 i.toNatClampNeg = 0 → ST fim w (i.toNatClampNeg * 41) (378 + 42 * i.toNatClampNeg) ∧ fis i.toNatClampNeg = w (378 + 42 * i.toNatClampNeg + 41) ∧ BI G w (378 + 42 * i.toNatClampNeg))
theorem IR_of {G H w u fim fis f1 : Nat → Int32} {q10 : Int32} (h : IR G q10 fim fis f1 w) (e : ∀ x, 378 ≤ x → x < 462 → u x = w x) (e3 : H 3 = G 3) (e4 : H 4 = G 4) (e5 : H 5 = G 5) (e6 : H 6 = G 6) : IR H q10 fim fis f1 u := by
  obtain ⟨h1, h2⟩ := h
  refine ⟨h1, fun i hi => ⟨(h2 i hi).1, fun hk => ?_⟩⟩
  have hn : i.toNatClampNeg < 2 := by
    rcases hi with rfl | rfl
    · decide
    · decide
  obtain ⟨a, b, c⟩ := (h2 i hi).2 hk
  exact ⟨ST_of a (fun k hk => e _ (by omega) (by omega)), by rw [e _ (by omega) (by omega)]; exact b, BI_of c (fun k hk => e _ (by omega) (by omega)) e3 e4 e5 e6⟩
theorem IR_nil {G w fim fis : Nat → Int32} : IR G 0 fim fis (fun _ => 0) w := ⟨Or.inl rfl, fun i hi => ⟨⟨fun _ => rfl, fun _ => by rcases hi with rfl | rfl <;> decide⟩, fun hk => absurd rfl hk⟩⟩
theorem bit_or (q i j : Int32) (hq : q = 0 ∨ q = 1 ∨ q = 2 ∨ q = 3) (hi : i = 0 ∨ i = 1) (hj : j = 0 ∨ j = 1) : ((q ||| (1 <<< (i &&& 31))) = 0 ∨ (q ||| (1 <<< (i &&& 31))) = 1 ∨ (q ||| (1 <<< (i &&& 31))) = 2 ∨ (q ||| (1 <<< (i &&& 31))) = 3) ∧ (((q ||| (1 <<< (i &&& 31))) >>> (j &&& 31)) &&& 1 = 0 ↔ (j ≠ i ∧ (q >>> (j &&& 31)) &&& 1 = 0)) := by
  rcases hq with rfl | rfl | rfl | rfl <;> rcases hi with rfl | rfl <;> rcases hj with rfl | rfl <;> decide
