/-! a town's beginning, side by side -/
theorem six {c : Int32} (h0 : 0 ≤ c.toInt) (h1 : c.toInt < 6) : c = 0 ∨ c = 1 ∨ c = 2 ∨ c = 3 ∨ c = 4 ∨ c = 5 := by
  simp only [i_eq, Int32.reduceToInt]
  omega
theorem has_zero {c : Int32} (h0 : 0 ≤ c.toInt) (h1 : c.toInt < 6) : f_m_has 0 c = 0 := by
  rcases six h0 h1 with rfl | rfl | rfl | rfl | rfl | rfl <;> rfl
theorem fz (f : Nat → Int32) (k : Nat) : ∀ n : Nat, n < 2147483648 → fillZ f n k = if k < n then 0 else f k := by
  intro n
  induction n with
  | zero => intro _; rfl
  | succ n ih =>
    intro hn
    show upd (fillZ f n) (nI n).toNatClampNeg 0 k = _
    rw [nI_clamp (by omega)]
    replace ih := ih (by omega)
    by_cases c : k = n
    · subst c
      rw [pk_us, if_pos (by omega)]
    · rw [pk_un c, ih]
      by_cases d : k < n
      · rw [if_pos d, if_pos (by omega)]
      · rw [if_neg d, if_neg (by omega)]
theorem bg10 : ∀ (n : Nat) (i : Int32) (w : Nat → Int32), 0 ≤ i.toInt → i.toInt ≤ 42 → 42 - i.toInt < n → (∀ k : Nat, (k : Int) < i.toInt → w k = 0) → ∃ (j : Int32) (u : Nat → Int32), f_m_begins_10 n i w = (j, u) ∧ (∀ k : Nat, k < 42 → u k = 0) ∧ (∀ x : Nat, 42 ≤ x → u x = w x) := by
  intro n
  induction n with
  | zero => intro i w h0 h1 h2; omega
  | succ n ih =>
    intro i w h0 h1 h2 h3
    rw [f_m_begins_10_s]
    by_cases c : 42 ≤ i
    · rw [if_pos c]
      rw [i_le] at c
      simp only [Int32.reduceToInt] at c
      exact ⟨i, w, rfl, fun k hk => h3 k (by omega), fun x _ => rfl⟩
    · rw [if_neg c]
      rw [i_le] at c
      simp only [Int32.reduceToInt] at c
      have e := i_a1 (a := i) (by omega) (by omega)
      have ei := clI h0
      obtain ⟨j, u, x1, x2, x3⟩ := ih (i + 1) (upd w i.toNatClampNeg 0) (by omega) (by omega) (by omega) (fun k hk => by
        by_cases q : k = i.toNatClampNeg
        · subst q
          rw [pk_us]
        · rw [pk_un q]
          exact h3 k (by omega))
      exact ⟨j, u, x1, x2, fun x hx => by rw [x3 x hx, pk_un (by omega)]⟩
theorem bg31 {G fn ftb f9 : Nat → Int32} {t0 t1 t3 t4 : Int32} (h6 : (G 5).toInt ≤ 6) (hA : AG ftb f9 (G 5).toInt 0 99) : ∀ (n : Nat) (i : Int32) (f w : Nat → Int32), 0 ≤ i.toInt → i.toInt ≤ 6 → 6 - i.toInt < n → ST f w 0 0 → ∃ (j j' : Int32) (g u : Nat → Int32), f_e_begin_x7_10 fn t0 t1 (G 5) t3 t4 ftb n i f = (j, g) ∧ f_m_begins_31 G f9 n i w = (j', u) ∧ ST g u 0 0 ∧ (∀ c : Nat, i.toInt ≤ c → c < 6 → u c = (if (c : Int) < (G 5).toInt then f9 c else 0) ∧ u (6 + c) = -1) ∧ (∀ x : Nat, ¬ (i.toInt ≤ x ∧ x < 6) → ¬ (6 + i.toInt ≤ x ∧ x < 12) → u x = w x) := by
  intro n
  induction n with
  | zero => intro i f w h0 h1 h2; omega
  | succ n ih =>
    intro i f w h0 h1 h2 hS
    rw [f_e_begin_x7_10_s, f_m_begins_31_s]
    by_cases c : 6 ≤ i
    · rw [if_pos c, if_pos c]
      rw [i_le] at c
      simp only [Int32.reduceToInt] at c
      exact ⟨i, i, f, w, rfl, rfl, hS, fun c hc hl => by omega, fun x _ _ => rfl⟩
    · rw [if_neg c, if_neg c]
      rw [i_le] at c
      simp only [Int32.reduceToInt] at c
      have e := i_a1 (a := i) (by omega) (by omega)
      have ei := clI h0
      have i6 : i.toInt < 6 := by omega
      have x6 : (6 + i : Int32).toNatClampNeg = 6 + i.toNatClampNeg := sN (a := 6) (x := 6) (y := 6) rfl h0 i6 (by decide)
      rw [ix0, x6]
      have key : ∀ v : Int32, v = (if i.toInt < (G 5).toInt then f9 i.toNatClampNeg else 0) → ∃ (j j' : Int32) (g u : Nat → Int32), f_e_begin_x7_10 fn t0 t1 (G 5) t3 t4 ftb n (i + 1) (putF 41 (putF 41 f (2 + i) v) (8 + i) (-1)) = (j, g) ∧ f_m_begins_31 G f9 n (i + 1) (upd (upd w i.toNatClampNeg v) (6 + i.toNatClampNeg) (-1)) = (j', u) ∧ ST g u 0 0 ∧ (∀ c : Nat, i.toInt ≤ c → c < 6 → u c = (if (c : Int) < (G 5).toInt then f9 c else 0) ∧ u (6 + c) = -1) ∧ (∀ x : Nat, ¬ (i.toInt ≤ x ∧ x < 6) → ¬ (6 + i.toInt ≤ x ∧ x < 12) → u x = w x) := by
        intro v hv
        have s1 : ST (putF 41 f (2 + i) v) (upd w i.toNatClampNeg v) 0 0 := w_g hS h0 i6
        have s2 : ST (putF 41 (putF 41 f (2 + i) v) (8 + i) (-1)) (upd (upd w i.toNatClampNeg v) (6 + i.toNatClampNeg) (-1)) 0 0 := w_p s1 h0 i6
        obtain ⟨j, j', g, u, x1, x2, x3, x4, x5⟩ := ih (i + 1) _ _ (by omega) (by omega) (by omega) s2
        refine ⟨j, j', g, u, x1, x2, x3, fun c hc hl => ?_, fun x hx hy => ?_⟩
        · by_cases q : c = i.toNatClampNeg
          · subst q
            rw [x5 _ (by omega) (by omega), x5 _ (by omega) (by omega), pk_us, pk_un (by omega), pk_us, ei]
            exact ⟨hv, rfl⟩
          · exact x4 c (by omega) hl
        · rw [x5 x (by omega) (by omega), pk_un (by omega), pk_un (by omega)]
      by_cases d : G 5 ≤ i
      · rw [if_pos d, if_pos d]
        rw [i_le] at d
        exact key 0 (by rw [if_neg (by omega)])
      · rw [if_neg d, if_neg d]
        rw [i_le] at d
        have ev : atF 6 ftb i = f9 i.toNatClampNeg := by
          rw [at_in h0 i6]
          exact (hA i.toNatClampNeg (by omega)).1
        rw [ev]
        exact key _ (by rw [if_pos (by omega)])
theorem bg81 {fn ftb : Nat → Int32} {t0 t1 t2 t3 t4 : Int32} : ∀ (n : Nat) (i : Int32) (f w : Nat → Int32), 0 ≤ i.toInt → i.toInt ≤ 7 → 7 - i.toInt < n → ST f w 0 0 → ∃ (j j' : Int32) (g u : Nat → Int32), f_e_begin_x7_66 fn t0 t1 t2 t3 t4 ftb n i f = (j, g) ∧ f_m_begins_81 n i w = (j', u) ∧ ST g u 0 0 ∧ (∀ v : Nat, i.toInt ≤ v → v < 7 → u (27 + v) = -1 ∧ u (34 + v) = -1) ∧ (∀ x : Nat, ¬ (27 + i.toInt ≤ x ∧ x < 34) → ¬ (34 + i.toInt ≤ x ∧ x < 41) → u x = w x) := by
  intro n
  induction n with
  | zero => intro i f w h0 h1 h2; omega
  | succ n ih =>
    intro i f w h0 h1 h2 hS
    rw [f_e_begin_x7_66_s, f_m_begins_81_s]
    by_cases c : 7 ≤ i
    · rw [if_pos c, if_pos c]
      rw [i_le] at c
      simp only [Int32.reduceToInt] at c
      exact ⟨i, i, f, w, rfl, rfl, hS, fun c hc hl => by omega, fun x _ _ => rfl⟩
    · rw [if_neg c, if_neg c]
      rw [i_le] at c
      simp only [Int32.reduceToInt] at c
      have e := i_a1 (a := i) (by omega) (by omega)
      have ei := clI h0
      have i7 : i.toInt < 7 := by omega
      have x27 : (27 + i : Int32).toNatClampNeg = 27 + i.toNatClampNeg := sN (a := 27) (x := 27) (y := 7) rfl h0 i7 (by decide)
      have x34 : (34 + i : Int32).toNatClampNeg = 34 + i.toNatClampNeg := sN (a := 34) (x := 34) (y := 7) rfl h0 i7 (by decide)
      rw [x27, x34]
      have s2 : ST (putF 41 (putF 41 f (27 + i) (-1)) (34 + i) (-1)) (upd (upd w (27 + i.toNatClampNeg) (-1)) (34 + i.toNatClampNeg) (-1)) 0 0 := w_when (w_berth hS h0 i7) h0 i7
      obtain ⟨j, j', g, u, x1, x2, x3, x4, x5⟩ := ih (i + 1) _ _ (by omega) (by omega) (by omega) s2
      refine ⟨j, j', g, u, x1, x2, x3, fun c hc hl => ?_, fun x hx hy => ?_⟩
      · by_cases q : c = i.toNatClampNeg
        · subst q
          rw [x5 _ (by omega) (by omega), x5 _ (by omega) (by omega), pk_us, pk_un (by omega), pk_us]
          exact ⟨rfl, rfl⟩
        · exact x4 c (by omega) hl
      · rw [x5 x (by omega) (by omega), pk_un (by omega), pk_un (by omega)]
theorem begin_eq {G fn w ftb f9 : Nat → Int32} {t0 t1 t3 t4 : Int32} (hG : GI G) (h4 : 1 ≤ (G 4).toInt) (hA : AG ftb f9 (G 5).toInt 0 99) : ST (f_e_begin_x7 fn t0 t1 (G 5) t3 t4 ftb) (f_m_begins G w f9) 0 0 ∧ BI G (f_m_begins G w f9) 0 ∧ f_m_begins G w f9 41 = w 41 ∧ (∀ x : Nat, 42 ≤ x → f_m_begins G w f9 x = w x) := by
  have g0 := hG.2.2.2.1.1
  have g6 := hG.2.2.2.1.2
  have g3 := hG.2.1.1
  obtain ⟨j, u, x1, x2, x3⟩ := bg10 43 0 w (by decide) (by decide) (by decide) (fun k hk => absurd hk (by rw [i_0]; omega))
  have s0 : ST (fillZ fn 41) u 0 0 := by
    intro k hk
    have := cx_lt hk
    rw [Nat.zero_add, Nat.zero_add, fz _ _ 41 (by decide), if_pos hk, x2 _ (by omega)]
  obtain ⟨j1, j2, f1, w1, a1, a2, a3, a4, a5⟩ := bg31 (fn := fn) (t0 := t0) (t1 := t1) (t3 := t3) (t4 := t4) g6 hA 7 0 (fillZ fn 41) u (by decide) (by decide) (by decide) s0
  obtain ⟨j3, j4, f2, w2, b1, b2, b3, b4, b5⟩ := bg81 (fn := fn) (ftb := ftb) (t0 := t0) (t1 := t1) (t2 := G 5) (t3 := t3) (t4 := t4) 8 0 f1 w1 (by decide) (by decide) (by decide) a3
  rw [i_0] at a4 a5 b4 b5
  have he : f_e_begin_x7 fn t0 t1 (G 5) t3 t4 ftb = f2 := by
    unfold f_e_begin_x7
    have e7 : ((6 : Int32).toInt - (0 : Int32).toInt).toNat + 1 = 7 := rfl
    have e8 : ((7 : Int32).toInt - (0 : Int32).toInt).toNat + 1 = 8 := rfl
    rw [e7, a1]
    dsimp (config := { etaStruct := .none }) only
    rw [e8, b1]
  have hm : f_m_begins G w f9 = upd w2 41 (w 41) := by
    unfold f_m_begins
    have e43 : ((42 : Int32).toInt - (0 : Int32).toInt).toNat + 1 = 43 := rfl
    have e7 : ((6 : Int32).toInt - (0 : Int32).toInt).toNat + 1 = 7 := rfl
    have e8 : ((7 : Int32).toInt - (0 : Int32).toInt).toNat + 1 = 8 := rfl
    rw [e43, x1]
    dsimp (config := { etaStruct := .none }) only
    rw [e7, a2]
    dsimp (config := { etaStruct := .none }) only
    rw [e8, b2]
    rfl
  rw [he, hm]
  have v : ∀ x, x ≠ 41 → (upd w2 41 (w 41)) x = w2 x := fun x hx => pk_un hx
  have low : ∀ c : Nat, c < 6 → w2 c = (if (c : Int) < (G 5).toInt then f9 c else 0) ∧ w2 (6 + c) = -1 := by
    intro c hc
    rw [b5 c (by omega) (by omega), b5 (6 + c) (by omega) (by omega)]
    exact a4 c (by omega) hc
  have mid : ∀ x : Nat, 12 ≤ x → x < 27 → w2 x = 0 := by
    intro x h1 h2
    rw [b5 x (by omega) (by omega), a5 x (by omega) (by omega), x2 x (by omega)]
  refine ⟨ST_off b3 (by decide), ⟨fun c hc => ?_, fun c hc hg => ?_, fun c hc => ?_, fun c d hc hd _ _ => ?_, fun c hc => ?_, fun c h0 h1 hh => ?_, fun v' hv _ => ?_, fun v' hv _ => ?_, by rw [v _ (by decide), mid 18 (by decide) (by decide)]; decide⟩, pk_us, fun x hx => ?_⟩
  · rw [Nat.zero_add, v _ (by omega), (low c hc).1]
    by_cases q : (c : Int) < (G 5).toInt
    · rw [if_pos q]
      exact (hA c q).2
    · rw [if_neg q]
      decide
  · rw [Nat.zero_add, Nat.zero_add, v _ (by omega), v _ (by omega), (low c hc).1, (low c hc).2, if_neg (by omega)]
    exact ⟨rfl, rfl⟩
  · rw [Nat.zero_add, v _ (by omega), (low c hc).2, i_m1]
    omega
  · rw [Nat.zero_add, v _ (by omega), (low c hc).2]
  · rw [Nat.zero_add, v _ (by omega), mid _ (by omega) (by omega), i_0]
    omega
  · rw [Nat.zero_add, v _ (by omega), mid 18 (by omega) (by omega), has_zero h0 h1] at hh
    exact absurd rfl hh
  · rw [Nat.zero_add, Nat.zero_add, v _ (by omega), v _ (by omega)]
    exact b4 v' (by omega) hv
  · rw [Nat.zero_add, v _ (by omega), mid _ (by omega) (by omega)]
  · rw [v _ (by omega), b5 x (by omega) (by omega), a5 x (by omega) (by omega), x3 x hx]
