section
/-! the calls without loops, side by side -/
section
variable {q1 q2 q10 q12 t0 t1 t2 t3 t4 p1 p2 b0 : Int32} {ftx fta ftb ftc ftd fte fn fsh fim fis fba fbb G w f1 f8 f9 f10 f11 f12 f13 f43 f44 : Nat → Int32}
theorem R_feed {c_ rx x0 ry : Int32} {x1 y0 y1 : Nat → Int32} (hG : GI G) (hR : RS q1 q2 ftx f13 t0 t1 t2 t3 t4 fta ftb ftc ftd fte f8 f9 f10 f11 f12 b0 fba fbb f43 f44 G) (hD : DY q10 q12 p1 p2 fn fsh fim fis f1 G w) (ex : (rx, x0, x1) = f_e_feed_x9 q1 q2 q10 q12 ftx c_) (em : (ry, y0, y1) = f_m_feed G f13 c_) : rx = ry ∧ RS x0 q2 x1 y1 t0 t1 t2 t3 t4 fta ftb ftc ftd fte f8 f9 f10 f11 f12 b0 fba fbb f43 f44 y0 ∧ DY q10 q12 p1 p2 fn fsh fim fis f1 y0 w := by
  obtain ⟨⟨rfl, rfl, h3⟩, hN, hK⟩ := hR
  have g0 := hG.2.2.2.2.2.1
  have hR0 : RS (G 14) q2 ftx ftx t0 t1 t2 t3 t4 fta ftb ftc ftd fte f8 f9 f10 f11 f12 b0 fba fbb f43 f44 G := ⟨⟨rfl, rfl, h3⟩, hN, hK⟩
  unfold f_e_feed_x9 at ex
  unfold f_m_feed at em
  by_cases c1 : f_m_in c_.toInt64 0 255 = 0
  · rw [if_pos c1] at em
    rw [i_in, Int32.toInt_toInt64] at c1
    simp only [Int64.reduceToInt] at c1
    by_cases c2 : c_ < 0
    · rw [if_pos c2] at ex
      cases ex; cases em
      exact ⟨rfl, hR0, hD⟩
    · rw [if_neg c2] at ex
      by_cases c3 : c_ ≤ 255
      · simp only [i_lt, i_le, Int32.reduceToInt] at c2 c3
        omega
      · rw [if_neg c3] at ex
        cases ex; cases em
        exact ⟨rfl, hR0, hD⟩
  · rw [if_neg c1] at em
    rw [i_in, Int32.toInt_toInt64] at c1
    simp only [Int64.reduceToInt] at c1
    have c2 : ¬ c_ < 0 := by
      simp only [i_lt, Int32.reduceToInt]
      omega
    have c3 : c_ ≤ 255 := by
      simp only [i_le, Int32.reduceToInt]
      omega
    rw [if_neg c2, if_pos c3] at ex
    by_cases c4 : G 14 = 240
    · rw [if_pos c4] at em
      have c5 : ¬ G 14 < 240 := by rw [c4]; decide
      rw [if_neg c5] at ex
      cases ex; cases em
      exact ⟨rfl, hR0, hD⟩
    · rw [if_neg c4] at em
      have c5 : G 14 < 240 := by
        simp only [i_eq, Int32.reduceToInt] at c4
        simp only [i_lt, Int32.reduceToInt]
        omega
      rw [if_pos c5] at ex
      rw [i_lt] at c5
      simp only [Int32.reduceToInt] at c5
      cases ex; cases em
      refine ⟨rfl, ⟨⟨pk_us.symm, ?_, ?_⟩, TN_of hN (fun k a b => pk_un (by omega)), BK_of hK (pk_un (by decide))⟩, DY_of hD hG (fun x _ => rfl) (fun k a b => pk_un (by omega))⟩
      · exact put_in g0.1 c5
      · rw [pk_un (by decide)]
        exact h3
theorem R_write {c_ g_ rx x0 ry : Int32} {x1 x2 y0 y1 y2 : Nat → Int32} (hG : GI G) (hR : RS q1 q2 ftx f13 t0 t1 t2 t3 t4 fta ftb ftc ftd fte f8 f9 f10 f11 f12 b0 fba fbb f43 f44 G) (hD : DY q10 q12 p1 p2 fn fsh fim fis f1 G w) (ex : (rx, x0, x1, x2) = f_e_write_x9 q1 q2 q10 q12 t0 t1 t2 t3 t4 b0 fba fbb c_ g_) (em : (ry, y0, y1, y2) = f_m_write G f43 f44 c_ g_) : rx = ry ∧ RS q1 q2 ftx f13 t0 t1 t2 t3 t4 fta ftb ftc ftd fte f8 f9 f10 f11 f12 x0 x1 x2 y1 y2 y0 ∧ DY q10 q12 p1 p2 fn fsh fim fis f1 y0 w := by
  have hR0 := hR
  obtain ⟨hX, hN, ⟨rfl, rfl, rfl⟩⟩ := hR
  have hN0 := hN
  obtain ⟨_, _, rfl, _⟩ := hN
  have g0 := hG.2.2.2.2.2.2
  unfold f_e_write_x9 at ex
  unfold f_m_write at em
  by_cases c1 : f_m_isCouple G c_ = 0
  · rw [if_pos c1] at em
    rw [if_pos ((q_couple hG _ _ _ _ _).mpr c1)] at ex
    cases ex; cases em
    exact ⟨rfl, hR0, hD⟩
  · rw [if_neg c1] at em
    rw [if_neg (fun q => c1 ((q_couple hG _ _ _ _ _).mp q))] at ex
    by_cases c2 : f_m_in g_.toInt64 0 99 = 0
    · rw [if_pos c2] at em
      rw [i_in, Int32.toInt_toInt64] at c2
      simp only [Int64.reduceToInt] at c2
      by_cases c3 : g_ < 0
      · rw [if_pos c3] at ex
        cases ex; cases em
        exact ⟨rfl, hR0, hD⟩
      · rw [if_neg c3] at ex
        have c4 : ¬ g_ ≤ 99 := by
          simp only [i_lt, i_le, Int32.reduceToInt] at c3 ⊢
          omega
        rw [if_neg c4] at ex
        cases ex; cases em
        exact ⟨rfl, hR0, hD⟩
    · rw [if_neg c2] at em
      rw [i_in, Int32.toInt_toInt64] at c2
      simp only [Int64.reduceToInt] at c2
      have c3 : ¬ g_ < 0 := by
        simp only [i_lt, Int32.reduceToInt]
        omega
      have c4 : g_ ≤ 99 := by
        simp only [i_le, Int32.reduceToInt]
        omega
      rw [if_neg c3, if_pos c4] at ex
      by_cases c5 : G 42 = 15
      · rw [if_pos c5] at em
        rw [if_neg (by rw [c5]; decide)] at ex
        cases ex; cases em
        exact ⟨rfl, hR0, hD⟩
      · rw [if_neg c5] at em
        have c6 : G 42 < 15 := by
          simp only [i_eq, Int32.reduceToInt] at c5
          simp only [i_lt, Int32.reduceToInt]
          omega
        rw [if_pos c6] at ex
        rw [i_lt] at c6
        simp only [Int32.reduceToInt] at c6
        unfold f_e_enter_x0 at ex
        cases ex; cases em
        exact ⟨rfl, ⟨TX_of hX (pk_un (by decide)) (pk_un (by decide)), TN_of hN0 (fun k a b => pk_un (by omega)), ⟨pk_us.symm, put_in g0.1 c6, put_in g0.1 c6⟩⟩, DY_of hD hG (fun x _ => rfl) (fun k a b => pk_un (by omega))⟩
theorem R_tear {rx x0 ry : Int32} {y0 : Nat → Int32} (hG : GI G) (hR : RS q1 q2 ftx f13 t0 t1 t2 t3 t4 fta ftb ftc ftd fte f8 f9 f10 f11 f12 b0 fba fbb f43 f44 G) (hD : DY q10 q12 p1 p2 fn fsh fim fis f1 G w) (ex : (rx, x0) = f_e_tear_x9 q1 q2 q10 q12 b0) (em : (ry, y0) = f_m_tear G) : rx = ry ∧ RS q1 q2 ftx f13 t0 t1 t2 t3 t4 fta ftb ftc ftd fte f8 f9 f10 f11 f12 x0 fba fbb f43 f44 y0 ∧ DY q10 q12 p1 p2 fn fsh fim fis f1 y0 w := by
  obtain ⟨hX, hN, ⟨rfl, h2, h3⟩⟩ := hR
  unfold f_e_tear_x9 f_e_clear_x0 at ex
  unfold f_m_tear at em
  cases ex; cases em
  exact ⟨rfl, ⟨TX_of hX (pk_un (by decide)) (pk_un (by decide)), TN_of hN (fun k a b => pk_un (by omega)), ⟨pk_us.symm, h2, h3⟩⟩, DY_of hD hG (fun x _ => rfl) (fun k a b => pk_un (by omega))⟩
theorem R_seed {v_ rx x0 ry : Int32} {y0 : Nat → Int32} (hG : GI G) (hD : DY q10 q12 p1 p2 fn fsh fim fis f1 G w) (ex : (rx, x0) = f_e_seed_x9 q1 q2 q10 q12 v_) (em : (ry, y0) = f_m_seed w v_) : rx = ry ∧ DY q10 x0 p1 p2 fn fsh fim fis f1 G y0 := by
  have hD0 := hD
  obtain ⟨⟨hS, hB, rfl⟩, hU, hI⟩ := hD
  unfold f_e_seed_x9 at ex
  unfold f_m_seed at em
  by_cases c : 0 ≤ v_
  · rw [if_pos c] at ex em
    cases ex; cases em
    refine ⟨rfl, ⟨ST_off hS (by decide), BI_m hB (Or.inr (by decide)), pk_us.symm⟩, UR_of hU hG (fun x h _ => pk_un ?_) rfl rfl rfl rfl rfl, IR_of hI (fun x h _ => pk_un ?_) rfl rfl rfl rfl⟩
    · show x ≠ 41
      omega
    · show x ≠ 41
      omega
  · rw [if_neg c] at ex em
    cases ex; cases em
    exact ⟨rfl, hD0⟩
theorem R_undo {rx x0 ry : Int32} {x1 y0 y1 : Nat → Int32} (hG : GI G) (hR : RS q1 q2 ftx f13 t0 t1 t2 t3 t4 fta ftb ftc ftd fte f8 f9 f10 f11 f12 b0 fba fbb f43 f44 G) (hD : DY q10 q12 p1 p2 fn fsh fim fis f1 G w) (ex : (rx, x0, x1) = f_e_undo_x9 q1 q2 q10 q12 p1 p2 fsh fn) (em : (ry, y0, y1) = f_m_undo G w) : rx = ry ∧ RS q1 q2 ftx f13 t0 t1 t2 t3 t4 fta ftb ftc ftd fte f8 f9 f10 f11 f12 b0 fba fbb f43 f44 y0 ∧ DY q10 q12 p1 x0 x1 fsh fim fis f1 y0 y1 := by
  have hD0 := hD
  obtain ⟨⟨hS, hB, rfl⟩, ⟨rfl, u2, u3, u4⟩, hI⟩ := hD
  have g0 := hG.1
  unfold f_e_undo_x9 at ex
  unfold f_m_undo at em
  by_cases c : G 2 = 0
  · rw [if_pos c] at ex em
    cases ex; cases em
    exact ⟨rfl, hR, hD0⟩
  · have c' : 0 < (G 2).toInt := by
      rw [i_eq, i_0] at c
      omega
    have e1 := i_sub (a := G 2) (b := 1) (by rw [i_1]; omega) (by rw [i_1]; omega)
    rw [i_1] at e1
    have x42 : (42 : Int32).toInt = 42 := rfl
    have x462 : (462 : Int32).toInt = 462 := rfl
    have em1 := i_mulc (a := 42) (k := 42) (b := G 2 - 1) rfl (by omega) (by omega)
    have ea := i_add (a := 462) (b := 42 * (G 2 - 1)) (by omega) (by omega)
    rw [em1, x462, e1] at ea
    have eg := clI (c := G 2 - 1) (by omega)
    have eN : (462 + 42 * (G 2 - 1) : Int32).toNatClampNeg = 462 + 42 * (G 2 - 1).toNatClampNeg := by
      rw [i_clamp, i_clamp, ea, e1]
      omega
    have cs := copy_spec (fr := 462 + 42 * (G 2 - 1)) (to := 0) w (by omega) (by omega) (by decide) (by decide) (by rw [i_0, ea]; omega)
    have n0 : (0 : Int32).toNatClampNeg = 0 := rfl
    rw [eN, n0, i_0] at cs
    generalize hC : f_m_copy w (462 + 42 * (G 2 - 1)) 0 = C at em cs
    have a2 := i_add (a := p1) (b := G 2 - 1) (by omega) (by omega)
    have s2 := mod20 (x := p1 + (G 2 - 1)) (by omega) (by omega)
    have et : f_e_takeBack_x2 p1 (G 2) fsh fn = (G 2 - 1, f_e_fetch20 fsh fn ((p1 + (G 2 - 1)) - (p1 + (G 2 - 1)) / 20 * 20)) := by
      unfold f_e_takeBack_x2
      rw [if_neg (by rw [i_le, i_0]; omega)]
    rw [if_neg c, et] at ex
    generalize hs : (p1 + (G 2 - 1)) - (p1 + (G 2 - 1)) / 20 * 20 = sl at s2 ex
    have es := clI (c := sl) (by omega)
    have ep := clI u2
    have ft := fetch_spec (fsh := fsh) (fn := fn) (i := sl) (by omega) (by omega)
    rw [if_neg c] at em
    cases ex; cases em
    obtain ⟨z1, z2⟩ := u4 (G 2 - 1).toNatClampNeg (by omega)
    have hsl : (p1.toNatClampNeg + (G 2 - 1).toNatClampNeg) % 20 = sl.toNatClampNeg := by omega
    rw [hsl] at z1
    have v : ∀ x, x ≠ 41 → (upd C (41 : Int32).toNatClampNeg (w (41 : Int32).toNatClampNeg)) x = C x := fun x hx => pk_un hx
    have lo : ∀ k, k < 41 → (upd C (41 : Int32).toNatClampNeg (w (41 : Int32).toNatClampNeg)) (0 + k) = w (462 + 42 * (G 2 - 1).toNatClampNeg + k) := by
      intro k hk
      rw [Nat.zero_add, v k (by omega)]
      have := cs.1 k (by omega)
      rw [Nat.zero_add] at this
      exact this
    have hi : ∀ x, 42 ≤ x → (upd C (41 : Int32).toNatClampNeg (w (41 : Int32).toNatClampNeg)) x = w x := by
      intro x hx
      rw [v x (by omega), cs.2 x (by omega)]
    refine ⟨?_, RS_of hR (fun k h _ => pk_un (by omega)), ⟨fun k hk => ?_, BI_of z2 lo (pk_un (by decide)) (pk_un (by decide)) (pk_un (by decide)) (pk_un (by decide)), ?_⟩, ⟨pk_us.symm, u2, u3, fun i hh => ?_⟩, IR_of hI (fun x h _ => hi x (by omega)) (pk_un (by decide)) (pk_un (by decide)) (pk_un (by decide)) (pk_un (by decide))⟩
    · rw [pk_us]
    · have := cx_lt hk
      rw [Nat.zero_add, ft k hk, z1 k hk, lo _ this]
    · show w 41 = upd C 41 (w 41) 41
      rw [pk_us]
    · rw [pk_us] at hh
      obtain ⟨y1, y2⟩ := u4 i (by omega)
      exact ⟨ST_of y1 (fun k hk => hi _ (by omega)), BI_of y2 (fun k hk => hi _ (by omega)) (pk_un (by decide)) (pk_un (by decide)) (pk_un (by decide)) (pk_un (by decide))⟩
theorem img {i : Int32} (hi : i = 0 ∨ i = 1) : 0 ≤ i.toInt ∧ i.toInt < 2 ∧ (378 + 42 * i : Int32).toInt = 378 + 42 * (i.toNatClampNeg : Int) ∧ (378 + 42 * i : Int32).toNatClampNeg = 378 + 42 * i.toNatClampNeg ∧ i.toNatClampNeg < 2 := by
  rcases hi with rfl | rfl
  · decide
  · decide
theorem two {i : Int32} (h0 : 0 ≤ i.toInt) (h1 : i.toInt ≤ 1) : i = 0 ∨ i = 1 := by
  simp only [i_eq, Int32.reduceToInt]
  omega
theorem R_keep {i_ rx x0 x3 ry : Int32} {x1 x2 y0 y1 y2 : Nat → Int32} (hG : GI G) (hR : RS q1 q2 ftx f13 t0 t1 t2 t3 t4 fta ftb ftc ftd fte f8 f9 f10 f11 f12 b0 fba fbb f43 f44 G) (hD : DY q10 q12 p1 p2 fn fsh fim fis f1 G w) (ex : (rx, x0, x1, x2, x3) = f_e_keep_x9 q1 q2 q10 q12 fim fis fn p1 p2 i_) (em : (ry, y0, y1, y2) = f_m_keep G w f1 i_) : rx = ry ∧ RS q1 q2 ftx f13 t0 t1 t2 t3 t4 fta ftb ftc ftd fte f8 f9 f10 f11 f12 b0 fba fbb f43 f44 y0 ∧ DY x0 q12 p1 x3 fn fsh x1 x2 y2 y0 y1 := by
  have hD0 := hD
  obtain ⟨⟨hS, hB, rfl⟩, ⟨rfl, u2, u3, u4⟩, hI⟩ := hD
  unfold f_e_keep_x9 at ex
  unfold f_m_keep at em
  by_cases c1 : f_m_in i_.toInt64 0 1 = 0
  · rw [if_pos c1] at em
    rw [i_in, Int32.toInt_toInt64] at c1
    simp only [Int64.reduceToInt] at c1
    by_cases c2 : i_ < 0
    · rw [if_pos c2] at ex
      cases ex; cases em
      exact ⟨rfl, hR, hD0⟩
    · rw [if_neg c2] at ex
      have c3 : ¬ i_ < 2 := by
        simp only [i_lt, Int32.reduceToInt] at c2 ⊢
        omega
      rw [if_neg c3] at ex
      cases ex; cases em
      exact ⟨rfl, hR, hD0⟩
  · rw [if_neg c1] at em
    rw [i_in, Int32.toInt_toInt64] at c1
    simp only [Int64.reduceToInt] at c1
    have c2 : ¬ i_ < 0 := by
      simp only [i_lt, Int32.reduceToInt]
      omega
    have c3 : i_ < 2 := by
      simp only [i_lt, Int32.reduceToInt]
      omega
    rw [if_neg c2, if_pos c3] at ex
    have hi := two (i := i_) (by omega) (by omega)
    obtain ⟨j0, j1, j2, j3, j4⟩ := img hi
    have cs := copy_spec (fr := 0) (to := 378 + 42 * i_) w (by decide) (by decide) (by omega) (by omega) (by rw [i_0]; omega)
    have n0 : (0 : Int32).toNatClampNeg = 0 := rfl
    rw [j3, n0, j2] at cs
    have st := store2_spec (fsh := fim) (fn := fn) (i := i_) j0 j1
    have hp := put_in (n := 2) (f := fis) (x := w 41) j0 j1
    unfold f_e_forget_x2 at ex
    rw [hp] at ex
    generalize f_m_copy w 0 (378 + 42 * i_) = C at em cs
    have lo : ∀ x, x < 42 ∨ 462 ≤ x → C x = w x := fun x hx => cs.2 x (by omega)
    cases ex; cases em
    refine ⟨rfl, RS_of hR (fun k h _ => pk_un (by omega)), ⟨ST_of hS (fun k hk => by rw [Nat.zero_add]; exact lo k (by omega)), BI_of hB (fun k hk => by rw [Nat.zero_add]; exact lo k (by omega)) (pk_un (by decide)) (pk_un (by decide)) (pk_un (by decide)) (pk_un (by decide)), (lo 41 (by decide)).symm⟩, UR_nil (G := G) u2 u3 pk_us, (bit_or _ i_ i_ hI.1 hi hi).1, fun j hj => ?_⟩
    obtain ⟨l0, l1, l2, l3, l4⟩ := img hj
    by_cases q : j = i_
    · subst q
      have nz : vp_nar .boolean 1 = 1 := rfl
      refine ⟨?_, fun _ => ⟨fun k hk => ?_, ?_, ?_⟩⟩
      · rw [(bit_or _ j j hI.1 hi hi).2, pk_us, nz]
        exact ⟨fun z => absurd rfl z.1, fun z => absurd z (by decide)⟩
      · have := cx_lt hk
        have h0 := hS k hk
        rw [Nat.zero_add, Nat.zero_add] at h0
        rw [st.1 k hk, h0, cs.1 (cx k) (by omega), Nat.zero_add]
      · rw [pk_us, cs.1 41 (by decide), Nat.zero_add]
      · exact BI_of hB (fun k hk => cs.1 k (by omega)) (pk_un (by decide)) (pk_un (by decide)) (pk_un (by decide)) (pk_un (by decide))
    · have qn : j.toNatClampNeg ≠ i_.toNatClampNeg := fun z => q (cl_inj l0 j0 z)
      obtain ⟨k1, k2⟩ := hI.2 j hj
      refine ⟨?_, fun hh => ?_⟩
      · rw [(bit_or _ i_ j hI.1 hi hj).2, pk_un qn]
        exact ⟨fun z => k1.mp z.2, fun z => ⟨q, k1.mpr z⟩⟩
      · rw [pk_un qn] at hh
        obtain ⟨y1, y2, y3⟩ := k2 hh
        refine ⟨fun k hk => ?_, ?_, ?_⟩
        · have := cx_lt hk
          rw [st.2 _ k qn hk, y1 k hk, cs.2 _ (by omega)]
        · rw [pk_un qn, y2, cs.2 _ (by omega)]
        · exact BI_of y3 (fun k hk => cs.2 _ (by omega)) (pk_un (by decide)) (pk_un (by decide)) (pk_un (by decide)) (pk_un (by decide))
theorem R_goBack {i_ rx x0 x2 ry : Int32} {x1 y0 y1 : Nat → Int32} (hG : GI G) (hR : RS q1 q2 ftx f13 t0 t1 t2 t3 t4 fta ftb ftc ftd fte f8 f9 f10 f11 f12 b0 fba fbb f43 f44 G) (hD : DY q10 q12 p1 p2 fn fsh fim fis f1 G w) (ex : (rx, x0, x1, x2) = f_e_goBack_x9 q1 q2 q10 q12 fim fis fn p1 p2 i_) (em : (ry, y0, y1) = f_m_goBack G w f1 i_) : rx = ry ∧ RS q1 q2 ftx f13 t0 t1 t2 t3 t4 fta ftb ftc ftd fte f8 f9 f10 f11 f12 b0 fba fbb f43 f44 y0 ∧ DY q10 x0 p1 x2 x1 fsh fim fis f1 y0 y1 := by
  have hD0 := hD
  obtain ⟨⟨hS, hB, rfl⟩, ⟨rfl, u2, u3, u4⟩, hI⟩ := hD
  unfold f_e_goBack_x9 at ex
  unfold f_m_goBack at em
  by_cases c1 : f_m_in i_.toInt64 0 1 = 0
  · rw [if_pos c1] at em
    rw [i_in, Int32.toInt_toInt64] at c1
    simp only [Int64.reduceToInt] at c1
    by_cases c2 : i_ < 0
    · rw [if_pos c2] at ex
      cases ex; cases em
      exact ⟨rfl, hR, hD0⟩
    · rw [if_neg c2] at ex
      have c3 : ¬ i_ < 2 := by
        simp only [i_lt, Int32.reduceToInt] at c2 ⊢
        omega
      rw [if_neg c3] at ex
      cases ex; cases em
      exact ⟨rfl, hR, hD0⟩
  · rw [if_neg c1] at em
    rw [i_in, Int32.toInt_toInt64] at c1
    simp only [Int64.reduceToInt] at c1
    have c2 : ¬ i_ < 0 := by
      simp only [i_lt, Int32.reduceToInt]
      omega
    have c3 : i_ < 2 := by
      simp only [i_lt, Int32.reduceToInt]
      omega
    rw [if_neg c2, if_pos c3] at ex
    have hi := two (i := i_) (by omega) (by omega)
    obtain ⟨j0, j1, j2, j3, j4⟩ := img hi
    obtain ⟨k1, k2⟩ := hI.2 i_ hi
    by_cases c4 : f1 i_.toNatClampNeg = 0
    · rw [if_pos c4] at em
      rw [if_pos (k1.mpr c4)] at ex
      cases ex; cases em
      exact ⟨rfl, hR, hD0⟩
    · rw [if_neg c4] at em
      rw [if_neg (fun z => c4 (k1.mp z))] at ex
      obtain ⟨y1, y2, y3⟩ := k2 c4
      have cs := copy_spec (fr := 378 + 42 * i_) (to := 0) w (by omega) (by omega) (by decide) (by decide) (by rw [i_0]; omega)
      have n0 : (0 : Int32).toNatClampNeg = 0 := rfl
      rw [j3, n0, i_0] at cs
      have ft := fetch2_spec (fsh := fim) (fn := fn) (i := i_) j0 j1
      have ha := at_in (n := 2) (f := fis) j0 j1
      unfold f_e_forget_x2 at ex
      rw [ha] at ex
      generalize f_m_copy w (378 + 42 * i_) 0 = C at em cs
      have lo : ∀ k, k < 42 → C (0 + k) = w (378 + 42 * i_.toNatClampNeg + k) := fun k hk => cs.1 k hk
      cases ex; cases em
      refine ⟨rfl, RS_of hR (fun k h _ => pk_un (by omega)), ⟨fun k hk => ?_, BI_of y3 (fun k hk => lo k (by omega)) (pk_un (by decide)) (pk_un (by decide)) (pk_un (by decide)) (pk_un (by decide)), ?_⟩, UR_nil (G := G) u2 u3 pk_us, IR_of hI (fun x h _ => cs.2 x (by omega)) (pk_un (by decide)) (pk_un (by decide)) (pk_un (by decide)) (pk_un (by decide))⟩
      · have := cx_lt hk
        rw [Nat.zero_add, ft k hk, y1 k hk, lo _ (by omega)]
      · have := lo 41 (by decide)
        rw [Nat.zero_add] at this
        rw [this]
        exact y2
theorem R_send {c_ b_ e_ rx x1 x2 ry : Int32} {x0 x3 y0 y1 : Nat → Int32} (hG : GI G) (hR : RS q1 q2 ftx f13 t0 t1 t2 t3 t4 fta ftb ftc ftd fte f8 f9 f10 f11 f12 b0 fba fbb f43 f44 G) (hD : DY q10 q12 p1 p2 fn fsh fim fis f1 G w) (ex : (rx, x0, x1, x2, x3) = f_e_send_x9 q1 q2 q10 q12 t0 t1 t2 t3 t4 fn p1 p2 fsh c_ b_ e_) (em : (ry, y0, y1) = f_m_send G w c_ b_ e_) : rx = ry ∧ RS q1 q2 ftx f13 t0 t1 t2 t3 t4 fta ftb ftc ftd fte f8 f9 f10 f11 f12 b0 fba fbb f43 f44 y0 ∧ DY q10 q12 x1 x2 x0 x3 fim fis f1 y0 y1 := by
  have hR0 := hR
  have hD0 := hD
  obtain ⟨hX, ⟨et0, et1, et2, _⟩, hK⟩ := hR
  obtain ⟨⟨hS, hB, hq⟩, hU, hI⟩ := hD
  unfold f_e_send_x9 at ex
  rw [et0, et1, et2] at ex
  unfold f_m_send at em
  by_cases c1 : f_m_isCouple G c_ = 0
  · rw [if_pos c1] at em
    rw [if_pos ((q_couple hG _ _ _ _ _).mpr c1)] at ex
    cases ex; cases em
    exact ⟨rfl, hR0, hD0⟩
  rw [if_neg c1] at em
  rw [if_neg (fun q => c1 ((q_couple hG _ _ _ _ _).mp q))] at ex
  by_cases c2 : f_m_isBridge G b_ = 0
  · rw [if_pos c2] at em
    rw [if_pos ((q_bridge hG _ _ _ _ _).mpr c2)] at ex
    cases ex; cases em
    exact ⟨rfl, hR0, hD0⟩
  rw [if_neg c2] at em
  rw [if_neg (fun q => c2 ((q_bridge hG _ _ _ _ _).mp q))] at ex
  by_cases c3 : f_m_isTheme G e_ = 0
  · rw [if_pos c3] at em
    rw [if_pos ((q_theme hG _ _ _ _ _).mpr c3)] at ex
    cases ex; cases em
    exact ⟨rfl, hR0, hD0⟩
  rw [if_neg c3] at em
  rw [if_neg (fun q => c3 ((q_theme hG _ _ _ _ _).mp q))] at ex
  obtain ⟨a0, a1, a2⟩ := l_couple hG c1
  obtain ⟨b0', b1', b2'⟩ := l_bridge hG c2
  obtain ⟨e0, e1, e2⟩ := l_theme hG c3
  have x6 : (6 + c_ : Int32).toNatClampNeg = 6 + c_.toNatClampNeg := sN (a := 6) (x := 6) (y := 6) rfl a0 a2 (by decide)
  have x12 : (12 + c_ : Int32).toNatClampNeg = 12 + c_.toNatClampNeg := sN (a := 12) (x := 12) (y := 6) rfl a0 a2 (by decide)
  have hn := clN (n := 6) a0 a2
  have hi := clI a0
  rw [e_done hS, at_eq hS hG hB b0'] at ex
  rw [x6, x12] at em
  have fin : (∀ d : Nat, d < 6 → d ≠ c_.toNatClampNeg → w (6 + d) = b_ → b_ = -1) → ∀ (s1 s2 : Int32) (gsh H u : Nat → Int32), f_e_remember_x2 p1 p2 fsh fn = (s1, s2, gsh) → f_m_minds G w = (H, u) → (rx, x0, x1, x2, x3) = (f_e_bridgeOf fn c_, f_e_turnTo (f_e_place fn c_ b_) c_ e_, s1, s2, gsh) → (ry, y0, y1) = (u (6 + c_.toNatClampNeg), H, upd (upd u (6 + c_.toNatClampNeg) b_) (12 + c_.toNatClampNeg) e_) → rx = ry ∧ RS q1 q2 ftx f13 t0 t1 t2 t3 t4 fta ftb ftc ftd fte f8 f9 f10 f11 f12 b0 fba fbb f43 f44 y0 ∧ DY q10 q12 x1 x2 x0 x3 fim fis f1 y0 y1 := by
    intro huq s1 s2 gsh H u r1 r2 ex em
    obtain ⟨s1', s2', gsh', H', u', r1', r2', r3, r4, gH, sn, go⟩ := DY_go (q12' := q12) (fn' := f_e_turnTo (f_e_place fn c_ b_) c_ e_) hD0 hG
    rw [r1] at r1'
    rw [r2] at r2'
    cases r1'; cases r2'; cases ex; cases em
    refine ⟨?_, RS_of hR0 (fun k h _ => r3 k (by omega)), go _ (fun x hx => by rw [pk_un (by omega), pk_un (by omega)]) ⟨w_t (w_p sn.1 a0 a2) a0 a2, ?_, ?_⟩⟩
    · rw [e_p hS a0 a2, r4 _ (by omega)]
    · refine BI_t (BI_p sn.2.1 hn (by rw [r3 5 (by decide)]; omega) (by omega) (by rw [r3 3 (by decide)]; exact b1') (fun d hd hn' hw => ?_)) hn e0 (by rw [r3 4 (by decide)]; exact e1)
      rw [r4 _ (by omega)] at hw
      exact huq d hd hn' hw
    · rw [pk_un (by omega), pk_un (by omega)]
      exact sn.2.2
  by_cases c4 : f_m_isDone w c_ = 0
  · rw [if_pos c4] at ex em
    have wsp := who_spec (w := w) (b := b_) hG
    obtain ⟨bb1, bb2, bb3, bb4, bb5, bb6, bb7, bb8, bb9⟩ := hB
    simp only [Nat.zero_add] at bb2 bb4
    cases hr : f_e_remember_x2 p1 p2 fsh fn with
    | mk s1 z =>
      obtain ⟨s2, gsh⟩ := z
      cases hm : f_m_minds G w with
      | mk H u =>
        rw [hr] at ex
        rw [hm] at em
        dsimp (config := { etaStruct := .none }) only at ex em
        by_cases c5 : f_m_whoIsAt G w 0 b_ = -1
        · rw [if_pos c5] at ex em
          refine fin (fun d hd _ hw => ?_) s1 s2 gsh H u hr hm ex em
          rcases wsp with ⟨_, q⟩ | ⟨q, _⟩
          · by_cases z : (d : Int) < (G 5).toInt
            · exact absurd hw (q d z)
            · rw [← hw]
              exact (bb2 d hd (by omega)).2
          · rw [c5, i_m1] at q
            omega
        · rw [if_neg c5] at ex em
          by_cases c6 : f_m_whoIsAt G w 0 b_ = c_
          · rw [if_pos c6] at ex em
            refine fin (fun d hd hne hw => ?_) s1 s2 gsh H u hr hm ex em
            rcases wsp with ⟨q, _⟩ | ⟨_, _, q⟩
            · exact absurd q c5
            · rw [c6] at q
              have := bb4 d c_.toNatClampNeg hd hn hne (by rw [hw, q])
              rw [← hw]
              exact this
          · rw [if_neg c6] at ex em
            cases ex; cases em
            exact ⟨rfl, hR0, hD0⟩
  · rw [if_neg c4] at ex em
    cases ex; cases em
    exact ⟨rfl, hR0, hD0⟩
theorem R_home {c_ rx x1 x2 ry : Int32} {x0 x3 y0 y1 : Nat → Int32} (hG : GI G) (hR : RS q1 q2 ftx f13 t0 t1 t2 t3 t4 fta ftb ftc ftd fte f8 f9 f10 f11 f12 b0 fba fbb f43 f44 G) (hD : DY q10 q12 p1 p2 fn fsh fim fis f1 G w) (ex : (rx, x0, x1, x2, x3) = f_e_home_x9 q1 q2 q10 q12 t0 t1 t2 t3 t4 fn p1 p2 fsh c_) (em : (ry, y0, y1) = f_m_home G w c_) : rx = ry ∧ RS q1 q2 ftx f13 t0 t1 t2 t3 t4 fta ftb ftc ftd fte f8 f9 f10 f11 f12 b0 fba fbb f43 f44 y0 ∧ DY q10 q12 x1 x2 x0 x3 fim fis f1 y0 y1 := by
  have hR0 := hR
  have hD0 := hD
  obtain ⟨hX, ⟨rfl, rfl, rfl, _⟩, hK⟩ := hR
  obtain ⟨⟨hS, hB, hq⟩, hU, hI⟩ := hD
  unfold f_e_home_x9 at ex
  unfold f_m_home at em
  by_cases c1 : f_m_isCouple G c_ = 0
  · rw [if_pos c1] at em
    rw [if_pos ((q_couple hG _ _ _ _ _).mpr c1)] at ex
    cases ex; cases em
    exact ⟨rfl, hR0, hD0⟩
  rw [if_neg c1] at em
  rw [if_neg (fun q => c1 ((q_couple hG _ _ _ _ _).mp q))] at ex
  obtain ⟨a0, a1, a2⟩ := l_couple hG c1
  have x6 : (6 + c_ : Int32).toNatClampNeg = 6 + c_.toNatClampNeg := sN (a := 6) (x := 6) (y := 6) rfl a0 a2 (by decide)
  have hn := clN (n := 6) a0 a2
  have hi := clI a0
  rw [e_p hS a0 a2] at ex
  rw [x6] at em
  by_cases c2 : w (6 + c_.toNatClampNeg) = -1
  · rw [if_pos c2] at ex em
    cases ex; cases em
    exact ⟨rfl, hR0, hD0⟩
  rw [if_neg c2] at ex em
  obtain ⟨s1, s2, gsh, H, u, r1, r2, r3, r4, gH, sn, go⟩ := DY_go (q12' := q12) (fn' := f_e_place fn c_ (-1)) hD0 hG
  rw [r1] at ex
  rw [r2] at em
  cases ex; cases em
  have g3 := gH.2.1.1
  refine ⟨rfl, RS_of hR0 (fun k h _ => r3 k (by omega)), go _ (fun x hx => by rw [pk_un (by omega)]) ⟨w_p sn.1 a0 a2, ?_, ?_⟩⟩
  · exact BI_p sn.2.1 hn (by rw [r3 5 (by decide)]; omega) (by rw [i_m1]; omega) (by rw [i_m1]; omega) (fun d _ _ _ => rfl)
  · rw [pk_un (by omega)]
    exact sn.2.2
theorem emb {g v : Int32} : (if g + v < 99 then g + v else 99) = (if g + v ≤ 99 then g + v else 99) := by
  by_cases c : g + v < 99
  · have d : g + v ≤ 99 := by
      rw [i_lt] at c
      rw [i_le]
      omega
    rw [if_pos c, if_pos d]
  · rw [if_neg c]
    by_cases d : g + v ≤ 99
    · rw [if_pos d]
      rw [i_lt] at c
      rw [i_le] at d
      rw [i_eq]
      omega
    · rw [if_neg d]
theorem R_grieve {c_ v_ rx x1 x2 ry : Int32} {x0 x3 y0 y1 : Nat → Int32} (hG : GI G) (hR : RS q1 q2 ftx f13 t0 t1 t2 t3 t4 fta ftb ftc ftd fte f8 f9 f10 f11 f12 b0 fba fbb f43 f44 G) (hD : DY q10 q12 p1 p2 fn fsh fim fis f1 G w) (ex : (rx, x0, x1, x2, x3) = f_e_grieve_x9 q1 q2 q10 q12 t0 t1 t2 t3 t4 fn p1 p2 fsh c_ v_) (em : (ry, y0, y1) = f_m_grieve G w c_ v_) : rx = ry ∧ RS q1 q2 ftx f13 t0 t1 t2 t3 t4 fta ftb ftc ftd fte f8 f9 f10 f11 f12 b0 fba fbb f43 f44 y0 ∧ DY q10 q12 x1 x2 x0 x3 fim fis f1 y0 y1 := by
  have hR0 := hR
  have hD0 := hD
  obtain ⟨hX, ⟨rfl, rfl, rfl, _⟩, hK⟩ := hR
  obtain ⟨⟨hS, hB, hq⟩, hU, hI⟩ := hD
  unfold f_e_grieve_x9 at ex
  unfold f_m_grieve at em
  by_cases c1 : f_m_isCouple G c_ = 0
  · rw [if_pos c1] at em
    rw [if_pos ((q_couple hG _ _ _ _ _).mpr c1)] at ex
    cases ex; cases em
    exact ⟨rfl, hR0, hD0⟩
  rw [if_neg c1] at em
  rw [if_neg (fun q => c1 ((q_couple hG _ _ _ _ _).mp q))] at ex
  obtain ⟨a0, a1, a2⟩ := l_couple hG c1
  have hn := clN (n := 6) a0 a2
  have hi := clI a0
  by_cases c2 : f_m_in v_.toInt64 1 99 = 0
  · rw [if_pos c2] at em
    rw [i_in, Int32.toInt_toInt64] at c2
    simp only [Int64.reduceToInt] at c2
    by_cases c3 : v_ < 1
    · rw [if_pos c3] at ex
      cases ex; cases em
      exact ⟨rfl, hR0, hD0⟩
    · rw [if_neg c3] at ex
      have c4 : ¬ v_ ≤ 99 := by
        simp only [i_lt, i_le, Int32.reduceToInt] at c3 ⊢
        omega
      rw [if_neg c4] at ex
      cases ex; cases em
      exact ⟨rfl, hR0, hD0⟩
  rw [if_neg c2] at em
  rw [i_in, Int32.toInt_toInt64] at c2
  simp only [Int64.reduceToInt] at c2
  have c3 : ¬ v_ < 1 := by
    simp only [i_lt, Int32.reduceToInt]
    omega
  have c4 : v_ ≤ 99 := by
    simp only [i_le, Int32.reduceToInt]
    omega
  rw [if_neg c3, if_pos c4, e_done hS] at ex
  by_cases c5 : f_m_isDone w c_ = 0
  · rw [if_pos c5] at ex em
    obtain ⟨s1, s2, gsh, H, u, r1, r2, r3, r4, gH, sn, go⟩ := DY_go (q12' := q12) (fn' := f_e_embitter fn c_ v_) hD0 hG
    rw [r1] at ex
    rw [r2] at em
    dsimp (config := { etaStruct := .none }) only at ex em
    have ud : f_m_isDone u c_ = 0 := by
      have : f_m_isDone u c_ = f_m_isDone w c_ := by
        unfold f_m_isDone
        rw [r4 _ (by decide)]
      rw [this]
      exact c5
    have g1 := sn.2.1.1 c_.toNatClampNeg hn
    rw [Nat.zero_add] at g1
    have ea := i_add (a := u c_.toNatClampNeg) (b := v_) (by omega) (by omega)
    have egr : f_m_grieves u c_ v_ = upd u c_.toNatClampNeg (if u c_.toNatClampNeg + v_ ≤ 99 then u c_.toNatClampNeg + v_ else 99) := by
      unfold f_m_grieves
      rw [if_pos ud, ix0]
      by_cases z : u c_.toNatClampNeg + v_ ≤ 99
      · rw [if_pos z, if_pos z]
      · rw [if_neg z, if_neg z]
    have een : f_e_embitter fn c_ v_ = f_e_leave fn c_ (if u c_.toNatClampNeg + v_ ≤ 99 then u c_.toNatClampNeg + v_ else 99) := by
      unfold f_e_embitter
      rw [e_g sn.1 a0 a2, emb]
    have bx : 0 ≤ (if u c_.toNatClampNeg + v_ ≤ 99 then u c_.toNatClampNeg + v_ else 99).toInt ∧ (if u c_.toNatClampNeg + v_ ≤ 99 then u c_.toNatClampNeg + v_ else 99).toInt ≤ 99 := by
      by_cases z : u c_.toNatClampNeg + v_ ≤ 99
      · rw [if_pos z]
        rw [i_le] at z
        simp only [Int32.reduceToInt] at z
        omega
      · rw [if_neg z]
        decide
    rw [een] at ex go
    rw [egr, ix0] at em
    generalize (if u c_.toNatClampNeg + v_ ≤ 99 then u c_.toNatClampNeg + v_ else 99) = X at ex em bx go
    have sg := w_g (x := X) sn.1 a0 a2
    rw [e_g sg a0 a2] at ex
    cases ex; cases em
    refine ⟨rfl, RS_of hR0 (fun k h _ => r3 k (by omega)), go _ (fun x hx => by rw [pk_un (by omega)]) ⟨sg, ?_, ?_⟩⟩
    · refine BI_g sn.2.1 a0 a2 (by rw [r3 5 (by decide)]; exact a1) bx.1 bx.2 (fun hh => ?_)
      exact absurd ud hh
    · rw [pk_un (by omega)]
      exact sn.2.2
  · rw [if_neg c5] at ex em
    cases ex; cases em
    exact ⟨rfl, hR0, hD0⟩
end
end
section
/-! town, side by side -/
theorem IR_0 {G w fim fis f1 : Nat → Int32} (h0 : f1 0 = 0) (h1 : f1 1 = 0) : IR G 0 fim fis f1 w := by
  refine ⟨Or.inl rfl, fun i hi => ?_⟩
  have hz : f1 i.toNatClampNeg = 0 := by
    rcases hi with rfl | rfl
    · exact h0
    · exact h1
  refine ⟨⟨fun _ => hz, fun _ => ?_⟩, fun hk => absurd hz hk⟩
  rcases hi with rfl | rfl <;> decide
section
variable {q1 q2 q10 q12 t0 t1 t2 t3 t4 p1 p2 b0 : Int32} {ftx fta ftb ftc ftd fte fn fsh fim fis fba fbb G w f1 f8 f9 f10 f11 f12 f13 f43 f44 : Nat → Int32}
set_option maxHeartbeats 1000000 in
theorem R_town {t d : Nat} {r0 r1 r3 r4 r5 r6 d0 d1 d2 d3 d4 : Int32} {fda fdb fdc fdd fde f27 f28 f29 f30 f31 : Nat → Int32} {rx x0 x1 x4 x5 x6 x7 x8 x9 x10 x11 x12 x13 x14 x15 x22 x23 ry : Int32} {x2 x3 : Nat} {x16 x17 x18 x19 x20 x21 y0 y1 y2 y3 y4 y5 y6 y7 y8 y9 y10 y11 y12 : Nat → Int32} (hG : GI G) (hR : RS q1 q2 ftx f13 t0 t1 t2 t3 t4 fta ftb ftc ftd fte f8 f9 f10 f11 f12 b0 fba fbb f43 f44 G) (hD : DY q10 q12 p1 p2 fn fsh fim fis f1 G w) (ex : (rx, x0, x1, x2, x3, x4, x5, x6, x7, x8, x9, x10, x11, x12, x13, x14, x15, x16, x17, x18, x19, x20, x21, x22, x23) = f_e_town_x9 t d q1 q2 q10 q12 r0 r1 r3 r4 r5 r6 ftx d0 d1 d2 d3 d4 fda fdb fdc fdd fde fn p1 p2 b0) (em : (ry, y0, y1, y2, y3, y4, y5, y6, y7, y8, y9, y10, y11, y12) = f_m_town G w f1 f8 f9 f10 f11 f12 f13 f27 f28 f29 f30 f31) : rx = ry ∧ ((d = x2 ∧ t = x3 ∧ RS x0 x1 ftx f13 x11 x12 x13 x14 x15 x16 x17 x18 x19 x20 y3 y4 y5 y6 y7 x23 fba fbb f43 f44 y0 ∧ DY x4 q12 p1 x22 x21 fsh fim fis y2 y0 y1) ∨ (t = x2 ∧ d = x3 ∧ RS x0 x1 ftx f13 t0 t1 t2 t3 t4 fta ftb ftc ftd fte y3 y4 y5 y6 y7 x23 fba fbb f43 f44 y0 ∧ DY x4 q12 p1 x22 x21 fsh fim fis y2 y0 y1)) := by
  have hR0 := hR
  have hD0 := hD
  obtain ⟨⟨rfl, rfl, hq2⟩, hN, hK⟩ := hR
  obtain ⟨⟨hS, hB, hq⟩, hU, hI⟩ := hD
  have g14 := hG.2.2.2.2.2.1
  obtain ⟨rg, a, b, z, s5, s6, u0, u1, u2, u3, u4, H, h27, h28, h29, h30, h31, ga, gb, gc, gd, ge, m1, m2, m3, m4, m5, m6⟩ := read_eq (f := ftx) (fta := fda) (ftb := fdb) (ftc := fdc) (ftd := fdd) (fte := fde) w f1 f8 f9 f10 f11 f12 f27 f28 f29 f30 f31 g14.1 g14.2
  unfold f_e_town_x9 at ex
  rw [m2] at ex
  unfold G0r at m1
  unfold f_m_town at em
  rw [m1] at em
  have em' := em
  clear em
  dsimp (config := { etaStruct := .none }) only at ex em'
  have c14 := m3 14 (by decide)
  rcases m6 with ⟨rfl, k2, k3, k4, k5, k6, k7, k8, hP⟩ | ⟨rfl, ha⟩
  · rw [if_pos k2] at ex
    rw [if_neg (by decide)] at em'
    obtain ⟨⟨n1, n2⟩, ⟨n3, n4⟩, ⟨n5, n6⟩, ⟨n7, n8⟩, ⟨n9, n10⟩, n11, n12, n13, n14, n15, n16⟩ := hP
    have z3 : (upd (upd (upd (upd (upd (upd H 14 0) 3 (H 20)) 4 (H 21)) 5 (H 23)) 6 (H 24)) 7 (H 25)) 3 = H 20 := by rw [pk_un (by decide), pk_un (by decide), pk_un (by decide), pk_un (by decide), pk_us]
    have z4 : (upd (upd (upd (upd (upd (upd H 14 0) 3 (H 20)) 4 (H 21)) 5 (H 23)) 6 (H 24)) 7 (H 25)) 4 = H 21 := by rw [pk_un (by decide), pk_un (by decide), pk_un (by decide), pk_us]
    have z5 : (upd (upd (upd (upd (upd (upd H 14 0) 3 (H 20)) 4 (H 21)) 5 (H 23)) 6 (H 24)) 7 (H 25)) 5 = H 23 := by rw [pk_un (by decide), pk_un (by decide), pk_us]
    have z6 : (upd (upd (upd (upd (upd (upd H 14 0) 3 (H 20)) 4 (H 21)) 5 (H 23)) 6 (H 24)) 7 (H 25)) 6 = H 24 := by rw [pk_un (by decide), pk_us]
    have z7 : (upd (upd (upd (upd (upd (upd H 14 0) 3 (H 20)) 4 (H 21)) 5 (H 23)) 6 (H 24)) 7 (H 25)) 7 = H 25 := by rw [pk_us]
    have z14 : (upd (upd (upd (upd (upd (upd H 14 0) 3 (H 20)) 4 (H 21)) 5 (H 23)) 6 (H 24)) 7 (H 25)) 14 = 0 := by rw [pk_un (by decide), pk_un (by decide), pk_un (by decide), pk_un (by decide), pk_un (by decide), pk_us]
    have zo : ∀ k, k = 2 ∨ k = 19 ∨ k = 42 → (upd (upd (upd (upd (upd (upd H 14 0) 3 (H 20)) 4 (H 21)) 5 (H 23)) 6 (H 24)) 7 (H 25)) k = H k := fun k hk => by rw [pk_un (by omega), pk_un (by omega), pk_un (by omega), pk_un (by omega), pk_un (by omega), pk_un (by omega)]
    generalize upd (upd (upd (upd (upd (upd H 14 0) 3 (H 20)) 4 (H 21)) 5 (H 23)) 6 (H 24)) 7 (H 25) = Z at em' z3 z4 z5 z6 z7 z14 zo
    obtain ⟨j1, g3, g4, e1, e1'⟩ := cp131 7 0 Z w f1 f8 f9 f10 f11 f12 h27 h28 h29 h30 h31 (by decide) (by decide) (by decide) (fun k hk => absurd hk (by rw [i_0]; omega))
    obtain ⟨j2, g5, e2, e2'⟩ := cp169 31 0 Z w f1 g3 g4 f10 f11 f12 h27 h28 h29 h30 h31 (by decide) (by decide) (by decide) (fun k hk => absurd hk (by rw [i_0]; omega))
    obtain ⟨j3, g6, g7, e3, e3'⟩ := cp195 8 0 Z w f1 g3 g4 g5 f11 f12 h27 h28 h29 h30 h31 (by decide) (by decide) (by decide) (fun k hk => absurd hk (by rw [i_0]; omega))
    have l7 : ((6 : Int32).toInt - (0 : Int32).toInt).toNat + 1 = 7 := rfl
    have l31 : ((30 : Int32).toInt - (0 : Int32).toInt).toNat + 1 = 31 := rfl
    have l8 : ((7 : Int32).toInt - (0 : Int32).toInt).toNat + 1 = 8 := rfl
    rw [l7, e1] at em'
    dsimp (config := { etaStruct := .none }) only at em'
    rw [l31, e2] at em'
    dsimp (config := { etaStruct := .none }) only at em'
    rw [l8, e3] at em'
    dsimp (config := { etaStruct := .none }) only at em'
    have gZ : GI Z := by
      unfold GI
      rw [zo 2 (by decide), z3, z4, z5, z6, z14, zo 42 (by decide), m3 2 (by decide), m3 42 (by decide), i_0]
      exact ⟨hG.1, ⟨n1, n2⟩, ⟨by omega, n4⟩, ⟨n5, n6⟩, ⟨n7, n8⟩, ⟨by decide, by decide⟩, hG.2.2.2.2.2.2⟩
    have hA9 : AG gb g4 (Z 5).toInt 0 99 := by
      intro k hk
      rw [z5] at hk
      rw [(e1' k (by omega)).2]
      exact n13 k hk
    have bg := begin_eq (fn := fn) (w := w) (t0 := H 20) (t1 := H 21) (t3 := H 24) (t4 := H 25) gZ (by rw [z4]; exact n3) hA9
    rw [z5] at bg
    subst k4 k5 k6 k7 k8
    simp only [Prod.mk.injEq] at ex em'
    obtain ⟨rfl, rfl, rfl, rfl, rfl, rfl, rfl, rfl, rfl, rfl, rfl, rfl, rfl, rfl, rfl, rfl, rfl, rfl, rfl, rfl, rfl, rfl, rfl, rfl, rfl⟩ := ex
    obtain ⟨rfl, rfl, rfl, rfl, rfl, rfl, rfl, rfl, rfl, rfl, rfl, rfl, rfl, rfl⟩ := em'
    have v : ∀ k, k ≠ 42 → k ≠ 2 → (upd (upd Z 42 0) 2 0) k = Z k := fun k a b => by rw [pk_un b, pk_un a]
    have v3 := (v 3 (by decide) (by decide)).trans z3
    have v4 := (v 4 (by decide) (by decide)).trans z4
    have v5 := (v 5 (by decide) (by decide)).trans z5
    have v6 := (v 6 (by decide) (by decide)).trans z6
    have v7 := (v 7 (by decide) (by decide)).trans z7
    refine ⟨z3.symm, Or.inl ⟨rfl, rfl, ⟨⟨?_, rfl, ?_⟩, ⟨v3.symm, v4.symm, v5.symm, v6.symm, v7.symm, ?_, ?_, ?_, ?_, ?_, ?_, ?_⟩, ⟨?_, hK.2.1, hK.2.2⟩⟩, ⟨bg.1, BI_of bg.2.1 (fun k hk => rfl) (v 3 (by decide) (by decide)) (v 4 (by decide) (by decide)) (v 5 (by decide) (by decide)) (v 6 (by decide) (by decide)), by rw [bg.2.2.1]; exact hq⟩, UR_nil (G := G) hU.2.1 hU.2.2.1 pk_us, IR_0 ?_ ?_⟩⟩
    · rw [v 14 (by decide) (by decide), z14]
    · rw [v 19 (by decide) (by decide), zo 19 (by decide)]
      exact m5
    · rw [v4]
      exact n3
    · rw [v7]
      simp only [i_eq, Int32.reduceToInt]
      omega
    · rw [v3]
      intro k hk
      rw [(e1' k (by omega)).1]
      exact n12 k hk
    · rw [v5]
      intro k hk
      rw [(e1' k (by omega)).2]
      exact n13 k hk
    · rw [v5, v4]
      intro c t hc ht
      rw [e2' _ (by omega)]
      exact n14 c t hc ht
    · rw [v6, v3]
      intro k hk
      rw [(e3' k (by omega)).1]
      exact n15 k hk
    · rw [v6]
      intro k hk
      rw [(e3' k (by omega)).2]
      exact n16 k hk
    · show (0 : Int32) = _
      rw [pk_un (by decide), pk_us]
    · show upd (upd f1 0 (vp_nar .boolean 0)) 1 (vp_nar .boolean 0) 0 = 0
      rw [pk_un (by decide), pk_us]
      rfl
    · show upd (upd f1 0 (vp_nar .boolean 0)) 1 (vp_nar .boolean 0) 1 = 0
      rw [pk_us]
      rfl
  · rw [if_neg ha] at ex
    rw [if_pos rfl] at em'
    simp only [Prod.mk.injEq] at ex em'
    obtain ⟨rfl, rfl, rfl, rfl, rfl, rfl, rfl, rfl, rfl, rfl, rfl, rfl, rfl, rfl, rfl, rfl, rfl, rfl, rfl, rfl, rfl, rfl, rfl, rfl, rfl⟩ := ex
    obtain ⟨rfl, rfl, rfl, rfl, rfl, rfl, rfl, rfl, rfl, rfl, rfl, rfl, rfl, rfl⟩ := em'
    have v : ∀ k, k ≠ 14 → (upd H 14 0) k = H k := fun k a => pk_un a
    refine ⟨?_, Or.inr ⟨rfl, rfl, ⟨⟨pk_us.symm, rfl, ?_⟩, TN_of hN (fun k h1 h2 => ?_), BK_of hK ?_⟩, DY_of hD0 hG (fun x _ => rfl) (fun k h1 h2 => ?_)⟩⟩
    · rw [m4]
    · rw [v 19 (by decide)]
      exact m5
    · rw [v k (by omega), m3 k (by omega)]
    · rw [v 42 (by decide), m3 42 (by decide)]
    · rw [v k (by omega), m3 k (by omega)]
end
end
section
/-! draws and drifts, side by side -/
theorem rl_eq {f : Nat → Int32} {k : Nat} {x : Int32} (h : f k = x) : upd f k x = f := by
  rw [← h]
  exact rl_self
theorem mask31 {x : Int64} (h0 : 0 ≤ x.toInt) : x &&& 2147483647 = x - x / 2147483648 * 2147483648 := by
  have hlt := Int64.toInt_lt x
  have hx : (x.toBitVec.toNat : Int) = x.toInt := by
    have e : x.toInt = x.toBitVec.toInt := rfl
    rw [e] at h0 ⊢
    rw [BitVec.toInt_eq_toNat_cond] at h0 ⊢
    have := x.toBitVec.isLt
    split at h0 <;> split <;> omega
  apply Int64.toInt_inj.mp
  have d : (x / 2147483648).toInt = x.toInt / 2147483648 := by
    rw [Int64.toInt_div_of_ne_right _ _ (by decide), Int.tdiv_eq_ediv_of_nonneg h0]
    rfl
  have m : (x / 2147483648 * 2147483648).toInt = x.toInt / 2147483648 * 2147483648 := by
    rw [Int64.toInt_mul, d]
    have e31 : (2147483648 : Int64).toInt = 2147483648 := rfl
    rw [e31, bm64 (by omega) (by omega)]
  rw [Int64.toInt_sub, m, bm64 (by omega) (by omega)]
  have e : (x &&& 2147483647).toInt = (x.toBitVec &&& 2147483647#64).toInt := rfl
  have n : (x.toBitVec &&& 2147483647#64).toNat = x.toBitVec.toNat % 2147483648 := by
    rw [BitVec.toNat_and]
    exact Nat.and_two_pow_sub_one_eq_mod x.toBitVec.toNat 31
  rw [e, BitVec.toInt_eq_toNat_cond, n, if_pos (by omega)]
  omega
theorem draw_eq {w : Nat → Int32} {n q : Int32} (hq : q = w 41) (h0 : 0 ≤ q.toInt) (hn : 0 < n.toInt) : ∃ (r s : Int32), (∀ a b c, f_e_draw_x9 a b c q n = (r, s)) ∧ f_m_draw w n = (r, upd w 41 s) := by
  subst hq
  have hl := Int32.toInt_lt (w 41)
  have hx : 0 ≤ ((w 41).toInt64 * 1103515245 + 12345).toInt := by
    have e1 : (1103515245 : Int64).toInt = 1103515245 := rfl
    have e2 : (12345 : Int64).toInt = 12345 := rfl
    have m : ((w 41).toInt64 * 1103515245).toInt = (w 41).toInt * 1103515245 := by
      rw [Int64.toInt_mul, Int32.toInt_toInt64, e1, bm64 (by omega) (by omega)]
    rw [Int64.toInt_add, m, e2, bm64 (by omega) (by omega)]
    omega
  have k := mask31 hx
  have n41 : (41 : Int32).toNatClampNeg = 41 := rfl
  unfold f_m_draw
  rw [n41, ← k, pk_us]
  refine ⟨_, _, fun a b c => ?_, rfl⟩
  unfold f_e_draw_x9
  rw [if_pos (by rw [i_lt, i_0]; exact hn)]
theorem WI_s {w : Nat → Int32} (h : WI w) : 0 ≤ (w 41).toInt := (h 41).2 rfl
section
variable {q1 q2 q10 q12 t0 t1 t2 t3 t4 p1 p2 b0 : Int32} {ftx fta ftb ftc ftd fte fn fsh fim fis fba fbb G w f1 f8 f9 f10 f11 f12 f13 f43 f44 : Nat → Int32}
theorem drift_loop {n_ : Int32} {u1 u2 u10 u12 v0 v1 v3 v4 : Int32} {fn0 fsh0 : Nat → Int32} {v7 v8 : Int32} : ∀ (n : Nat) (i s : Int32) (fn G w : Nat → Int32), GI G → 0 < (G 5).toInt → WI w → SN s fn G w → ∃ (j j' s' : Int32) (fn' w' : Nat → Int32), (∀ p1 p2 fsh, f_e_drift_x9_55 u1 u2 u10 u12 v0 v1 (G 5) v3 v4 fn0 v7 v8 fsh0 n_ n i s fn p1 p2 fsh = (j, s', fn', p1, p2, fsh)) ∧ f_m_drift_46 n_ n i G w = (j', G, w') ∧ SN s' fn' G w' ∧ (∀ x, 42 ≤ x → w' x = w x) := by
  intro n
  induction n with
  | zero => intro i s fn G w hG h5 hW hS; exact ⟨i, i, s, fn, w, fun p1 p2 fsh => rfl, rfl, hS, fun x _ => rfl⟩
  | succ n ih =>
    intro i s fn G w hG h5 hW hS
    have g6 := hG.2.2.2.1.2
    by_cases c : n_ ≤ i
    · refine ⟨i, i, s, fn, w, fun p1 p2 fsh => ?_, ?_, hS, fun x _ => rfl⟩
      · rw [f_e_drift_x9_55_s, if_pos c]
      · rw [f_m_drift_46_s, if_pos c]
    · have hS0 := hS
      obtain ⟨hT, hB, hq⟩ := hS
      obtain ⟨r1, s1, d1, d2⟩ := draw_eq (n := G 5) hq (by rw [hq]; exact WI_s hW) h5
      obtain ⟨a0, a1, hW1⟩ := p_draw hW h5 r1 _ d2
      obtain ⟨r2, s2, d3, d4⟩ := draw_eq (w := upd w 41 s1) (n := 10) (q := s1) pk_us.symm (by have := WI_s hW1; rw [pk_us] at this; exact this) (by decide)
      obtain ⟨b0, b1, hW2⟩ := p_draw hW1 (by decide) r2 _ d4
      have x10 : (10 : Int32).toInt = 10 := rfl
      rw [x10] at b1
      rw [rl_tw] at d4 hW2
      have a2 : r1.toInt < 6 := by omega
      have hn := clN (n := 6) a0 a2
      have t2 : ST fn (upd w 41 s2) 0 0 := ST_off hT (by decide)
      have B2 : BI G (upd w 41 s2) 0 := BI_m hB (Or.inr (by decide))
      have u41 : (upd w 41 s2) 41 = s2 := pk_us
      have uo : ∀ x, 42 ≤ x → (upd w 41 s2) x = w x := fun x hx => pk_un (by omega)
      have st : ∀ p1 p2 fsh, f_e_drift_x9_55 u1 u2 u10 u12 v0 v1 (G 5) v3 v4 fn0 v7 v8 fsh0 n_ (n + 1) i s fn p1 p2 fsh = (if (f_e_isReconciled fn r1) = 0 then (f_e_drift_x9_55 u1 u2 u10 u12 v0 v1 (G 5) v3 v4 fn0 v7 v8 fsh0 n_ n (i + 1) s2 (f_e_spendMinutes (f_e_embitter fn r1 r2) 1) p1 p2 fsh) else (f_e_drift_x9_55 u1 u2 u10 u12 v0 v1 (G 5) v3 v4 fn0 v7 v8 fsh0 n_ n (i + 1) s2 (f_e_spendMinutes fn 1) p1 p2 fsh)) := by
        intro p1 p2 fsh
        rw [f_e_drift_x9_55_s, if_neg c, d1]
        dsimp (config := { etaStruct := .none }) only
        rw [d3]
      have sm' : f_m_drift_46 n_ (n + 1) i G w = f_m_drift_46 n_ n (i + 1) G (upd (f_m_grieves (upd w 41 s2) r1 r2) 19 (((f_m_grieves (upd w 41 s2) r1 r2) 19) + 1)) := by
        rw [f_m_drift_46_s, if_neg c, d2]
        dsimp (config := { etaStruct := .none }) only
        rw [d4]
        rfl
      have dn := e_done t2 r1
      have hW3 := p_grieves (m_ := r2) hW2 a0 a2
      generalize upd w 41 s2 = W at t2 B2 u41 uo sm' dn hW2 hW3
      by_cases c2 : f_m_isDone W r1 = 0
      · have g1 := B2.1 r1.toNatClampNeg hn
        rw [Nat.zero_add] at g1
        have ea := i_add (a := W r1.toNatClampNeg) (b := r2) (by omega) (by omega)
        have egr : f_m_grieves W r1 r2 = upd W r1.toNatClampNeg (if W r1.toNatClampNeg + r2 ≤ 99 then W r1.toNatClampNeg + r2 else 99) := by
          unfold f_m_grieves
          rw [if_pos c2, ix0]
          by_cases z : W r1.toNatClampNeg + r2 ≤ 99
          · rw [if_pos z, if_pos z]
          · rw [if_neg z, if_neg z]
        have een : f_e_embitter fn r1 r2 = f_e_leave fn r1 (if W r1.toNatClampNeg + r2 ≤ 99 then W r1.toNatClampNeg + r2 else 99) := by
          unfold f_e_embitter
          rw [e_g t2 a0 a2, emb]
        have bx : 0 ≤ (if W r1.toNatClampNeg + r2 ≤ 99 then W r1.toNatClampNeg + r2 else 99).toInt ∧ (if W r1.toNatClampNeg + r2 ≤ 99 then W r1.toNatClampNeg + r2 else 99).toInt ≤ 99 := by
          by_cases z : W r1.toNatClampNeg + r2 ≤ 99
          · rw [if_pos z]
            rw [i_le] at z
            simp only [Int32.reduceToInt] at z
            omega
          · rw [if_neg z]
            decide
        rw [egr] at hW3 sm'
        rw [een] at st
        generalize (if W r1.toNatClampNeg + r2 ≤ 99 then W r1.toNatClampNeg + r2 else 99) = X at hW3 sm' st bx
        have t3 := w_min (v := 1) (w_g (x := X) t2 a0 a2)
        have B3 : BI G (upd (upd W r1.toNatClampNeg X) 19 ((upd W r1.toNatClampNeg X) 19 + 1)) 0 := BI_m (BI_g B2 a0 a2 a1 bx.1 bx.2 (fun hh => absurd c2 hh)) (Or.inl rfl)
        have W4 : WI (upd (upd W r1.toNatClampNeg X) 19 ((upd W r1.toNatClampNeg X) 19 + 1)) := WI_upd hW3 (OKv.out (by decide))
        obtain ⟨j, j', s', fn', w', y1, y2, y3, y4⟩ := ih (i + 1) s2 _ G _ hG h5 W4 ⟨t3, B3, by rw [pk_un (by decide), pk_un (by omega)]; exact u41.symm⟩
        refine ⟨j, j', s', fn', w', fun p1 p2 fsh => ?_, ?_, y3, fun x hx => ?_⟩
        · rw [st, dn, if_pos c2, y1]
        · rw [sm', y2]
        · rw [y4 x hx, pk_un (by omega), pk_un (by omega), uo x hx]
      · have egr : f_m_grieves W r1 r2 = W := by
          unfold f_m_grieves
          rw [if_neg c2, ix0]
          refine rl_eq ?_
          have := B2.2.2.2.2.2.1 r1 a0 a2 c2
          rw [Nat.zero_add] at this
          exact this
        rw [egr] at sm'
        have t3 := w_min (v := 1) t2
        have B3 : BI G (upd W 19 (W 19 + 1)) 0 := BI_m B2 (Or.inl rfl)
        have W4 : WI (upd W 19 (W 19 + 1)) := WI_upd hW2 (OKv.out (by decide))
        obtain ⟨j, j', s', fn', w', y1, y2, y3, y4⟩ := ih (i + 1) s2 _ G _ hG h5 W4 ⟨t3, B3, by rw [pk_un (by decide)]; exact u41.symm⟩
        refine ⟨j, j', s', fn', w', fun p1 p2 fsh => ?_, ?_, y3, fun x hx => ?_⟩
        · rw [st, dn, if_neg c2, y1]
        · rw [sm', y2]
        · rw [y4 x hx, pk_un (by omega), uo x hx]
theorem R_drift {n_ rx x0 x2 x3 ry : Int32} {x1 x4 y0 y1 : Nat → Int32} (hG : GI G) (hW : WI w) (hR : RS q1 q2 ftx f13 t0 t1 t2 t3 t4 fta ftb ftc ftd fte f8 f9 f10 f11 f12 b0 fba fbb f43 f44 G) (hD : DY q10 q12 p1 p2 fn fsh fim fis f1 G w) (ex : (rx, x0, x1, x2, x3, x4) = f_e_drift_x9 q1 q2 q10 q12 t0 t1 t2 t3 t4 fn p1 p2 fsh n_) (em : (ry, y0, y1) = f_m_drift G w n_) : rx = ry ∧ RS q1 q2 ftx f13 t0 t1 t2 t3 t4 fta ftb ftc ftd fte f8 f9 f10 f11 f12 b0 fba fbb f43 f44 y0 ∧ DY q10 x0 x2 x3 x1 x4 fim fis f1 y0 y1 := by
  have hR0 := hR
  have hD0 := hD
  obtain ⟨hX, ⟨rfl, rfl, rfl, _⟩, hK⟩ := hR
  obtain ⟨⟨hS, hB, hq⟩, hU, hI⟩ := hD
  unfold f_e_drift_x9 at ex
  unfold f_m_drift at em
  have n19 : (19 : Int32).toNatClampNeg = 19 := rfl
  rw [n19] at em
  by_cases c2 : f_m_in n_.toInt64 1 99 = 0
  · rw [if_pos c2] at em
    rw [i_in, Int32.toInt_toInt64] at c2
    simp only [Int64.reduceToInt] at c2
    by_cases c3 : n_ < 1
    · rw [if_pos c3] at ex
      cases ex; cases em
      exact ⟨rfl, hR0, hD0⟩
    · rw [if_neg c3] at ex
      have c4 : ¬ n_ ≤ 99 := by
        simp only [i_lt, i_le, Int32.reduceToInt] at c3 ⊢
        omega
      rw [if_neg c4] at ex
      cases ex; cases em
      exact ⟨rfl, hR0, hD0⟩
  rw [if_neg c2] at em
  rw [i_in, Int32.toInt_toInt64] at c2
  simp only [Int64.reduceToInt] at c2
  have c3 : ¬ n_ < 1 := by
    simp only [i_lt, Int32.reduceToInt]
    omega
  have c4 : n_ ≤ 99 := by
    simp only [i_le, Int32.reduceToInt]
    omega
  rw [if_neg c3, if_pos c4, e_min hS] at ex
  by_cases c5 : G 5 = 0
  · rw [if_pos c5] at ex em
    cases ex; cases em
    exact ⟨rfl, hR0, hD0⟩
  rw [if_neg c5] at ex em
  have h5 : 0 < (G 5).toInt := by
    have := hG.2.2.2.1.1
    rw [i_eq, i_0] at c5
    omega
  by_cases c6 : w 19 ≤ 90000
  · rw [if_pos c6] at ex em
    cases hr : f_e_remember_x2 p1 p2 fsh fn with
    | mk s1 z =>
      obtain ⟨s2, gsh⟩ := z
      cases hm : f_m_minds G w with
      | mk H u =>
        rw [hr] at ex
        rw [hm] at em
        dsimp (config := { etaStruct := .none }) only at ex em
        obtain ⟨gH0, uW, _⟩ := p_minds hG hW H u hm
        obtain ⟨s1', s2', gsh', H', u', r1', r2', r3, r4, gH, sn, _⟩ := DY_go (q12' := q12) (fn' := fn) hD0 hG
        rw [hr] at r1'
        rw [hm] at r2'
        cases r1'; cases r2'
        obtain ⟨j, j', s', fn', w', y1, y2, y3, y4⟩ := drift_loop (n_ := n_) (u1 := q1) (u2 := q2) (u10 := q10) (u12 := q12) (v0 := G 3) (v1 := G 4) (v3 := t3) (v4 := t4) (fn0 := fn) (fsh0 := fsh) (v7 := p1) (v8 := p2) ((n_.toInt - (0 : Int32).toInt).toNat + 1) 0 q12 fn H u gH (by rw [r3 5 (by decide)]; exact h5) uW sn
        rw [r3 5 (by decide)] at y1
        rw [y1] at ex
        rw [y2] at em
        dsimp (config := { etaStruct := .none }) only at ex em
        rw [e_min y3.1] at ex
        obtain ⟨s1', s2', gsh', H', u', r1', r2', _, _, _, _, go⟩ := DY_go (q12' := s') (fn' := fn') hD0 hG
        rw [hr] at r1'
        rw [hm] at r2'
        cases r1'; cases r2'
        cases ex; cases em
        exact ⟨rfl, RS_of hR0 (fun k h _ => r3 k (by omega)), go _ y4 y3⟩
  · rw [if_neg c6] at ex em
    cases ex; cases em
    exact ⟨rfl, hR0, hD0⟩
end
end
section
/-! a barge passes, side by side -/
section
variable {q1 q2 q10 q12 t0 t1 t2 t3 t4 p1 p2 b0 : Int32} {ftx fta ftb ftc ftd fte fn fsh fim fis fba fbb G w f1 f8 f9 f10 f11 f12 f13 f43 f44 : Nat → Int32}
/-- what the towns have alike, of the reference alone -/
def TF (G fta ftc f8 f10 : Nat → Int32) : Prop := (G 7 = 0 ∨ G 7 = 1) ∧ AG fta f8 (G 3).toInt 1 60 ∧ AF ftc f10 (G 5).toInt (G 4).toInt
theorem TF_of {H : Nat → Int32} (h : TF G fta ftc f8 f10) (e : ∀ k, 3 ≤ k → k ≤ 7 → H k = G k) : TF H fta ftc f8 f10 := by
  unfold TF
  rw [e 3 (by decide) (by decide), e 4 (by decide) (by decide), e 5 (by decide) (by decide), e 7 (by decide) (by decide)]
  exact h
theorem force_in {c_ e_ : Int32} (hT : TF G fta ftc f8 f10) (c0 : 0 ≤ c_.toInt) (c1 : c_.toInt < (G 5).toInt) (c2 : c_.toInt < 6) (e0 : 0 ≤ e_.toInt) (e1 : e_.toInt < (G 4).toInt) (e2 : e_.toInt < 5) : (5 * c_ + e_).toNatClampNeg = 5 * c_.toNatClampNeg + e_.toNatClampNeg ∧ atF 30 ftc (c_ * 5 + e_) = f10 (5 * c_ + e_).toNatClampNeg ∧ 0 ≤ (f10 (5 * c_ + e_).toNatClampNeg).toInt ∧ (f10 (5 * c_ + e_).toNatClampNeg).toInt ≤ 9 := by
  obtain ⟨x1, x2⟩ := i_mul5 (c := c_) (t := e_) c0 (by omega) e0 (by omega)
  have n1 : (5 * c_ + e_).toNatClampNeg = 5 * c_.toNatClampNeg + e_.toNatClampNeg := by
    rw [i_clamp, i_clamp, i_clamp, x1]
    omega
  have n2 : (c_ * 5 + e_).toNatClampNeg = 5 * c_.toNatClampNeg + e_.toNatClampNeg := by
    rw [i_clamp, i_clamp, i_clamp, x2]
    omega
  have q := hT.2.2 c_.toNatClampNeg e_.toNatClampNeg (by rw [clI c0]; exact c1) (by rw [clI e0]; exact e1)
  refine ⟨n1, ?_, ?_⟩
  · rw [at_in (by omega) (by omega), n2, n1]
    exact q.1
  · rw [n1]
    exact q.2
theorem attempt_eq {a1 a2 a3 a4 v0 v1 v2 v3 c_ b_ e_ : Int32} (hT : TF G fta ftc f8 f10) (h3 : (G 3).toInt ≤ 6) (hS : ST fn w 0 0) (hB : BI G w 0) (c0 : 0 ≤ c_.toInt) (c1 : c_.toInt < (G 5).toInt) (c2 : c_.toInt < 6) (b0 : 0 ≤ b_.toInt) (b1 : b_.toInt < (G 3).toInt) (e0 : 0 ≤ e_.toInt) (e1 : e_.toInt < (G 4).toInt) (e2 : e_.toInt < 5) : ∃ (re : Int32) (H : Nat → Int32), f_m_quarrels G f10 c_ e_ (w c_.toNatClampNeg) (f8 b_.toNatClampNeg) = H ∧ (∀ k0 k1 k2 k3 k4, f_e_attempt_x9 a1 a2 a3 a4 k0 k1 k2 k3 k4 v0 v1 v2 v3 (G 7) fta ftc fn c_ b_ e_ = (H 32, w c_.toNatClampNeg - H 33, H 33, H 34, re)) ∧ (∀ k, k < 32 ∨ 35 ≤ k → H k = G k) ∧ (H 34 = 0 ∨ H 34 = 1) ∧ (re = 0 ∨ re = 1) ∧ (re ≠ 0 ↔ (H 33 = 0 ∧ 0 < (H 32).toInt)) ∧ 0 ≤ (H 33).toInt ∧ (H 33).toInt ≤ (w c_.toNatClampNeg).toInt ∧ (w c_.toNatClampNeg).toInt ≤ 99 ∧ 0 ≤ (H 32).toInt ∧ (H 32).toInt ≤ 99 := by
  obtain ⟨_, n2, n3, n4⟩ := force_in hT c0 c1 c2 e0 e1 e2
  have gb := hB.1 c_.toNatClampNeg (clN c0 c2)
  rw [Nat.zero_add] at gb
  obtain ⟨H, re, r1, r2, r3, r4, r5, r6, r7, r8, r9, r10, r11⟩ := run_eq (G := G) (f10 := f10) (c := c_) (t := e_) (g := w c_.toNatClampNeg) (n1 := f8 b_.toNatClampNeg) (n2 := f8 b_.toNatClampNeg) gb.1 gb.2 hT.1 n3 n4 (fun z _ _ => Iff.rfl)
  have nb : atF 6 fta b_ = f8 b_.toNatClampNeg := by
    rw [at_in b0 (by omega)]
    exact (hT.2.1 b_.toNatClampNeg (by rw [clI b0]; exact b1)).1
  refine ⟨re, H, r1, fun k0 k1 k2 k3 k4 => ?_, r3, r4, r5, r6, r7, r8, gb.2, r9, r10⟩
  unfold f_e_attempt_x9 f_e_forceOf_x8
  rw [e_g hS c0 c2, n2, nb, r2]
theorem passes_off {f11 : Nat → Int32} {v : Int32} : ∀ (n : Nat) (i : Int32) (G w : Nat → Int32), ∃ j, f_m_passes_5 f10 f8 f11 0 v n i 0 G w = (j, 0, G, w) := by
  intro n i G w
  cases n with
  | zero => exact ⟨i, rfl⟩
  | succ n =>
    rw [f_m_passes_5_s]
    by_cases c : f11 v.toNatClampNeg < i
    · exact ⟨i, by rw [if_pos c]⟩
    · exact ⟨i, by rw [if_neg c, if_pos rfl]⟩
theorem passes_none {f11 : Nat → Int32} {v i : Int32} {n : Nat} (v0 : 0 ≤ v.toInt) (v1 : v.toInt < 7) (c1 : ¬ f11 v.toNatClampNeg < i) (c2 : f_m_whoIsAt G w 0 i = -1) : f_m_passes_5 f10 f8 f11 0 v (n + 1) i 1 G w = f_m_passes_5 f10 f8 f11 0 v n (i + 1) 0 G (upd w (27 + v.toNatClampNeg) i) := by
  have x27 : (0 + 27 + v : Int32).toNatClampNeg = 27 + v.toNatClampNeg := sN (a := 27) (x := 27) (y := 7) rfl v0 v1 (by decide)
  rw [f_m_passes_5_s, if_neg c1, if_neg (by decide), if_pos c2, x27]
theorem passes_some {f11 : Nat → Int32} {v i c_ : Int32} {n : Nat} {H : Nat → Int32} (v0 : 0 ≤ v.toInt) (v1 : v.toInt < 7) (a0 : 0 ≤ c_.toInt) (a1 : c_.toInt < 6) (c1 : ¬ f11 v.toNatClampNeg < i) (c2 : f_m_whoIsAt G w 0 i = c_) (hH : f_m_quarrels G f10 c_ (w (12 + c_.toNatClampNeg)) (w c_.toNatClampNeg) (f8 i.toNatClampNeg) = H) : f_m_passes_5 f10 f8 f11 0 v (n + 1) i 1 G w = f_m_passes_5 f10 f8 f11 0 v n (i + 1) (H 34) H (upd (if H 33 = 0 then (if H 32 ≤ 0 then upd (upd w 19 (w 19 + H 32)) c_.toNatClampNeg (H 33) else upd (upd (upd (upd w 19 (w 19 + H 32)) c_.toNatClampNeg (H 33)) 18 ((upd (upd w 19 (w 19 + H 32)) c_.toNatClampNeg (H 33)) 18 ||| (1 <<< (c_ &&& 31)))) (6 + c_.toNatClampNeg) (-1)) else upd (upd w 19 (w 19 + H 32)) c_.toNatClampNeg (H 33)) (27 + v.toNatClampNeg) (if H 34 = 0 then i else -1)) := by
  have hm : ¬ c_ = -1 := by
    intro q
    rw [q, i_m1] at a0
    omega
  have x27 : (0 + 27 + v : Int32).toNatClampNeg = 27 + v.toNatClampNeg := sN (a := 27) (x := 27) (y := 7) rfl v0 v1 (by decide)
  have x12 : (0 + 12 + c_ : Int32).toNatClampNeg = 12 + c_.toNatClampNeg := sN (a := 12) (x := 12) (y := 6) rfl a0 a1 (by decide)
  have x6 : (0 + 6 + c_ : Int32).toNatClampNeg = 6 + c_.toNatClampNeg := sN (a := 6) (x := 6) (y := 6) rfl a0 a1 (by decide)
  have x0 : (0 + 0 + c_ : Int32).toNatClampNeg = c_.toNatClampNeg := by
    have e : (0 + 0 + c_ : Int32) = c_ := by
      rw [show (0 + 0 : Int32) = 0 from rfl, Int32.zero_add]
    rw [e]
  have x19 : (0 + 19 : Int32).toNatClampNeg = 19 := rfl
  have x18 : (0 + 18 : Int32).toNatClampNeg = 18 := rfl
  rw [f_m_passes_5_s, if_neg c1, if_neg (by decide), c2, if_neg hm, x27, x12, x6, x0, x19, x18, hH]
  by_cases d1 : H 33 = 0
  · rw [if_pos d1, if_pos d1]
    by_cases d2 : H 32 ≤ 0
    · rw [if_pos d2, if_pos d2]
      by_cases d3 : H 34 = 0
      · rw [if_pos d3, if_pos d3]
      · rw [if_neg d3, if_neg d3]
    · rw [if_neg d2, if_neg d2]
      by_cases d3 : H 34 = 0
      · rw [if_pos d3, if_pos d3]
      · rw [if_neg d3, if_neg d3]
  · rw [if_neg d1, if_neg d1]
    by_cases d3 : H 34 = 0
    · rw [if_pos d3, if_pos d3]
    · rw [if_neg d3, if_neg d3]
/-- one bridge: the class's swing, and where the reference stands behind it -/
theorem swing_eq {a1 a2 a3 a4 v0 v1 v2 v3 i c_ : Int32} (hG : GI G) (hT : TF G fta ftc f8 f10) (hS : ST fn w 0 0) (hB : BI G w 0) (i0 : 0 ≤ i.toInt) (i1 : i.toInt < (G 3).toInt) (hw : f_m_whoIsAt G w 0 i = c_) (hm : ¬ c_ = -1) : ∃ (H w' fn' : Nat → Int32) (re k1' : Int32), 0 ≤ c_.toInt ∧ c_.toInt < 6 ∧ f_m_quarrels G f10 c_ (w (12 + c_.toNatClampNeg)) (w c_.toNatClampNeg) (f8 i.toNatClampNeg) = H ∧ (if H 33 = 0 then (if H 32 ≤ 0 then upd (upd w 19 (w 19 + H 32)) c_.toNatClampNeg (H 33) else upd (upd (upd (upd w 19 (w 19 + H 32)) c_.toNatClampNeg (H 33)) 18 ((upd (upd w 19 (w 19 + H 32)) c_.toNatClampNeg (H 33)) 18 ||| (1 <<< (c_ &&& 31)))) (6 + c_.toNatClampNeg) (-1)) else upd (upd w 19 (w 19 + H 32)) c_.toNatClampNeg (H 33)) = w' ∧ (∀ k0 k1 k2 k3 k4, f_e_swing_x9 a1 a2 a3 a4 k0 k1 k2 k3 k4 v0 v1 v2 v3 (G 7) fta ftc fn i = (H 34, H 32, k1', H 33, H 34, re, fn')) ∧ ST fn' w' 0 0 ∧ BI H w' 0 ∧ (∀ k, k < 32 ∨ 35 ≤ k → H k = G k) ∧ (H 34 = 0 ∨ H 34 = 1) ∧ (∀ x, 20 ≤ x → w' x = w x) := by
  have g3 := hG.2.1.2
  have g4 := hG.2.2.1.2
  have ws := who_spec (w := w) (b := i) hG
  rw [hw] at ws
  rcases ws with ⟨q, _⟩ | ⟨c0, c1, c3⟩
  · exact absurd q hm
  have g5 := hG.2.2.2.1.2
  have c2 : c_.toInt < 6 := by omega
  have hn := clN (n := 6) c0 c2
  have th := hB.2.2.2.2.1 c_.toNatClampNeg hn
  rw [Nat.zero_add] at th
  obtain ⟨re, H, r1, r2, r3, r4, r5, r6, r7, r8, r9, r10, r11⟩ := attempt_eq (a1 := a1) (a2 := a2) (a3 := a3) (a4 := a4) (v0 := v0) (v1 := v1) (v2 := v2) (v3 := v3) hT g3 hS hB c0 c1 c2 i0 i1 th.1 th.2 (by omega)
  have ca : f_e_coupleAt fn i = c_ := by rw [at_eq hS hG hB i0, hw]
  have s1 : ST (f_e_leave (f_e_spendMinutes fn (H 32)) c_ (H 33)) (upd (upd w 19 (w 19 + H 32)) c_.toNatClampNeg (H 33)) 0 0 := w_g (w_min hS) c0 c2
  have B1 : BI G (upd (upd w 19 (w 19 + H 32)) c_.toNatClampNeg (H 33)) 0 := by
    refine BI_g (BI_m hB (Or.inl rfl)) c0 c2 c1 r7 (by omega) (fun hh => ?_)
    rw [pk_un (by decide)] at hh
    have := hB.2.2.2.2.2.1 c_ c0 c2 (by rw [Nat.zero_add]; exact hh)
    rw [Nat.zero_add] at this
    rw [this, i_0] at r8
    rw [i_eq, i_0]
    omega
  have o1 : ∀ x, 20 ≤ x → (upd (upd w 19 (w 19 + H 32)) c_.toNatClampNeg (H 33)) x = w x := fun x hx => by rw [pk_un (by omega), pk_un (by omega)]
  have z1 : (upd (upd w 19 (w 19 + H 32)) c_.toNatClampNeg (H 33)) c_.toNatClampNeg = H 33 := pk_us
  generalize hw1 : upd (upd w 19 (w 19 + H 32)) c_.toNatClampNeg (H 33) = w1 at s1 B1 o1 z1
  have sw : ∀ k0 k1 k2 k3 k4, f_e_swing_x9 a1 a2 a3 a4 k0 k1 k2 k3 k4 v0 v1 v2 v3 (G 7) fta ftc fn i = (if re = 0 then (H 34, H 32, w c_.toNatClampNeg - H 33, H 33, H 34, re, f_e_leave (f_e_spendMinutes fn (H 32)) c_ (H 33)) else (H 34, H 32, w c_.toNatClampNeg - H 33, H 33, H 34, re, f_e_reconcile (f_e_leave (f_e_spendMinutes fn (H 32)) c_ (H 33)) c_)) := by
    intro k0 k1 k2 k3 k4
    unfold f_e_swing_x9
    rw [ca, if_neg hm, e_t hS c0 c2, r2]
  have bh : ∀ w', BI G w' 0 → BI H w' 0 := fun w' h => BI_of h (fun k _ => rfl) (r3 3 (by decide)) (r3 4 (by decide)) (r3 5 (by decide)) (r3 6 (by decide))
  by_cases d : H 33 = 0 ∧ 0 < (H 32).toInt
  · have d2 : ¬ H 32 ≤ 0 := by
      rw [i_le, i_0]
      omega
    have dr : ¬ re = 0 := r6.mpr d
    refine ⟨H, upd (upd w1 18 (w1 18 ||| (1 <<< (c_ &&& 31)))) (6 + c_.toNatClampNeg) (-1), f_e_reconcile (f_e_leave (f_e_spendMinutes fn (H 32)) c_ (H 33)) c_, re, w c_.toNatClampNeg - H 33, c0, c2, r1, ?_, fun k0 k1 k2 k3 k4 => ?_, ?_, bh _ ?_, r3, r4, fun x hx => ?_⟩
    · rw [if_pos d.1, if_neg d2, hw1]
    · rw [sw, if_neg dr]
    · unfold f_e_reconcile
      rw [e_rec s1]
      exact w_p (w_rec s1) c0 c2
    · refine BI_p (BI_d B1 c0 c2 (by rw [z1]; exact d.1)) hn (by rw [clI c0]; exact c1) (by rw [i_m1]; omega) (by rw [i_m1]; omega) (fun _ _ _ _ => rfl)
    · rw [pk_un (by omega), pk_un (by omega), o1 x hx]
  · have dr : re = 0 := by
      by_cases z : re = 0
      · exact z
      · exact absurd (r6.mp z) d
    refine ⟨H, w1, f_e_leave (f_e_spendMinutes fn (H 32)) c_ (H 33), re, w c_.toNatClampNeg - H 33, c0, c2, r1, ?_, fun k0 k1 k2 k3 k4 => ?_, s1, bh _ B1, r3, r4, o1⟩
    · by_cases d1 : H 33 = 0
      · have d2 : H 32 ≤ 0 := by
          have d3 : ¬ 0 < (H 32).toInt := fun z => d ⟨d1, z⟩
          rw [i_le, i_0]
          omega
        rw [if_pos d1, if_pos d2, hw1]
      · rw [if_neg d1, hw1]
    · rw [sw, if_pos dr]
theorem pass_loop {a1 a2 a3 a4 l0 l1 l2 l3 l4 v0 v1 v2 v3 v8 v9 v : Int32} {ftd fte fn0 fsh0 f11 : Nat → Int32} (hv0 : 0 ≤ v.toInt) (hv1 : v.toInt < 7) (hfar : atF 7 ftd v = f11 v.toNatClampNeg) (hf5 : (f11 v.toNatClampNeg).toInt ≤ 5) : ∀ (n m : Nat) (i : Int32) (G fn w : Nat → Int32), GI G → TF G fta ftc f8 f10 → (f11 v.toNatClampNeg).toInt < (G 3).toInt → ST fn w 0 0 → BI G w 0 → w (27 + v.toNatClampNeg) = -1 → 0 ≤ i.toInt → i.toInt ≤ (f11 v.toNatClampNeg).toInt + 1 → (f11 v.toNatClampNeg).toInt + 1 - i.toInt < n → (f11 v.toNatClampNeg).toInt + 1 - i.toInt < m → ∃ (H w' fn' : Nat → Int32), ST fn' w' 0 0 ∧ BI H w' 0 ∧ (∀ k, k < 32 ∨ 35 ≤ k → H k = G k) ∧ (∀ x, 20 ≤ x → w' x = w x) ∧ ((∃ j, f_m_passes_5 f10 f8 f11 0 v n i 1 G w = (j, 1, H, w') ∧ ∀ k0 k1 k2 k3 k4 p1 p2 fsh, ∃ j' g0 g1 g2 g3 g4, f_e_pass_x9_72 a1 a2 a3 a4 l0 l1 l2 l3 l4 v0 v1 v2 v3 (G 7) fta ftc ftd fte fn0 v8 v9 fsh0 v m i k0 k1 k2 k3 k4 fn p1 p2 fsh = Sum.inl (j', g0, g1, g2, g3, g4, fn', p1, p2, fsh)) ∨ (∃ j b, f_m_passes_5 f10 f8 f11 0 v n i 1 G w = (j, 0, H, upd w' (27 + v.toNatClampNeg) b) ∧ ∀ k0 k1 k2 k3 k4 p1 p2 fsh, ∃ g0 g1 g2 g3 g4, f_e_pass_x9_72 a1 a2 a3 a4 l0 l1 l2 l3 l4 v0 v1 v2 v3 (G 7) fta ftc ftd fte fn0 v8 v9 fsh0 v m i k0 k1 k2 k3 k4 fn p1 p2 fsh = Sum.inr (f_e_minutes (f_e_lay fn' v b), g0, g1, g2, g3, g4, f_e_lay fn' v b, p1, p2, fsh))) := by
  have hmin : (if 5 < (atF 7 ftd v) then 5 else (atF 7 ftd v)) = f11 v.toNatClampNeg := by
    rw [hfar, if_neg]
    rw [i_lt]
    simp only [Int32.reduceToInt]
    omega
  intro n
  induction n with
  | zero => intro m i G fn w hG hT h3 hS hB hz h0 h1 h2; omega
  | succ n ih =>
    intro m i G fn w hG hT h3 hS hB hz h0 h1 h2 h4
    cases m with
    | zero => omega
    | succ m =>
      by_cases c1 : f11 v.toNatClampNeg < i
      · refine ⟨G, w, fn, hS, hB, fun k _ => rfl, fun x _ => rfl, Or.inl ⟨i, ?_, fun k0 k1 k2 k3 k4 p1 p2 fsh => ⟨i, k0, k1, k2, k3, k4, ?_⟩⟩⟩
        · rw [f_m_passes_5_s, if_pos c1]
        · rw [f_e_pass_x9_72_s, hmin, if_pos c1]
      · have c1' := c1
        rw [i_lt] at c1'
        have e1 := i_a1 (a := i) (by omega) (by omega)
        by_cases c2 : f_m_whoIsAt G w 0 i = -1
        · have ca : f_e_coupleAt fn i = -1 := by rw [at_eq hS hG hB h0, c2]
          obtain ⟨j, hj⟩ := passes_off (f8 := f8) (f10 := f10) (f11 := f11) (v := v) n (i + 1) G (upd w (27 + v.toNatClampNeg) i)
          refine ⟨G, w, fn, hS, hB, fun k _ => rfl, fun x _ => rfl, Or.inr ⟨j, i, ?_, fun k0 k1 k2 k3 k4 p1 p2 fsh => ⟨k0, k1, k2, k3, k4, ?_⟩⟩⟩
          · rw [passes_none hv0 hv1 c1 c2, hj]
          · have sw : f_e_swing_x9 a1 a2 a3 a4 k0 k1 k2 k3 k4 v0 v1 v2 v3 (G 7) fta ftc fn i = (0, k0, k1, k2, k3, k4, fn) := by
              unfold f_e_swing_x9
              rw [if_pos ca]
            rw [f_e_pass_x9_72_s, hmin, if_neg c1, sw]
            dsimp (config := { etaStruct := .none }) only
            rw [if_pos rfl]
        · obtain ⟨H, w', fn', re, k1', c0, c3, y1, y2, y3, y4, y5, y6, y7, y8⟩ := swing_eq (a1 := a1) (a2 := a2) (a3 := a3) (a4 := a4) (v0 := v0) (v1 := v1) (v2 := v2) (v3 := v3) hG hT hS hB h0 (by omega) rfl c2
          have st := passes_some (n := n) hv0 hv1 c0 c3 c1 rfl y1
          rw [y2] at st
          have hGH : GI H := GI.of (fun k hk => y6 k (by omega)) hG
          rcases y7 with z | z
          · rw [z, if_pos rfl] at st
            obtain ⟨j, hj⟩ := passes_off (f8 := f8) (f10 := f10) (f11 := f11) (v := v) n (i + 1) H (upd w' (27 + v.toNatClampNeg) i)
            refine ⟨H, w', fn', y4, y5, y6, y8, Or.inr ⟨j, i, ?_, fun k0 k1 k2 k3 k4 p1 p2 fsh => ⟨H 32, k1', H 33, H 34, re, ?_⟩⟩⟩
            · rw [st, hj]
            · rw [f_e_pass_x9_72_s, hmin, if_neg c1, y3]
              dsimp (config := { etaStruct := .none }) only
              rw [if_pos z]
          · have zn : ¬ H 34 = 0 := by rw [z]; decide
            rw [if_neg zn, z] at st
            have hz' : w' (27 + v.toNatClampNeg) = -1 := by rw [y8 _ (by omega)]; exact hz
            rw [rl_eq hz'] at st
            obtain ⟨K, w2, fn2, x1, x2, x3, x4, x5⟩ := ih m (i + 1) H fn' w' hGH (TF_of hT (fun k a b => y6 k (by omega))) (by rw [y6 3 (by decide)]; exact h3) y4 y5 hz' (by omega) (by omega) (by omega) (by omega)
            have e7 := y6 7 (by decide)
            refine ⟨K, w2, fn2, x1, x2, fun k hk => (x3 k hk).trans (y6 k hk), fun x hx => (x4 x hx).trans (y8 x hx), ?_⟩
            rcases x5 with ⟨j, u1, u2⟩ | ⟨j, b, u1, u2⟩
            · refine Or.inl ⟨j, by rw [st, u1], fun k0 k1 k2 k3 k4 p1 p2 fsh => ?_⟩
              obtain ⟨j', g0, g1, g2, g3, g4, u3⟩ := u2 (H 32) k1' (H 33) (H 34) re p1 p2 fsh
              rw [e7] at u3
              refine ⟨j', g0, g1, g2, g3, g4, ?_⟩
              rw [f_e_pass_x9_72_s, hmin, if_neg c1, y3]
              dsimp (config := { etaStruct := .none }) only
              rw [if_neg zn, u3]
            · refine Or.inr ⟨j, b, by rw [st, u1], fun k0 k1 k2 k3 k4 p1 p2 fsh => ?_⟩
              obtain ⟨g0, g1, g2, g3, g4, u3⟩ := u2 (H 32) k1' (H 33) (H 34) re p1 p2 fsh
              rw [e7] at u3
              refine ⟨g0, g1, g2, g3, g4, ?_⟩
              rw [f_e_pass_x9_72_s, hmin, if_neg c1, y3]
              dsimp (config := { etaStruct := .none }) only
              rw [if_neg zn, u3]
theorem R_pass {k0 k1 k2 k3 k4 v_ rx x0 x1 x2 x3 x4 x6 x7 ry : Int32} {x5 x8 y0 y1 : Nat → Int32} (hG : GI G) (hR : RS q1 q2 ftx f13 t0 t1 t2 t3 t4 fta ftb ftc ftd fte f8 f9 f10 f11 f12 b0 fba fbb f43 f44 G) (hD : DY q10 q12 p1 p2 fn fsh fim fis f1 G w) (ex : (rx, x0, x1, x2, x3, x4, x5, x6, x7, x8) = f_e_pass_x9 q1 q2 q10 q12 k0 k1 k2 k3 k4 t0 t1 t2 t3 t4 fta ftc ftd fte fn p1 p2 fsh v_) (em : (ry, y0, y1) = f_m_pass G w f10 f8 f11 f12 v_) : rx = ry ∧ RS q1 q2 ftx f13 t0 t1 t2 t3 t4 fta ftb ftc ftd fte f8 f9 f10 f11 f12 b0 fba fbb f43 f44 y0 ∧ DY q10 q12 x6 x7 x5 x8 fim fis f1 y0 y1 := by
  have hR0 := hR
  have hD0 := hD
  obtain ⟨hX, ⟨et0, et1, et2, et3, et4, n4, n7, nA, nB, nF, nD, nE⟩, hK⟩ := hR
  obtain ⟨⟨hS, hB, hq⟩, hU, hI⟩ := hD
  unfold f_e_pass_x9 at ex
  unfold f_m_pass at em
  rw [et3, et4] at ex
  by_cases c1 : f_m_isBarge G v_ = 0
  · rw [if_pos c1] at em
    rw [if_pos ((q_barge hG _ _ _ _ _).mpr c1)] at ex
    cases ex; cases em
    exact ⟨rfl, hR0, hD0⟩
  rw [if_neg c1] at em
  rw [if_neg (fun q => c1 ((q_barge hG _ _ _ _ _).mp q))] at ex
  obtain ⟨a0, a1, a2⟩ := l_barge hG c1
  have hn := clN (n := 7) a0 a2
  have hi := clI a0
  have x20 : (20 + v_ : Int32).toNatClampNeg = 20 + v_.toNatClampNeg := sN (a := 20) (x := 20) (y := 7) rfl a0 a2 (by decide)
  have n19 : (19 : Int32).toNatClampNeg = 19 := rfl
  rw [x20, n19] at em
  rw [e_fate hS a0 a2, e_min hS] at ex
  by_cases c2 : w (20 + v_.toNatClampNeg) = 0
  · rw [if_pos c2] at ex em
    by_cases c3 : w 19 ≤ 90000
    · rw [if_pos c3] at ex em
      cases hr : f_e_remember_x2 p1 p2 fsh fn with
      | mk s1 z =>
        obtain ⟨s2, gsh⟩ := z
        cases hm : f_m_minds G w with
        | mk M u =>
          rw [hr] at ex
          rw [hm] at em
          dsimp (config := { etaStruct := .none }) only at ex em
          obtain ⟨s1', s2', gsh', M', u', r1', r2', r3, r4, gH, sn, _⟩ := DY_go (q12' := q12) (fn' := fn) hD0 hG
          rw [hr] at r1'
          rw [hm] at r2'
          cases r1'; cases r2'
          have g3 := hG.2.1.2
          obtain ⟨f_a, f_b, f_c⟩ := nD v_.toNatClampNeg (by omega)
          obtain ⟨d_a, d_b, d_c⟩ := nE v_.toNatClampNeg (by omega)
          have hfar : atF 7 ftd v_ = f11 v_.toNatClampNeg := by
            rw [at_in a0 a2]
            exact f_a
          have hdue : atF 7 fte v_ = f12 v_.toNatClampNeg := by
            rw [at_in a0 a2]
            exact d_a
          obtain ⟨b27, b34⟩ := sn.2.1.2.2.2.2.2.2.1 v_.toNatClampNeg hn (by rw [Nat.zero_add, r4 _ (by omega)]; exact c2)
          rw [Nat.zero_add] at b27 b34
          have hmin : (if 5 < (atF 7 ftd v_) then 5 else (atF 7 ftd v_)) = f11 v_.toNatClampNeg := by
            rw [hfar, if_neg]
            rw [i_lt]
            simp only [Int32.reduceToInt]
            omega
          have hT : TF M fta ftc f8 f10 := TF_of ⟨n7, nA, nF⟩ (fun k a b => r3 k (by omega))
          obtain ⟨K, w', fn', y1', y2', y3', y4', y5'⟩ := pass_loop (fta := fta) (ftc := ftc) (f8 := f8) (f10 := f10) (a1 := q1) (a2 := q2) (a3 := q10) (a4 := q12) (l0 := k0) (l1 := k1) (l2 := k2) (l3 := k3) (l4 := k4) (v0 := t0) (v1 := t1) (v2 := t2) (v3 := G 6) (v8 := p1) (v9 := p2) (fte := fte) (fn0 := fn) (fsh0 := fsh) a0 a2 hfar (by omega) 10 (((f11 v_.toNatClampNeg).toInt + 1 - (0 : Int32).toInt).toNat + 1) 0 M fn u gH hT (by rw [r3 3 (by decide)]; omega) sn.1 sn.2.1 b27 (by decide) (by rw [i_0]; omega) (by rw [i_0]; omega) (by rw [i_0]; omega)
          rw [r3 7 (by decide)] at y5'
          rw [hmin] at ex
          have o20 : (0 + 20 + v_ : Int32).toNatClampNeg = 20 + v_.toNatClampNeg := sN (a := 20) (x := 20) (y := 7) rfl a0 a2 (by decide)
          have o34 : (0 + 34 + v_ : Int32).toNatClampNeg = 34 + v_.toNatClampNeg := sN (a := 34) (x := 34) (y := 7) rfl a0 a2 (by decide)
          have o19 : (0 + 19 : Int32).toNatClampNeg = 19 := rfl
          have frG : ∀ k, 3 ≤ k → k < 32 ∨ k = 42 → K k = G k := fun k h1 h2 => (y3' k (by omega)).trans (r3 k (by omega))
          have snK : ∀ fn2 w2, ST fn2 w2 0 0 → BI K w2 0 → (∀ x, 41 ≤ x → w2 x = w' x) → DY q10 q12 s1 s2 fn2 gsh fim fis f1 K w2 := by
            intro fn2 w2 h1 h2 h3
            obtain ⟨s1', s2', gsh', M', u', r1', r2', _, _, _, _, go⟩ := DY_go (q12' := q12) (fn' := fn2) hD0 hG
            rw [hr] at r1'
            rw [hm] at r2'
            cases r1'; cases r2'
            have hMw : ∀ x, 41 ≤ x → w2 x = u x := fun x hx => by rw [h3 x hx, y4' x (by omega)]
            have := go w2 (fun x hx => hMw x (by omega)) ⟨h1, BI_of h2 (fun k _ => rfl) (y3' 3 (by decide)).symm (y3' 4 (by decide)).symm (y3' 5 (by decide)).symm (y3' 6 (by decide)).symm, by rw [hMw 41 (by decide)]; exact sn.2.2⟩
            exact DY_of this gH (fun x _ => rfl) (fun k h1 h2 => y3' k (by omega))
          rcases y5' with ⟨j, u1, u2⟩ | ⟨j, b, u1, u2⟩
          · obtain ⟨j', g0, g1, g2, g3', g4, u3⟩ := u2 k0 k1 k2 k3 k4 s1 s2 gsh
            rw [u3] at ex
            have hp : f_m_passes M u f10 f8 f11 f12 0 v_ = (if (f12 v_.toNatClampNeg) < (w' 19) then (K, upd (upd w' (20 + v_.toNatClampNeg) 2) (34 + v_.toNatClampNeg) ((upd w' (20 + v_.toNatClampNeg) 2) 19)) else (K, upd (upd w' (20 + v_.toNatClampNeg) 1) (34 + v_.toNatClampNeg) ((upd w' (20 + v_.toNatClampNeg) 1) 19))) := by
              unfold f_m_passes
              rw [u1]
              dsimp (config := { etaStruct := .none }) only
              rw [if_neg (by decide), o20, o34, o19]
              by_cases z : f12 v_.toNatClampNeg < w' 19
              · rw [if_pos z, if_pos z, if_neg (by decide)]
              · rw [if_neg z, if_neg z, if_neg (by decide)]
            rw [hp] at em
            dsimp (config := { etaStruct := .none }) only at ex
            rw [hdue, e_min y1'] at ex
            have fin : ∀ x : Int32, x ≠ 0 → (rx, x0, x1, x2, x3, x4, x5, x6, x7, x8) = (f_e_minutes (f_e_letThrough fn' v_ x), g0, g1, g2, g3', g4, f_e_letThrough fn' v_ x, s1, s2, gsh) → (ry, y0, y1) = ((upd (upd w' (20 + v_.toNatClampNeg) x) (34 + v_.toNatClampNeg) ((upd w' (20 + v_.toNatClampNeg) x) 19)) 19, K, upd (upd w' (20 + v_.toNatClampNeg) x) (34 + v_.toNatClampNeg) ((upd w' (20 + v_.toNatClampNeg) x) 19)) → rx = ry ∧ RS q1 q2 ftx f13 t0 t1 t2 t3 t4 fta ftb ftc ftd fte f8 f9 f10 f11 f12 b0 fba fbb f43 f44 y0 ∧ DY q10 q12 x6 x7 x5 x8 fim fis f1 y0 y1 := by
              intro x hx ex em
              have sa := w_fate (x := x) y1' a0 a2
              have sb : ST (f_e_letThrough fn' v_ x) (upd (upd w' (20 + v_.toNatClampNeg) x) (34 + v_.toNatClampNeg) ((upd w' (20 + v_.toNatClampNeg) x) 19)) 0 0 := by
                unfold f_e_letThrough
                rw [e_min sa]
                exact w_when sa a0 a2
              have bb : BI K (upd (upd w' (20 + v_.toNatClampNeg) x) (34 + v_.toNatClampNeg) ((upd w' (20 + v_.toNatClampNeg) x) 19)) 0 := by
                have := BI_v (y := w' (27 + v_.toNatClampNeg)) (z := (upd w' (20 + v_.toNatClampNeg) x) 19) y2' hn (by rw [y3' 6 (by decide), r3 6 (by decide)]; omega) hx
                rw [rl_self] at this
                exact this
              rw [e_min sb] at ex
              have dd := snK _ _ sb bb (fun x hx => by rw [pk_un (by omega), pk_un (by omega)])
              cases ex; cases em
              exact ⟨rfl, RS_of hR0 frG, dd⟩
            by_cases z : f12 v_.toNatClampNeg < w' 19
            · rw [if_pos z] at ex em
              exact fin 2 (by decide) ex em
            · rw [if_neg z] at ex em
              exact fin 1 (by decide) ex em
          · obtain ⟨g0, g1, g2, g3', g4, u3⟩ := u2 k0 k1 k2 k3 k4 s1 s2 gsh
            rw [u3] at ex
            have hp : f_m_passes M u f10 f8 f11 f12 0 v_ = (K, upd (upd (upd w' (27 + v_.toNatClampNeg) b) (20 + v_.toNatClampNeg) 3) (34 + v_.toNatClampNeg) (-1)) := by
              unfold f_m_passes
              rw [u1]
              dsimp (config := { etaStruct := .none }) only
              rw [if_pos rfl, if_pos rfl, o20, o34]
            rw [hp] at em
            dsimp (config := { etaStruct := .none }) only at ex em
            have h34 : (upd (upd w' (27 + v_.toNatClampNeg) b) (20 + v_.toNatClampNeg) 3) (34 + v_.toNatClampNeg) = -1 := by
              rw [pk_un (by omega), pk_un (by omega), y4' _ (by omega)]
              exact b34
            have bb : BI K (upd (upd (upd w' (27 + v_.toNatClampNeg) b) (20 + v_.toNatClampNeg) 3) (34 + v_.toNatClampNeg) (-1)) 0 := BI_v y2' hn (by rw [y3' 6 (by decide), r3 6 (by decide)]; omega) (by decide)
            rw [rl_eq h34] at em bb
            have sb : ST (f_e_lay fn' v_ b) (upd (upd w' (27 + v_.toNatClampNeg) b) (20 + v_.toNatClampNeg) 3) 0 0 := by
              rw [rl_sw (by omega)]
              exact w_berth (w_fate y1' a0 a2) a0 a2
            rw [e_min sb] at ex
            have dd := snK _ _ sb bb (fun x hx => by rw [pk_un (by omega), pk_un (by omega)])
            cases ex; cases em
            exact ⟨rfl, RS_of hR0 frG, dd⟩
    · rw [if_neg c3] at ex em
      cases ex; cases em
      exact ⟨rfl, hR0, hD0⟩
  · rw [if_neg c2] at ex em
    cases ex; cases em
    exact ⟨rfl, hR0, hD0⟩
end
end
section
/-! what order leaves alone -/
def FZ (X w : Nat → Int32) : Prop := ∀ x, x < 42 ∨ 378 ≤ x → w x = X x
theorem FZ_copy {X w : Nat → Int32} {fr to : Int32} (h : FZ X w) (a0 : 0 ≤ fr.toInt) (a1 : fr.toInt ≤ 1260) (b0 : 42 ≤ to.toInt) (b1 : to.toInt ≤ 336) (hd : fr.toInt + 42 ≤ to.toInt) : FZ X (f_m_copy w fr to) := by
  have cs := copy_spec w a0 a1 (to := to) (by omega) (by omega) (Or.inl hd)
  exact fun x hx => (cs.2 x (by omega)).trans (h x hx)
theorem passF_loop {f10 f8 f11 : Nat → Int32} {h v : Int32} (h0 : 0 ≤ h.toInt) (h1 : h.toInt ≤ 1260) (v0 : 0 ≤ v.toInt) (v1 : v.toInt < 7) : ∀ (n : Nat) (i on : Int32) (G w : Nat → Int32), GI G → ∀ x : Nat, ¬ (h.toInt ≤ x ∧ (x : Int) < h.toInt + 42) → (f_m_passes_5 f10 f8 f11 h v n i on G w).2.2.2 x = w x := by
  have eh := clI h0
  have ev := clI v0
  have ax : ∀ (a : Int32) (m : Nat), a.toInt = (m : Int) → m < 42 → ∀ c : Int32, 0 ≤ c.toInt → c.toInt < 7 → (h + a + c).toNatClampNeg = h.toNatClampNeg + m + c.toNatClampNeg := by
    intro a m ha hm c c0 c1
    have e1 := i_add (a := h) (b := a) (by omega) (by omega)
    rw [ixn (by omega) c0 (by omega), ixn h0 (by omega) (by omega), i_clamp a, ha]
    rfl
  have ay : ∀ (a : Int32) (m : Nat), a.toInt = (m : Int) → m < 42 → (h + a).toNatClampNeg = h.toNatClampNeg + m := by
    intro a m ha hm
    rw [ixn h0 (by omega) (by omega), i_clamp a, ha]
    rfl
  intro n
  induction n with
  | zero => intro i on G w hG x hx; rfl
  | succ n ih =>
    intro i on G w hG x hx
    rw [f_m_passes_5_s]
    by_cases c1 : f11 v.toNatClampNeg < i
    · rw [if_pos c1]
    · rw [if_neg c1]
      by_cases c2 : on = 0
      · rw [if_pos c2]
      · rw [if_neg c2, ax 27 27 rfl (by decide) v v0 v1]
        obtain ⟨w0, w1⟩ := p_whoIsAt (f0 := w) (b_ := i) hG h0 h1
        have g5 := hG.2.2.2.1.2
        generalize f_m_whoIsAt G w h i = c at w0 w1 ⊢
        by_cases c3 : c = -1
        · rw [if_pos c3, ih _ _ _ _ hG x hx, pk_un (by omega)]
        · have c0 : 0 ≤ c.toInt := by
            rw [i_eq, i_m1] at c3
            omega
          have ec := clI c0
          have hq : GI (f_m_quarrels G f10 c (w (h + 12 + c).toNatClampNeg) (w (h + 0 + c).toNatClampNeg) (f8 i.toNatClampNeg)) := GI.of p_quarrels hG
          generalize f_m_quarrels G f10 c (w (h + 12 + c).toNatClampNeg) (w (h + 0 + c).toNatClampNeg) (f8 i.toNatClampNeg) = H at hq ⊢
          rw [if_neg c3, ax 0 0 rfl (by decide) c c0 (by omega), ax 6 6 rfl (by decide) c c0 (by omega), ay 19 19 rfl (by decide), ay 18 18 rfl (by decide)]
          by_cases d1 : H 33 = 0
          · rw [if_pos d1]
            by_cases d2 : H 32 ≤ 0
            · rw [if_pos d2]
              by_cases d3 : H 34 = 0
              · rw [if_pos d3, ih _ _ _ _ hq x hx, pk_un (by omega), pk_un (by omega), pk_un (by omega)]
              · rw [if_neg d3, ih _ _ _ _ hq x hx, pk_un (by omega), pk_un (by omega), pk_un (by omega)]
            · rw [if_neg d2]
              by_cases d3 : H 34 = 0
              · rw [if_pos d3, ih _ _ _ _ hq x hx, pk_un (by omega), pk_un (by omega), pk_un (by omega), pk_un (by omega), pk_un (by omega)]
              · rw [if_neg d3, ih _ _ _ _ hq x hx, pk_un (by omega), pk_un (by omega), pk_un (by omega), pk_un (by omega), pk_un (by omega)]
          · rw [if_neg d1]
            by_cases d3 : H 34 = 0
            · rw [if_pos d3, ih _ _ _ _ hq x hx, pk_un (by omega), pk_un (by omega), pk_un (by omega)]
            · rw [if_neg d3, ih _ _ _ _ hq x hx, pk_un (by omega), pk_un (by omega), pk_un (by omega)]
theorem FZ_pass {X G w f10 f8 f11 f12 u1 u2 : Nat → Int32} {h v : Int32} (hG : GI G) (hz : FZ X w) (h0 : 42 ≤ h.toInt) (h1 : h.toInt ≤ 336) (v0 : 0 ≤ v.toInt) (v1 : v.toInt < 7) (e : f_m_passes G w f10 f8 f11 f12 h v = (u1, u2)) : FZ X u2 := by
  intro x hx
  have eh := clI (c := h) (by omega)
  have ev := clI v0
  have k := passF_loop (f10 := f10) (f8 := f8) (f11 := f11) (h := h) (v := v) (by omega) (by omega) v0 v1 10 0 1 G w hG x (by omega)
  unfold f_m_passes at e
  have i20 : (20 : Int32).toInt = 20 := rfl
  have i34 : (34 : Int32).toInt = 34 := rfl
  have s20 := i_add (a := h) (b := 20) (by omega) (by omega)
  have s34 := i_add (a := h) (b := 34) (by omega) (by omega)
  have e20 : (h + 20 + v).toNatClampNeg = h.toNatClampNeg + 20 + v.toNatClampNeg := by
    rw [ixn (by omega) v0 (by omega), ixn (by omega) (by decide) (by omega)]
    rfl
  have e34 : (h + 34 + v).toNatClampNeg = h.toNatClampNeg + 34 + v.toNatClampNeg := by
    rw [ixn (by omega) v0 (by omega), ixn (by omega) (by decide) (by omega)]
    rfl
  rw [e20, e34] at e
  generalize f_m_passes_5 f10 f8 f11 h v 10 0 1 G w = z at e k
  obtain ⟨z1, z2, z3, z4⟩ := z
  dsimp (config := { etaStruct := .none }) only at e k
  have fin : ∀ (a b : Int32) (y : Nat → Int32), (z3, upd (upd z4 (h.toNatClampNeg + 20 + v.toNatClampNeg) a) (h.toNatClampNeg + 34 + v.toNatClampNeg) b) = (u1, u2) → u2 x = X x := by
    intro a b y e
    cases e
    rw [pk_un (by omega), pk_un (by omega), k]
    exact hz x hx
  by_cases c1 : z2 = 0
  · rw [if_pos c1, if_pos c1] at e
    exact fin _ _ w e
  · rw [if_neg c1] at e
    by_cases c2 : f12 v.toNatClampNeg < z4 (h + 19).toNatClampNeg
    · rw [if_pos c2, if_neg c1] at e
      exact fin _ _ w e
    · rw [if_neg c2, if_neg c1] at e
      exact fin _ _ w e
theorem b253 {l : Int32} : ∀ (n : Nat) (i : Int32) (m0 m1 m2 m3 : Nat → Int32) (r0 : Int32) (r1 r2 r3 r4 : Nat → Int32), f_m_findOrder_253 l n i m0 m1 m2 m3 = (r0, r1, r2, r3, r4) → r2 = m1 := by
  intro n
  induction n with
  | zero =>
    intro i m0 m1 m2 m3 r0 r1 r2 r3 r4 e
    replace e : (i, m0, m1, m2, m3) = (r0, r1, r2, r3, r4) := e
    cases e
    rfl
  | succ n ih =>
    intro i m0 m1 m2 m3 r0 r1 r2 r3 r4 e
    rw [f_m_findOrder_253_s] at e
    by_cases c : (l + 1) ≤ i
    · rw [if_pos c] at e
      cases e
      rfl
    · rw [if_neg c] at e
      exact ih _ _ _ _ _ _ _ _ _ _ e
end
section
set_option maxHeartbeats 4000000 in
theorem fl_findOrder_28 {X0 : Nat → Int32} {G : Nat → Int32} {f10 : Nat → Int32} {f8 : Nat → Int32} {f11 : Nat → Int32} {f12 : Nat → Int32} (h_0 : GI G) (h_1 : RI f11) : ∀ (n : Nat) w_4l2 w_4l1 w_4m0 w_4m1 w_4m2 w_4m3, (QF G w_4m0 ∧ WI w_4m1 ∧ (-1 ≤ w_4l1.toInt) ∧ (w_4l1.toInt ≤ 7) ∧ FR (G 6).toInt w_4l1.toInt w_4m2 ∧ (0 ≤ (w_4m0 40).toInt) ∧ ((w_4m0 40).toInt ≤ 7)) → FZ X0 w_4m1 → ∀ r0 r1 r2 r3 r4 r5, f_m_findOrder_28 f10 f8 f11 f12 n w_4l2 w_4l1 w_4m0 w_4m1 w_4m2 w_4m3 = (r0, r1, r2, r3, r4, r5) → FZ X0 r3 := by
  have h_0_g := h_0
  obtain ⟨⟨h_0_2a, h_0_2b⟩, ⟨h_0_3a, h_0_3b⟩, ⟨h_0_4a, h_0_4b⟩, ⟨h_0_5a, h_0_5b⟩, ⟨h_0_6a, h_0_6b⟩, ⟨h_0_14a, h_0_14b⟩, ⟨h_0_42a, h_0_42b⟩⟩ := h_0_g
  intro n
  induction n with
  | zero =>
    intro w_4l2 w_4l1 w_4m0 w_4m1 w_4m2 w_4m3 hI hZ r0 r1 r2 r3 r4 r5 e
    replace e : (w_4l2, w_4l1, w_4m0, w_4m1, w_4m2, w_4m3) = (r0, r1, r2, r3, r4, r5) := e
    cases e
    exact hZ
  | succ n ih =>
    intro w_4l2 w_4l1 w_4m0 w_4m1 w_4m2 w_4m3 hI hZ r0 r1 r2 r3 r4 r5 e
    rw [f_m_findOrder_28_s] at e
    have hI0 := hI
    obtain ⟨i_1, i_2, i_3, i_4, i_5, i_6, i_7⟩ := hI0
    obtain ⟨w_4m0_2, w_4m0_3, w_4m0_4, w_4m0_5, w_4m0_6, w_4m0_14, w_4m0_42⟩ := QFs i_1
    by_cases c_8 : w_4l1 < 0
    · rw [if_pos c_8] at e
      try simp (disch := omega) only [↓i_in, ↓i_isCouple, ↓i_isBridge, ↓i_isTheme, ↓i_isBarge, i_lt, i_le, i_eq, i_clamp, i_m1, Int32.toInt_toInt64, Int32.toInt_add, Int32.toInt_sub, Int32.toInt_mul, bm32, Int32.reduceToInt, Int64.reduceToInt, Nat.reduceLT, Nat.reduceEqDiff, reduceIte, u_eq, u_ne, w_4m0_2, w_4m0_3, w_4m0_4, w_4m0_5, w_4m0_6, w_4m0_14, w_4m0_42] at c_8
      cases e
      exact hZ
    · rw [if_neg c_8] at e
      try simp (disch := omega) only [↓i_in, ↓i_isCouple, ↓i_isBridge, ↓i_isTheme, ↓i_isBarge, i_lt, i_le, i_eq, i_clamp, i_m1, Int32.toInt_toInt64, Int32.toInt_add, Int32.toInt_sub, Int32.toInt_mul, bm32, Int32.reduceToInt, Int64.reduceToInt, Nat.reduceLT, Nat.reduceEqDiff, reduceIte, u_eq, u_ne, w_4m0_2, w_4m0_3, w_4m0_4, w_4m0_5, w_4m0_6, w_4m0_14, w_4m0_42] at c_8
      have fr0 := i_5 w_4l1.toInt.toNat (by omega)
      by_cases c_9 : ((upd w_4m2 (w_4l1 : Int32).toNatClampNeg ((w_4m2 (w_4l1 : Int32).toNatClampNeg) + 1)) (w_4l1 : Int32).toNatClampNeg) = (w_4m0 6)
      · rw [if_pos c_9] at e
        try simp (disch := omega) only [↓i_in, ↓i_isCouple, ↓i_isBridge, ↓i_isTheme, ↓i_isBarge, i_lt, i_le, i_eq, i_clamp, i_m1, Int32.toInt_toInt64, Int32.toInt_add, Int32.toInt_sub, Int32.toInt_mul, bm32, Int32.reduceToInt, Int64.reduceToInt, Nat.reduceLT, Nat.reduceEqDiff, reduceIte, u_eq, u_ne, w_4m0_2, w_4m0_3, w_4m0_4, w_4m0_5, w_4m0_6, w_4m0_14, w_4m0_42] at c_9
        by_cases c_10 : (w_4l1 + (-1)) < 0
        · rw [if_pos c_10] at e
          try simp (disch := omega) only [↓i_in, ↓i_isCouple, ↓i_isBridge, ↓i_isTheme, ↓i_isBarge, i_lt, i_le, i_eq, i_clamp, i_m1, Int32.toInt_toInt64, Int32.toInt_add, Int32.toInt_sub, Int32.toInt_mul, bm32, Int32.reduceToInt, Int64.reduceToInt, Nat.reduceLT, Nat.reduceEqDiff, reduceIte, u_eq, u_ne, w_4m0_2, w_4m0_3, w_4m0_4, w_4m0_5, w_4m0_6, w_4m0_14, w_4m0_42] at c_10
          have q_11 := FR_back (B := (G 6).toInt) (by first | omega | (simp (disch := omega) only [↓i_in, ↓i_isCouple, ↓i_isBridge, ↓i_isTheme, ↓i_isBarge, i_lt, i_le, i_eq, i_clamp, i_m1, Int32.toInt_toInt64, Int32.toInt_add, Int32.toInt_sub, Int32.toInt_mul, bm32, Int32.reduceToInt, Int64.reduceToInt, Nat.reduceLT, Nat.reduceEqDiff, reduceIte, u_eq, u_ne, w_4m0_2, w_4m0_3, w_4m0_4, w_4m0_5, w_4m0_6, w_4m0_14, w_4m0_42] <;> omega)) (by omega) (by omega) i_5
          obtain ⟨q_11a, q_11b⟩ := q_11
          exact ih (w_4l2 - 0) (w_4l1 + (-1)) w_4m0 w_4m1 (upd w_4m2 (w_4l1 : Int32).toNatClampNeg ((w_4m2 (w_4l1 : Int32).toNatClampNeg) + 1)) w_4m3 (⟨i_1, i_2, (by first | omega | (simp (disch := omega) only [↓i_in, ↓i_isCouple, ↓i_isBridge, ↓i_isTheme, ↓i_isBarge, i_lt, i_le, i_eq, i_clamp, i_m1, Int32.toInt_toInt64, Int32.toInt_add, Int32.toInt_sub, Int32.toInt_mul, bm32, Int32.reduceToInt, Int64.reduceToInt, Nat.reduceLT, Nat.reduceEqDiff, reduceIte, u_eq, u_ne, w_4m0_2, w_4m0_3, w_4m0_4, w_4m0_5, w_4m0_6, w_4m0_14, w_4m0_42] <;> omega)), (by first | omega | (simp (disch := omega) only [↓i_in, ↓i_isCouple, ↓i_isBridge, ↓i_isTheme, ↓i_isBarge, i_lt, i_le, i_eq, i_clamp, i_m1, Int32.toInt_toInt64, Int32.toInt_add, Int32.toInt_sub, Int32.toInt_mul, bm32, Int32.reduceToInt, Int64.reduceToInt, Nat.reduceLT, Nat.reduceEqDiff, reduceIte, u_eq, u_ne, w_4m0_2, w_4m0_3, w_4m0_4, w_4m0_5, w_4m0_6, w_4m0_14, w_4m0_42] <;> omega)), q_11a, (by first | omega | (simp (disch := omega) only [↓i_in, ↓i_isCouple, ↓i_isBridge, ↓i_isTheme, ↓i_isBarge, i_lt, i_le, i_eq, i_clamp, i_m1, Int32.toInt_toInt64, Int32.toInt_add, Int32.toInt_sub, Int32.toInt_mul, bm32, Int32.reduceToInt, Int64.reduceToInt, Nat.reduceLT, Nat.reduceEqDiff, reduceIte, u_eq, u_ne, w_4m0_2, w_4m0_3, w_4m0_4, w_4m0_5, w_4m0_6, w_4m0_14, w_4m0_42] <;> omega)), (by first | omega | (simp (disch := omega) only [↓i_in, ↓i_isCouple, ↓i_isBridge, ↓i_isTheme, ↓i_isBarge, i_lt, i_le, i_eq, i_clamp, i_m1, Int32.toInt_toInt64, Int32.toInt_add, Int32.toInt_sub, Int32.toInt_mul, bm32, Int32.reduceToInt, Int64.reduceToInt, Nat.reduceLT, Nat.reduceEqDiff, reduceIte, u_eq, u_ne, w_4m0_2, w_4m0_3, w_4m0_4, w_4m0_5, w_4m0_6, w_4m0_14, w_4m0_42] <;> omega))⟩) hZ _ _ _ _ _ _ e
        · rw [if_neg c_10] at e
          try simp (disch := omega) only [↓i_in, ↓i_isCouple, ↓i_isBridge, ↓i_isTheme, ↓i_isBarge, i_lt, i_le, i_eq, i_clamp, i_m1, Int32.toInt_toInt64, Int32.toInt_add, Int32.toInt_sub, Int32.toInt_mul, bm32, Int32.reduceToInt, Int64.reduceToInt, Nat.reduceLT, Nat.reduceEqDiff, reduceIte, u_eq, u_ne, w_4m0_2, w_4m0_3, w_4m0_4, w_4m0_5, w_4m0_6, w_4m0_14, w_4m0_42] at c_10
          have fr1 := i_5 (w_4l1.toInt + -1).toNat (by omega)
          by_cases c_12 : (w_4m1 ((((42 + (42 * ((w_4l1 + (-1)) + 1))) + 20) + ((upd w_4m2 (w_4l1 : Int32).toNatClampNeg ((w_4m2 (w_4l1 : Int32).toNatClampNeg) + 1)) ((w_4l1 + (-1)) : Int32).toNatClampNeg)) : Int32).toNatClampNeg) = 1
          · rw [if_pos c_12] at e
            try simp (disch := omega) only [↓i_in, ↓i_isCouple, ↓i_isBridge, ↓i_isTheme, ↓i_isBarge, i_lt, i_le, i_eq, i_clamp, i_m1, Int32.toInt_toInt64, Int32.toInt_add, Int32.toInt_sub, Int32.toInt_mul, bm32, Int32.reduceToInt, Int64.reduceToInt, Nat.reduceLT, Nat.reduceEqDiff, reduceIte, u_eq, u_ne, w_4m0_2, w_4m0_3, w_4m0_4, w_4m0_5, w_4m0_6, w_4m0_14, w_4m0_42] at c_12
            have q_13 := FR_back (B := (G 6).toInt) (by first | omega | (simp (disch := omega) only [↓i_in, ↓i_isCouple, ↓i_isBridge, ↓i_isTheme, ↓i_isBarge, i_lt, i_le, i_eq, i_clamp, i_m1, Int32.toInt_toInt64, Int32.toInt_add, Int32.toInt_sub, Int32.toInt_mul, bm32, Int32.reduceToInt, Int64.reduceToInt, Nat.reduceLT, Nat.reduceEqDiff, reduceIte, u_eq, u_ne, w_4m0_2, w_4m0_3, w_4m0_4, w_4m0_5, w_4m0_6, w_4m0_14, w_4m0_42] <;> omega)) (by omega) (by omega) i_5
            obtain ⟨q_13a, q_13b⟩ := q_13
            exact ih (w_4l2 - 1) (w_4l1 + (-1)) w_4m0 w_4m1 (upd w_4m2 (w_4l1 : Int32).toNatClampNeg ((w_4m2 (w_4l1 : Int32).toNatClampNeg) + 1)) w_4m3 (⟨i_1, i_2, (by first | omega | (simp (disch := omega) only [↓i_in, ↓i_isCouple, ↓i_isBridge, ↓i_isTheme, ↓i_isBarge, i_lt, i_le, i_eq, i_clamp, i_m1, Int32.toInt_toInt64, Int32.toInt_add, Int32.toInt_sub, Int32.toInt_mul, bm32, Int32.reduceToInt, Int64.reduceToInt, Nat.reduceLT, Nat.reduceEqDiff, reduceIte, u_eq, u_ne, w_4m0_2, w_4m0_3, w_4m0_4, w_4m0_5, w_4m0_6, w_4m0_14, w_4m0_42] <;> omega)), (by first | omega | (simp (disch := omega) only [↓i_in, ↓i_isCouple, ↓i_isBridge, ↓i_isTheme, ↓i_isBarge, i_lt, i_le, i_eq, i_clamp, i_m1, Int32.toInt_toInt64, Int32.toInt_add, Int32.toInt_sub, Int32.toInt_mul, bm32, Int32.reduceToInt, Int64.reduceToInt, Nat.reduceLT, Nat.reduceEqDiff, reduceIte, u_eq, u_ne, w_4m0_2, w_4m0_3, w_4m0_4, w_4m0_5, w_4m0_6, w_4m0_14, w_4m0_42] <;> omega)), q_13a, (by first | omega | (simp (disch := omega) only [↓i_in, ↓i_isCouple, ↓i_isBridge, ↓i_isTheme, ↓i_isBarge, i_lt, i_le, i_eq, i_clamp, i_m1, Int32.toInt_toInt64, Int32.toInt_add, Int32.toInt_sub, Int32.toInt_mul, bm32, Int32.reduceToInt, Int64.reduceToInt, Nat.reduceLT, Nat.reduceEqDiff, reduceIte, u_eq, u_ne, w_4m0_2, w_4m0_3, w_4m0_4, w_4m0_5, w_4m0_6, w_4m0_14, w_4m0_42] <;> omega)), (by first | omega | (simp (disch := omega) only [↓i_in, ↓i_isCouple, ↓i_isBridge, ↓i_isTheme, ↓i_isBarge, i_lt, i_le, i_eq, i_clamp, i_m1, Int32.toInt_toInt64, Int32.toInt_add, Int32.toInt_sub, Int32.toInt_mul, bm32, Int32.reduceToInt, Int64.reduceToInt, Nat.reduceLT, Nat.reduceEqDiff, reduceIte, u_eq, u_ne, w_4m0_2, w_4m0_3, w_4m0_4, w_4m0_5, w_4m0_6, w_4m0_14, w_4m0_42] <;> omega))⟩) hZ _ _ _ _ _ _ e
          · rw [if_neg c_12] at e
            try simp (disch := omega) only [↓i_in, ↓i_isCouple, ↓i_isBridge, ↓i_isTheme, ↓i_isBarge, i_lt, i_le, i_eq, i_clamp, i_m1, Int32.toInt_toInt64, Int32.toInt_add, Int32.toInt_sub, Int32.toInt_mul, bm32, Int32.reduceToInt, Int64.reduceToInt, Nat.reduceLT, Nat.reduceEqDiff, reduceIte, u_eq, u_ne, w_4m0_2, w_4m0_3, w_4m0_4, w_4m0_5, w_4m0_6, w_4m0_14, w_4m0_42] at c_12
            have q_14 := FR_back (B := (G 6).toInt) (by first | omega | (simp (disch := omega) only [↓i_in, ↓i_isCouple, ↓i_isBridge, ↓i_isTheme, ↓i_isBarge, i_lt, i_le, i_eq, i_clamp, i_m1, Int32.toInt_toInt64, Int32.toInt_add, Int32.toInt_sub, Int32.toInt_mul, bm32, Int32.reduceToInt, Int64.reduceToInt, Nat.reduceLT, Nat.reduceEqDiff, reduceIte, u_eq, u_ne, w_4m0_2, w_4m0_3, w_4m0_4, w_4m0_5, w_4m0_6, w_4m0_14, w_4m0_42] <;> omega)) (by omega) (by omega) i_5
            obtain ⟨q_14a, q_14b⟩ := q_14
            exact ih (w_4l2 - 0) (w_4l1 + (-1)) w_4m0 w_4m1 (upd w_4m2 (w_4l1 : Int32).toNatClampNeg ((w_4m2 (w_4l1 : Int32).toNatClampNeg) + 1)) w_4m3 (⟨i_1, i_2, (by first | omega | (simp (disch := omega) only [↓i_in, ↓i_isCouple, ↓i_isBridge, ↓i_isTheme, ↓i_isBarge, i_lt, i_le, i_eq, i_clamp, i_m1, Int32.toInt_toInt64, Int32.toInt_add, Int32.toInt_sub, Int32.toInt_mul, bm32, Int32.reduceToInt, Int64.reduceToInt, Nat.reduceLT, Nat.reduceEqDiff, reduceIte, u_eq, u_ne, w_4m0_2, w_4m0_3, w_4m0_4, w_4m0_5, w_4m0_6, w_4m0_14, w_4m0_42] <;> omega)), (by first | omega | (simp (disch := omega) only [↓i_in, ↓i_isCouple, ↓i_isBridge, ↓i_isTheme, ↓i_isBarge, i_lt, i_le, i_eq, i_clamp, i_m1, Int32.toInt_toInt64, Int32.toInt_add, Int32.toInt_sub, Int32.toInt_mul, bm32, Int32.reduceToInt, Int64.reduceToInt, Nat.reduceLT, Nat.reduceEqDiff, reduceIte, u_eq, u_ne, w_4m0_2, w_4m0_3, w_4m0_4, w_4m0_5, w_4m0_6, w_4m0_14, w_4m0_42] <;> omega)), q_14a, (by first | omega | (simp (disch := omega) only [↓i_in, ↓i_isCouple, ↓i_isBridge, ↓i_isTheme, ↓i_isBarge, i_lt, i_le, i_eq, i_clamp, i_m1, Int32.toInt_toInt64, Int32.toInt_add, Int32.toInt_sub, Int32.toInt_mul, bm32, Int32.reduceToInt, Int64.reduceToInt, Nat.reduceLT, Nat.reduceEqDiff, reduceIte, u_eq, u_ne, w_4m0_2, w_4m0_3, w_4m0_4, w_4m0_5, w_4m0_6, w_4m0_14, w_4m0_42] <;> omega)), (by first | omega | (simp (disch := omega) only [↓i_in, ↓i_isCouple, ↓i_isBridge, ↓i_isTheme, ↓i_isBarge, i_lt, i_le, i_eq, i_clamp, i_m1, Int32.toInt_toInt64, Int32.toInt_add, Int32.toInt_sub, Int32.toInt_mul, bm32, Int32.reduceToInt, Int64.reduceToInt, Nat.reduceLT, Nat.reduceEqDiff, reduceIte, u_eq, u_ne, w_4m0_2, w_4m0_3, w_4m0_4, w_4m0_5, w_4m0_6, w_4m0_14, w_4m0_42] <;> omega))⟩) hZ _ _ _ _ _ _ e
      · rw [if_neg c_9] at e
        try simp (disch := omega) only [↓i_in, ↓i_isCouple, ↓i_isBridge, ↓i_isTheme, ↓i_isBarge, i_lt, i_le, i_eq, i_clamp, i_m1, Int32.toInt_toInt64, Int32.toInt_add, Int32.toInt_sub, Int32.toInt_mul, bm32, Int32.reduceToInt, Int64.reduceToInt, Nat.reduceLT, Nat.reduceEqDiff, reduceIte, u_eq, u_ne, w_4m0_2, w_4m0_3, w_4m0_4, w_4m0_5, w_4m0_6, w_4m0_14, w_4m0_42] at c_9
        by_cases c_15 : w_4l1 = 7
        · rw [if_pos c_15] at e
          try simp (disch := omega) only [↓i_in, ↓i_isCouple, ↓i_isBridge, ↓i_isTheme, ↓i_isBarge, i_lt, i_le, i_eq, i_clamp, i_m1, Int32.toInt_toInt64, Int32.toInt_add, Int32.toInt_sub, Int32.toInt_mul, bm32, Int32.reduceToInt, Int64.reduceToInt, Nat.reduceLT, Nat.reduceEqDiff, reduceIte, u_eq, u_ne, w_4m0_2, w_4m0_3, w_4m0_4, w_4m0_5, w_4m0_6, w_4m0_14, w_4m0_42] at c_15
          by_cases c_16 : (w_4l1 + (-1)) < 0
          · rw [if_pos c_16] at e
            try simp (disch := omega) only [↓i_in, ↓i_isCouple, ↓i_isBridge, ↓i_isTheme, ↓i_isBarge, i_lt, i_le, i_eq, i_clamp, i_m1, Int32.toInt_toInt64, Int32.toInt_add, Int32.toInt_sub, Int32.toInt_mul, bm32, Int32.reduceToInt, Int64.reduceToInt, Nat.reduceLT, Nat.reduceEqDiff, reduceIte, u_eq, u_ne, w_4m0_2, w_4m0_3, w_4m0_4, w_4m0_5, w_4m0_6, w_4m0_14, w_4m0_42] at c_16
            have q_17 := FR_back (B := (G 6).toInt) (by first | omega | (simp (disch := omega) only [↓i_in, ↓i_isCouple, ↓i_isBridge, ↓i_isTheme, ↓i_isBarge, i_lt, i_le, i_eq, i_clamp, i_m1, Int32.toInt_toInt64, Int32.toInt_add, Int32.toInt_sub, Int32.toInt_mul, bm32, Int32.reduceToInt, Int64.reduceToInt, Nat.reduceLT, Nat.reduceEqDiff, reduceIte, u_eq, u_ne, w_4m0_2, w_4m0_3, w_4m0_4, w_4m0_5, w_4m0_6, w_4m0_14, w_4m0_42] <;> omega)) (by omega) (by omega) i_5
            obtain ⟨q_17a, q_17b⟩ := q_17
            exact ih (w_4l2 - 0) (w_4l1 + (-1)) w_4m0 w_4m1 (upd w_4m2 (w_4l1 : Int32).toNatClampNeg ((w_4m2 (w_4l1 : Int32).toNatClampNeg) + 1)) w_4m3 (⟨i_1, i_2, (by first | omega | (simp (disch := omega) only [↓i_in, ↓i_isCouple, ↓i_isBridge, ↓i_isTheme, ↓i_isBarge, i_lt, i_le, i_eq, i_clamp, i_m1, Int32.toInt_toInt64, Int32.toInt_add, Int32.toInt_sub, Int32.toInt_mul, bm32, Int32.reduceToInt, Int64.reduceToInt, Nat.reduceLT, Nat.reduceEqDiff, reduceIte, u_eq, u_ne, w_4m0_2, w_4m0_3, w_4m0_4, w_4m0_5, w_4m0_6, w_4m0_14, w_4m0_42] <;> omega)), (by first | omega | (simp (disch := omega) only [↓i_in, ↓i_isCouple, ↓i_isBridge, ↓i_isTheme, ↓i_isBarge, i_lt, i_le, i_eq, i_clamp, i_m1, Int32.toInt_toInt64, Int32.toInt_add, Int32.toInt_sub, Int32.toInt_mul, bm32, Int32.reduceToInt, Int64.reduceToInt, Nat.reduceLT, Nat.reduceEqDiff, reduceIte, u_eq, u_ne, w_4m0_2, w_4m0_3, w_4m0_4, w_4m0_5, w_4m0_6, w_4m0_14, w_4m0_42] <;> omega)), q_17a, (by first | omega | (simp (disch := omega) only [↓i_in, ↓i_isCouple, ↓i_isBridge, ↓i_isTheme, ↓i_isBarge, i_lt, i_le, i_eq, i_clamp, i_m1, Int32.toInt_toInt64, Int32.toInt_add, Int32.toInt_sub, Int32.toInt_mul, bm32, Int32.reduceToInt, Int64.reduceToInt, Nat.reduceLT, Nat.reduceEqDiff, reduceIte, u_eq, u_ne, w_4m0_2, w_4m0_3, w_4m0_4, w_4m0_5, w_4m0_6, w_4m0_14, w_4m0_42] <;> omega)), (by first | omega | (simp (disch := omega) only [↓i_in, ↓i_isCouple, ↓i_isBridge, ↓i_isTheme, ↓i_isBarge, i_lt, i_le, i_eq, i_clamp, i_m1, Int32.toInt_toInt64, Int32.toInt_add, Int32.toInt_sub, Int32.toInt_mul, bm32, Int32.reduceToInt, Int64.reduceToInt, Nat.reduceLT, Nat.reduceEqDiff, reduceIte, u_eq, u_ne, w_4m0_2, w_4m0_3, w_4m0_4, w_4m0_5, w_4m0_6, w_4m0_14, w_4m0_42] <;> omega))⟩) hZ _ _ _ _ _ _ e
          · rw [if_neg c_16] at e
            try simp (disch := omega) only [↓i_in, ↓i_isCouple, ↓i_isBridge, ↓i_isTheme, ↓i_isBarge, i_lt, i_le, i_eq, i_clamp, i_m1, Int32.toInt_toInt64, Int32.toInt_add, Int32.toInt_sub, Int32.toInt_mul, bm32, Int32.reduceToInt, Int64.reduceToInt, Nat.reduceLT, Nat.reduceEqDiff, reduceIte, u_eq, u_ne, w_4m0_2, w_4m0_3, w_4m0_4, w_4m0_5, w_4m0_6, w_4m0_14, w_4m0_42] at c_16
            have fr1 := i_5 (w_4l1.toInt + -1).toNat (by omega)
            by_cases c_18 : (w_4m1 ((((42 + (42 * ((w_4l1 + (-1)) + 1))) + 20) + ((upd w_4m2 (w_4l1 : Int32).toNatClampNeg ((w_4m2 (w_4l1 : Int32).toNatClampNeg) + 1)) ((w_4l1 + (-1)) : Int32).toNatClampNeg)) : Int32).toNatClampNeg) = 1
            · rw [if_pos c_18] at e
              try simp (disch := omega) only [↓i_in, ↓i_isCouple, ↓i_isBridge, ↓i_isTheme, ↓i_isBarge, i_lt, i_le, i_eq, i_clamp, i_m1, Int32.toInt_toInt64, Int32.toInt_add, Int32.toInt_sub, Int32.toInt_mul, bm32, Int32.reduceToInt, Int64.reduceToInt, Nat.reduceLT, Nat.reduceEqDiff, reduceIte, u_eq, u_ne, w_4m0_2, w_4m0_3, w_4m0_4, w_4m0_5, w_4m0_6, w_4m0_14, w_4m0_42] at c_18
              have q_19 := FR_back (B := (G 6).toInt) (by first | omega | (simp (disch := omega) only [↓i_in, ↓i_isCouple, ↓i_isBridge, ↓i_isTheme, ↓i_isBarge, i_lt, i_le, i_eq, i_clamp, i_m1, Int32.toInt_toInt64, Int32.toInt_add, Int32.toInt_sub, Int32.toInt_mul, bm32, Int32.reduceToInt, Int64.reduceToInt, Nat.reduceLT, Nat.reduceEqDiff, reduceIte, u_eq, u_ne, w_4m0_2, w_4m0_3, w_4m0_4, w_4m0_5, w_4m0_6, w_4m0_14, w_4m0_42] <;> omega)) (by omega) (by omega) i_5
              obtain ⟨q_19a, q_19b⟩ := q_19
              exact ih (w_4l2 - 1) (w_4l1 + (-1)) w_4m0 w_4m1 (upd w_4m2 (w_4l1 : Int32).toNatClampNeg ((w_4m2 (w_4l1 : Int32).toNatClampNeg) + 1)) w_4m3 (⟨i_1, i_2, (by first | omega | (simp (disch := omega) only [↓i_in, ↓i_isCouple, ↓i_isBridge, ↓i_isTheme, ↓i_isBarge, i_lt, i_le, i_eq, i_clamp, i_m1, Int32.toInt_toInt64, Int32.toInt_add, Int32.toInt_sub, Int32.toInt_mul, bm32, Int32.reduceToInt, Int64.reduceToInt, Nat.reduceLT, Nat.reduceEqDiff, reduceIte, u_eq, u_ne, w_4m0_2, w_4m0_3, w_4m0_4, w_4m0_5, w_4m0_6, w_4m0_14, w_4m0_42] <;> omega)), (by first | omega | (simp (disch := omega) only [↓i_in, ↓i_isCouple, ↓i_isBridge, ↓i_isTheme, ↓i_isBarge, i_lt, i_le, i_eq, i_clamp, i_m1, Int32.toInt_toInt64, Int32.toInt_add, Int32.toInt_sub, Int32.toInt_mul, bm32, Int32.reduceToInt, Int64.reduceToInt, Nat.reduceLT, Nat.reduceEqDiff, reduceIte, u_eq, u_ne, w_4m0_2, w_4m0_3, w_4m0_4, w_4m0_5, w_4m0_6, w_4m0_14, w_4m0_42] <;> omega)), q_19a, (by first | omega | (simp (disch := omega) only [↓i_in, ↓i_isCouple, ↓i_isBridge, ↓i_isTheme, ↓i_isBarge, i_lt, i_le, i_eq, i_clamp, i_m1, Int32.toInt_toInt64, Int32.toInt_add, Int32.toInt_sub, Int32.toInt_mul, bm32, Int32.reduceToInt, Int64.reduceToInt, Nat.reduceLT, Nat.reduceEqDiff, reduceIte, u_eq, u_ne, w_4m0_2, w_4m0_3, w_4m0_4, w_4m0_5, w_4m0_6, w_4m0_14, w_4m0_42] <;> omega)), (by first | omega | (simp (disch := omega) only [↓i_in, ↓i_isCouple, ↓i_isBridge, ↓i_isTheme, ↓i_isBarge, i_lt, i_le, i_eq, i_clamp, i_m1, Int32.toInt_toInt64, Int32.toInt_add, Int32.toInt_sub, Int32.toInt_mul, bm32, Int32.reduceToInt, Int64.reduceToInt, Nat.reduceLT, Nat.reduceEqDiff, reduceIte, u_eq, u_ne, w_4m0_2, w_4m0_3, w_4m0_4, w_4m0_5, w_4m0_6, w_4m0_14, w_4m0_42] <;> omega))⟩) hZ _ _ _ _ _ _ e
            · rw [if_neg c_18] at e
              try simp (disch := omega) only [↓i_in, ↓i_isCouple, ↓i_isBridge, ↓i_isTheme, ↓i_isBarge, i_lt, i_le, i_eq, i_clamp, i_m1, Int32.toInt_toInt64, Int32.toInt_add, Int32.toInt_sub, Int32.toInt_mul, bm32, Int32.reduceToInt, Int64.reduceToInt, Nat.reduceLT, Nat.reduceEqDiff, reduceIte, u_eq, u_ne, w_4m0_2, w_4m0_3, w_4m0_4, w_4m0_5, w_4m0_6, w_4m0_14, w_4m0_42] at c_18
              have q_20 := FR_back (B := (G 6).toInt) (by first | omega | (simp (disch := omega) only [↓i_in, ↓i_isCouple, ↓i_isBridge, ↓i_isTheme, ↓i_isBarge, i_lt, i_le, i_eq, i_clamp, i_m1, Int32.toInt_toInt64, Int32.toInt_add, Int32.toInt_sub, Int32.toInt_mul, bm32, Int32.reduceToInt, Int64.reduceToInt, Nat.reduceLT, Nat.reduceEqDiff, reduceIte, u_eq, u_ne, w_4m0_2, w_4m0_3, w_4m0_4, w_4m0_5, w_4m0_6, w_4m0_14, w_4m0_42] <;> omega)) (by omega) (by omega) i_5
              obtain ⟨q_20a, q_20b⟩ := q_20
              exact ih (w_4l2 - 0) (w_4l1 + (-1)) w_4m0 w_4m1 (upd w_4m2 (w_4l1 : Int32).toNatClampNeg ((w_4m2 (w_4l1 : Int32).toNatClampNeg) + 1)) w_4m3 (⟨i_1, i_2, (by first | omega | (simp (disch := omega) only [↓i_in, ↓i_isCouple, ↓i_isBridge, ↓i_isTheme, ↓i_isBarge, i_lt, i_le, i_eq, i_clamp, i_m1, Int32.toInt_toInt64, Int32.toInt_add, Int32.toInt_sub, Int32.toInt_mul, bm32, Int32.reduceToInt, Int64.reduceToInt, Nat.reduceLT, Nat.reduceEqDiff, reduceIte, u_eq, u_ne, w_4m0_2, w_4m0_3, w_4m0_4, w_4m0_5, w_4m0_6, w_4m0_14, w_4m0_42] <;> omega)), (by first | omega | (simp (disch := omega) only [↓i_in, ↓i_isCouple, ↓i_isBridge, ↓i_isTheme, ↓i_isBarge, i_lt, i_le, i_eq, i_clamp, i_m1, Int32.toInt_toInt64, Int32.toInt_add, Int32.toInt_sub, Int32.toInt_mul, bm32, Int32.reduceToInt, Int64.reduceToInt, Nat.reduceLT, Nat.reduceEqDiff, reduceIte, u_eq, u_ne, w_4m0_2, w_4m0_3, w_4m0_4, w_4m0_5, w_4m0_6, w_4m0_14, w_4m0_42] <;> omega)), q_20a, (by first | omega | (simp (disch := omega) only [↓i_in, ↓i_isCouple, ↓i_isBridge, ↓i_isTheme, ↓i_isBarge, i_lt, i_le, i_eq, i_clamp, i_m1, Int32.toInt_toInt64, Int32.toInt_add, Int32.toInt_sub, Int32.toInt_mul, bm32, Int32.reduceToInt, Int64.reduceToInt, Nat.reduceLT, Nat.reduceEqDiff, reduceIte, u_eq, u_ne, w_4m0_2, w_4m0_3, w_4m0_4, w_4m0_5, w_4m0_6, w_4m0_14, w_4m0_42] <;> omega)), (by first | omega | (simp (disch := omega) only [↓i_in, ↓i_isCouple, ↓i_isBridge, ↓i_isTheme, ↓i_isBarge, i_lt, i_le, i_eq, i_clamp, i_m1, Int32.toInt_toInt64, Int32.toInt_add, Int32.toInt_sub, Int32.toInt_mul, bm32, Int32.reduceToInt, Int64.reduceToInt, Nat.reduceLT, Nat.reduceEqDiff, reduceIte, u_eq, u_ne, w_4m0_2, w_4m0_3, w_4m0_4, w_4m0_5, w_4m0_6, w_4m0_14, w_4m0_42] <;> omega))⟩) hZ _ _ _ _ _ _ e
        · rw [if_neg c_15] at e
          try simp (disch := omega) only [↓i_in, ↓i_isCouple, ↓i_isBridge, ↓i_isTheme, ↓i_isBarge, i_lt, i_le, i_eq, i_clamp, i_m1, Int32.toInt_toInt64, Int32.toInt_add, Int32.toInt_sub, Int32.toInt_mul, bm32, Int32.reduceToInt, Int64.reduceToInt, Nat.reduceLT, Nat.reduceEqDiff, reduceIte, u_eq, u_ne, w_4m0_2, w_4m0_3, w_4m0_4, w_4m0_5, w_4m0_6, w_4m0_14, w_4m0_42] at c_15
          by_cases c_21 : (w_4m1 ((((42 + (42 * w_4l1)) + 20) + ((upd w_4m2 (w_4l1 : Int32).toNatClampNeg ((w_4m2 (w_4l1 : Int32).toNatClampNeg) + 1)) (w_4l1 : Int32).toNatClampNeg)) : Int32).toNatClampNeg) = 0
          · rw [if_pos c_21] at e
            try simp (disch := omega) only [↓i_in, ↓i_isCouple, ↓i_isBridge, ↓i_isTheme, ↓i_isBarge, i_lt, i_le, i_eq, i_clamp, i_m1, Int32.toInt_toInt64, Int32.toInt_add, Int32.toInt_sub, Int32.toInt_mul, bm32, Int32.reduceToInt, Int64.reduceToInt, Nat.reduceLT, Nat.reduceEqDiff, reduceIte, u_eq, u_ne, w_4m0_2, w_4m0_3, w_4m0_4, w_4m0_5, w_4m0_6, w_4m0_14, w_4m0_42] at c_21
            generalize x_22 : (f_m_passes w_4m0 (f_m_copy w_4m1 (42 + (42 * w_4l1)) ((42 + (42 * w_4l1)) + 42)) f10 f8 f11 f12 ((42 + (42 * w_4l1)) + 42) ((upd w_4m2 (w_4l1 : Int32).toNatClampNeg ((w_4m2 (w_4l1 : Int32).toNatClampNeg) + 1)) (w_4l1 : Int32).toNatClampNeg)) = z_23 at e
            obtain ⟨o_25, o_26⟩ := z_23
            replace e : ((if (o_26 (((((42 + (42 * w_4l1)) + 42) + 20) + ((upd w_4m2 (w_4l1 : Int32).toNatClampNeg ((w_4m2 (w_4l1 : Int32).toNatClampNeg) + 1)) (w_4l1 : Int32).toNatClampNeg)) : Int32).toNatClampNeg) = 3 then (f_m_findOrder_28 f10 f8 f11 f12 n w_4l2 w_4l1 o_25 o_26 (upd w_4m2 (w_4l1 : Int32).toNatClampNeg ((w_4m2 (w_4l1 : Int32).toNatClampNeg) + 1)) w_4m3) else (if (o_26 ((((42 + (42 * w_4l1)) + 42) + 18) : Int32).toNatClampNeg) = (o_26 (18 : Int32).toNatClampNeg) then (if (o_26 (((((42 + (42 * w_4l1)) + 42) + 20) + ((upd w_4m2 (w_4l1 : Int32).toNatClampNeg ((w_4m2 (w_4l1 : Int32).toNatClampNeg) + 1)) (w_4l1 : Int32).toNatClampNeg)) : Int32).toNatClampNeg) = 1 then (if (w_4l2 + 1) ≤ (o_25 41) then (f_m_findOrder_28 f10 f8 f11 f12 n (w_4l2 + 1) (w_4l1 + 1) o_25 o_26 (upd (upd w_4m2 (w_4l1 : Int32).toNatClampNeg ((w_4m2 (w_4l1 : Int32).toNatClampNeg) + 1)) ((w_4l1 + 1) : Int32).toNatClampNeg (-1)) w_4m3) else (match ((f_m_findOrder_253 w_4l1 10 0 (upd (upd o_25 41 (w_4l2 + 1)) 40 (w_4l1 + 1)) o_26 (upd w_4m2 (w_4l1 : Int32).toNatClampNeg ((w_4m2 (w_4l1 : Int32).toNatClampNeg) + 1)) w_4m3) : Int32 × (Nat → Int32) × (Nat → Int32) × (Nat → Int32) × (Nat → Int32)) with | (w_44l5, w_44m0, w_44m1, w_44m2, w_44m3) => (f_m_findOrder_28 f10 f8 f11 f12 n (w_4l2 + 1) (w_4l1 + 1) w_44m0 w_44m1 (upd w_44m2 ((w_4l1 + 1) : Int32).toNatClampNeg (-1)) w_44m3))) else (if (w_4l2 + 0) ≤ (o_25 41) then (f_m_findOrder_28 f10 f8 f11 f12 n (w_4l2 + 0) (w_4l1 + 1) o_25 o_26 (upd (upd w_4m2 (w_4l1 : Int32).toNatClampNeg ((w_4m2 (w_4l1 : Int32).toNatClampNeg) + 1)) ((w_4l1 + 1) : Int32).toNatClampNeg (-1)) w_4m3) else (match ((f_m_findOrder_253 w_4l1 10 0 (upd (upd o_25 41 (w_4l2 + 0)) 40 (w_4l1 + 1)) o_26 (upd w_4m2 (w_4l1 : Int32).toNatClampNeg ((w_4m2 (w_4l1 : Int32).toNatClampNeg) + 1)) w_4m3) : Int32 × (Nat → Int32) × (Nat → Int32) × (Nat → Int32) × (Nat → Int32)) with | (w_37l5, w_37m0, w_37m1, w_37m2, w_37m3) => (f_m_findOrder_28 f10 f8 f11 f12 n (w_4l2 + 0) (w_4l1 + 1) w_37m0 w_37m1 (upd w_37m2 ((w_4l1 + 1) : Int32).toNatClampNeg (-1)) w_37m3)))) else (f_m_findOrder_28 f10 f8 f11 f12 n w_4l2 w_4l1 o_25 o_26 (upd w_4m2 (w_4l1 : Int32).toNatClampNeg ((w_4m2 (w_4l1 : Int32).toNatClampNeg) + 1)) w_4m3)))) = (r0, r1, r2, r3, r4, r5) := e
            have p_24 := p_passes (GI.off i_1 h_0) h_1 (p_copy i_2 (by first | omega | (simp (disch := omega) only [↓i_in, ↓i_isCouple, ↓i_isBridge, ↓i_isTheme, ↓i_isBarge, i_lt, i_le, i_eq, i_clamp, i_m1, Int32.toInt_toInt64, Int32.toInt_add, Int32.toInt_sub, Int32.toInt_mul, bm32, Int32.reduceToInt, Int64.reduceToInt, Nat.reduceLT, Nat.reduceEqDiff, reduceIte, u_eq, u_ne, w_4m0_2, w_4m0_3, w_4m0_4, w_4m0_5, w_4m0_6, w_4m0_14, w_4m0_42] <;> omega)) (by first | omega | (simp (disch := omega) only [↓i_in, ↓i_isCouple, ↓i_isBridge, ↓i_isTheme, ↓i_isBarge, i_lt, i_le, i_eq, i_clamp, i_m1, Int32.toInt_toInt64, Int32.toInt_add, Int32.toInt_sub, Int32.toInt_mul, bm32, Int32.reduceToInt, Int64.reduceToInt, Nat.reduceLT, Nat.reduceEqDiff, reduceIte, u_eq, u_ne, w_4m0_2, w_4m0_3, w_4m0_4, w_4m0_5, w_4m0_6, w_4m0_14, w_4m0_42] <;> omega)) (by first | omega | (simp (disch := omega) only [↓i_in, ↓i_isCouple, ↓i_isBridge, ↓i_isTheme, ↓i_isBarge, i_lt, i_le, i_eq, i_clamp, i_m1, Int32.toInt_toInt64, Int32.toInt_add, Int32.toInt_sub, Int32.toInt_mul, bm32, Int32.reduceToInt, Int64.reduceToInt, Nat.reduceLT, Nat.reduceEqDiff, reduceIte, u_eq, u_ne, w_4m0_2, w_4m0_3, w_4m0_4, w_4m0_5, w_4m0_6, w_4m0_14, w_4m0_42] <;> omega)) (by first | omega | (simp (disch := omega) only [↓i_in, ↓i_isCouple, ↓i_isBridge, ↓i_isTheme, ↓i_isBarge, i_lt, i_le, i_eq, i_clamp, i_m1, Int32.toInt_toInt64, Int32.toInt_add, Int32.toInt_sub, Int32.toInt_mul, bm32, Int32.reduceToInt, Int64.reduceToInt, Nat.reduceLT, Nat.reduceEqDiff, reduceIte, u_eq, u_ne, w_4m0_2, w_4m0_3, w_4m0_4, w_4m0_5, w_4m0_6, w_4m0_14, w_4m0_42] <;> omega))) (by first | omega | (simp (disch := omega) only [↓i_in, ↓i_isCouple, ↓i_isBridge, ↓i_isTheme, ↓i_isBarge, i_lt, i_le, i_eq, i_clamp, i_m1, Int32.toInt_toInt64, Int32.toInt_add, Int32.toInt_sub, Int32.toInt_mul, bm32, Int32.reduceToInt, Int64.reduceToInt, Nat.reduceLT, Nat.reduceEqDiff, reduceIte, u_eq, u_ne, w_4m0_2, w_4m0_3, w_4m0_4, w_4m0_5, w_4m0_6, w_4m0_14, w_4m0_42] <;> omega)) (by first | omega | (simp (disch := omega) only [↓i_in, ↓i_isCouple, ↓i_isBridge, ↓i_isTheme, ↓i_isBarge, i_lt, i_le, i_eq, i_clamp, i_m1, Int32.toInt_toInt64, Int32.toInt_add, Int32.toInt_sub, Int32.toInt_mul, bm32, Int32.reduceToInt, Int64.reduceToInt, Nat.reduceLT, Nat.reduceEqDiff, reduceIte, u_eq, u_ne, w_4m0_2, w_4m0_3, w_4m0_4, w_4m0_5, w_4m0_6, w_4m0_14, w_4m0_42] <;> omega)) (by first | omega | (simp (disch := omega) only [↓i_in, ↓i_isCouple, ↓i_isBridge, ↓i_isTheme, ↓i_isBarge, i_lt, i_le, i_eq, i_clamp, i_m1, Int32.toInt_toInt64, Int32.toInt_add, Int32.toInt_sub, Int32.toInt_mul, bm32, Int32.reduceToInt, Int64.reduceToInt, Nat.reduceLT, Nat.reduceEqDiff, reduceIte, u_eq, u_ne, w_4m0_2, w_4m0_3, w_4m0_4, w_4m0_5, w_4m0_6, w_4m0_14, w_4m0_42] <;> omega)) (by first | omega | (simp (disch := omega) only [↓i_in, ↓i_isCouple, ↓i_isBridge, ↓i_isTheme, ↓i_isBarge, i_lt, i_le, i_eq, i_clamp, i_m1, Int32.toInt_toInt64, Int32.toInt_add, Int32.toInt_sub, Int32.toInt_mul, bm32, Int32.reduceToInt, Int64.reduceToInt, Nat.reduceLT, Nat.reduceEqDiff, reduceIte, u_eq, u_ne, w_4m0_2, w_4m0_3, w_4m0_4, w_4m0_5, w_4m0_6, w_4m0_14, w_4m0_42] <;> omega)) (by first | omega | (simp (disch := omega) only [↓i_in, ↓i_isCouple, ↓i_isBridge, ↓i_isTheme, ↓i_isBarge, i_lt, i_le, i_eq, i_clamp, i_m1, Int32.toInt_toInt64, Int32.toInt_add, Int32.toInt_sub, Int32.toInt_mul, bm32, Int32.reduceToInt, Int64.reduceToInt, Nat.reduceLT, Nat.reduceEqDiff, reduceIte, u_eq, u_ne, w_4m0_2, w_4m0_3, w_4m0_4, w_4m0_5, w_4m0_6, w_4m0_14, w_4m0_42] <;> omega)) _ _ x_22
            have z_26 : FZ X0 o_26 := FZ_pass (GI.off i_1 h_0) (FZ_copy hZ (by first | omega | (simp (disch := omega) only [↓i_in, ↓i_isCouple, ↓i_isBridge, ↓i_isTheme, ↓i_isBarge, i_lt, i_le, i_eq, i_clamp, i_m1, Int32.toInt_toInt64, Int32.toInt_add, Int32.toInt_sub, Int32.toInt_mul, bm32, Int32.reduceToInt, Int64.reduceToInt, Nat.reduceLT, Nat.reduceEqDiff, reduceIte, u_eq, u_ne, w_4m0_2, w_4m0_3, w_4m0_4, w_4m0_5, w_4m0_6, w_4m0_14, w_4m0_42] <;> omega)) (by first | omega | (simp (disch := omega) only [↓i_in, ↓i_isCouple, ↓i_isBridge, ↓i_isTheme, ↓i_isBarge, i_lt, i_le, i_eq, i_clamp, i_m1, Int32.toInt_toInt64, Int32.toInt_add, Int32.toInt_sub, Int32.toInt_mul, bm32, Int32.reduceToInt, Int64.reduceToInt, Nat.reduceLT, Nat.reduceEqDiff, reduceIte, u_eq, u_ne, w_4m0_2, w_4m0_3, w_4m0_4, w_4m0_5, w_4m0_6, w_4m0_14, w_4m0_42] <;> omega)) (by first | omega | (simp (disch := omega) only [↓i_in, ↓i_isCouple, ↓i_isBridge, ↓i_isTheme, ↓i_isBarge, i_lt, i_le, i_eq, i_clamp, i_m1, Int32.toInt_toInt64, Int32.toInt_add, Int32.toInt_sub, Int32.toInt_mul, bm32, Int32.reduceToInt, Int64.reduceToInt, Nat.reduceLT, Nat.reduceEqDiff, reduceIte, u_eq, u_ne, w_4m0_2, w_4m0_3, w_4m0_4, w_4m0_5, w_4m0_6, w_4m0_14, w_4m0_42] <;> omega)) (by first | omega | (simp (disch := omega) only [↓i_in, ↓i_isCouple, ↓i_isBridge, ↓i_isTheme, ↓i_isBarge, i_lt, i_le, i_eq, i_clamp, i_m1, Int32.toInt_toInt64, Int32.toInt_add, Int32.toInt_sub, Int32.toInt_mul, bm32, Int32.reduceToInt, Int64.reduceToInt, Nat.reduceLT, Nat.reduceEqDiff, reduceIte, u_eq, u_ne, w_4m0_2, w_4m0_3, w_4m0_4, w_4m0_5, w_4m0_6, w_4m0_14, w_4m0_42] <;> omega)) (by first | omega | (simp (disch := omega) only [↓i_in, ↓i_isCouple, ↓i_isBridge, ↓i_isTheme, ↓i_isBarge, i_lt, i_le, i_eq, i_clamp, i_m1, Int32.toInt_toInt64, Int32.toInt_add, Int32.toInt_sub, Int32.toInt_mul, bm32, Int32.reduceToInt, Int64.reduceToInt, Nat.reduceLT, Nat.reduceEqDiff, reduceIte, u_eq, u_ne, w_4m0_2, w_4m0_3, w_4m0_4, w_4m0_5, w_4m0_6, w_4m0_14, w_4m0_42] <;> omega))) (by first | omega | (simp (disch := omega) only [↓i_in, ↓i_isCouple, ↓i_isBridge, ↓i_isTheme, ↓i_isBarge, i_lt, i_le, i_eq, i_clamp, i_m1, Int32.toInt_toInt64, Int32.toInt_add, Int32.toInt_sub, Int32.toInt_mul, bm32, Int32.reduceToInt, Int64.reduceToInt, Nat.reduceLT, Nat.reduceEqDiff, reduceIte, u_eq, u_ne, w_4m0_2, w_4m0_3, w_4m0_4, w_4m0_5, w_4m0_6, w_4m0_14, w_4m0_42] <;> omega)) (by first | omega | (simp (disch := omega) only [↓i_in, ↓i_isCouple, ↓i_isBridge, ↓i_isTheme, ↓i_isBarge, i_lt, i_le, i_eq, i_clamp, i_m1, Int32.toInt_toInt64, Int32.toInt_add, Int32.toInt_sub, Int32.toInt_mul, bm32, Int32.reduceToInt, Int64.reduceToInt, Nat.reduceLT, Nat.reduceEqDiff, reduceIte, u_eq, u_ne, w_4m0_2, w_4m0_3, w_4m0_4, w_4m0_5, w_4m0_6, w_4m0_14, w_4m0_42] <;> omega)) (by first | omega | (simp (disch := omega) only [↓i_in, ↓i_isCouple, ↓i_isBridge, ↓i_isTheme, ↓i_isBarge, i_lt, i_le, i_eq, i_clamp, i_m1, Int32.toInt_toInt64, Int32.toInt_add, Int32.toInt_sub, Int32.toInt_mul, bm32, Int32.reduceToInt, Int64.reduceToInt, Nat.reduceLT, Nat.reduceEqDiff, reduceIte, u_eq, u_ne, w_4m0_2, w_4m0_3, w_4m0_4, w_4m0_5, w_4m0_6, w_4m0_14, w_4m0_42] <;> omega)) (by first | omega | (simp (disch := omega) only [↓i_in, ↓i_isCouple, ↓i_isBridge, ↓i_isTheme, ↓i_isBarge, i_lt, i_le, i_eq, i_clamp, i_m1, Int32.toInt_toInt64, Int32.toInt_add, Int32.toInt_sub, Int32.toInt_mul, bm32, Int32.reduceToInt, Int64.reduceToInt, Nat.reduceLT, Nat.reduceEqDiff, reduceIte, u_eq, u_ne, w_4m0_2, w_4m0_3, w_4m0_4, w_4m0_5, w_4m0_6, w_4m0_14, w_4m0_42] <;> omega)) x_22
            obtain ⟨p_24q, p_24w⟩ := p_24
            have o_25_40 := p_24q 40 (by decide)
            have p_24z := And.intro (QG.w p_24q) p_24w
            obtain ⟨i_25, i_26⟩ := p_24z
            replace i_25 := QF.trans i_1 i_25
            obtain ⟨o_25_2, o_25_3, o_25_4, o_25_5, o_25_6, o_25_14, o_25_42⟩ := QFs i_25
            by_cases c_27 : (o_26 (((((42 + (42 * w_4l1)) + 42) + 20) + ((upd w_4m2 (w_4l1 : Int32).toNatClampNeg ((w_4m2 (w_4l1 : Int32).toNatClampNeg) + 1)) (w_4l1 : Int32).toNatClampNeg)) : Int32).toNatClampNeg) = 3
            · rw [if_pos c_27] at e
              try simp (disch := omega) only [↓i_in, ↓i_isCouple, ↓i_isBridge, ↓i_isTheme, ↓i_isBarge, i_lt, i_le, i_eq, i_clamp, i_m1, Int32.toInt_toInt64, Int32.toInt_add, Int32.toInt_sub, Int32.toInt_mul, bm32, Int32.reduceToInt, Int64.reduceToInt, Nat.reduceLT, Nat.reduceEqDiff, reduceIte, u_eq, u_ne, w_4m0_2, w_4m0_3, w_4m0_4, w_4m0_5, w_4m0_6, w_4m0_14, w_4m0_42, o_25_40, o_25_2, o_25_3, o_25_4, o_25_5, o_25_6, o_25_14, o_25_42] at c_27
              have q_28 := FR_stay (B := (G 6).toInt) (by first | omega | (simp (disch := omega) only [↓i_in, ↓i_isCouple, ↓i_isBridge, ↓i_isTheme, ↓i_isBarge, i_lt, i_le, i_eq, i_clamp, i_m1, Int32.toInt_toInt64, Int32.toInt_add, Int32.toInt_sub, Int32.toInt_mul, bm32, Int32.reduceToInt, Int64.reduceToInt, Nat.reduceLT, Nat.reduceEqDiff, reduceIte, u_eq, u_ne, w_4m0_2, w_4m0_3, w_4m0_4, w_4m0_5, w_4m0_6, w_4m0_14, w_4m0_42, o_25_40, o_25_2, o_25_3, o_25_4, o_25_5, o_25_6, o_25_14, o_25_42] <;> omega)) (by omega) i_5 (by first | omega | (simp (disch := omega) only [↓i_in, ↓i_isCouple, ↓i_isBridge, ↓i_isTheme, ↓i_isBarge, i_lt, i_le, i_eq, i_clamp, i_m1, Int32.toInt_toInt64, Int32.toInt_add, Int32.toInt_sub, Int32.toInt_mul, bm32, Int32.reduceToInt, Int64.reduceToInt, Nat.reduceLT, Nat.reduceEqDiff, reduceIte, u_eq, u_ne, w_4m0_2, w_4m0_3, w_4m0_4, w_4m0_5, w_4m0_6, w_4m0_14, w_4m0_42, o_25_40, o_25_2, o_25_3, o_25_4, o_25_5, o_25_6, o_25_14, o_25_42] <;> omega))
              obtain ⟨q_28a, q_28b⟩ := q_28
              exact ih w_4l2 w_4l1 o_25 o_26 (upd w_4m2 (w_4l1 : Int32).toNatClampNeg ((w_4m2 (w_4l1 : Int32).toNatClampNeg) + 1)) w_4m3 (⟨i_25, i_26, (by first | omega | (simp (disch := omega) only [↓i_in, ↓i_isCouple, ↓i_isBridge, ↓i_isTheme, ↓i_isBarge, i_lt, i_le, i_eq, i_clamp, i_m1, Int32.toInt_toInt64, Int32.toInt_add, Int32.toInt_sub, Int32.toInt_mul, bm32, Int32.reduceToInt, Int64.reduceToInt, Nat.reduceLT, Nat.reduceEqDiff, reduceIte, u_eq, u_ne, w_4m0_2, w_4m0_3, w_4m0_4, w_4m0_5, w_4m0_6, w_4m0_14, w_4m0_42, o_25_40, o_25_2, o_25_3, o_25_4, o_25_5, o_25_6, o_25_14, o_25_42] <;> omega)), (by first | omega | (simp (disch := omega) only [↓i_in, ↓i_isCouple, ↓i_isBridge, ↓i_isTheme, ↓i_isBarge, i_lt, i_le, i_eq, i_clamp, i_m1, Int32.toInt_toInt64, Int32.toInt_add, Int32.toInt_sub, Int32.toInt_mul, bm32, Int32.reduceToInt, Int64.reduceToInt, Nat.reduceLT, Nat.reduceEqDiff, reduceIte, u_eq, u_ne, w_4m0_2, w_4m0_3, w_4m0_4, w_4m0_5, w_4m0_6, w_4m0_14, w_4m0_42, o_25_40, o_25_2, o_25_3, o_25_4, o_25_5, o_25_6, o_25_14, o_25_42] <;> omega)), q_28a, (by first | omega | (simp (disch := omega) only [↓i_in, ↓i_isCouple, ↓i_isBridge, ↓i_isTheme, ↓i_isBarge, i_lt, i_le, i_eq, i_clamp, i_m1, Int32.toInt_toInt64, Int32.toInt_add, Int32.toInt_sub, Int32.toInt_mul, bm32, Int32.reduceToInt, Int64.reduceToInt, Nat.reduceLT, Nat.reduceEqDiff, reduceIte, u_eq, u_ne, w_4m0_2, w_4m0_3, w_4m0_4, w_4m0_5, w_4m0_6, w_4m0_14, w_4m0_42, o_25_40, o_25_2, o_25_3, o_25_4, o_25_5, o_25_6, o_25_14, o_25_42] <;> omega)), (by first | omega | (simp (disch := omega) only [↓i_in, ↓i_isCouple, ↓i_isBridge, ↓i_isTheme, ↓i_isBarge, i_lt, i_le, i_eq, i_clamp, i_m1, Int32.toInt_toInt64, Int32.toInt_add, Int32.toInt_sub, Int32.toInt_mul, bm32, Int32.reduceToInt, Int64.reduceToInt, Nat.reduceLT, Nat.reduceEqDiff, reduceIte, u_eq, u_ne, w_4m0_2, w_4m0_3, w_4m0_4, w_4m0_5, w_4m0_6, w_4m0_14, w_4m0_42, o_25_40, o_25_2, o_25_3, o_25_4, o_25_5, o_25_6, o_25_14, o_25_42] <;> omega))⟩) z_26 _ _ _ _ _ _ e
            · rw [if_neg c_27] at e
              try simp (disch := omega) only [↓i_in, ↓i_isCouple, ↓i_isBridge, ↓i_isTheme, ↓i_isBarge, i_lt, i_le, i_eq, i_clamp, i_m1, Int32.toInt_toInt64, Int32.toInt_add, Int32.toInt_sub, Int32.toInt_mul, bm32, Int32.reduceToInt, Int64.reduceToInt, Nat.reduceLT, Nat.reduceEqDiff, reduceIte, u_eq, u_ne, w_4m0_2, w_4m0_3, w_4m0_4, w_4m0_5, w_4m0_6, w_4m0_14, w_4m0_42, o_25_40, o_25_2, o_25_3, o_25_4, o_25_5, o_25_6, o_25_14, o_25_42] at c_27
              by_cases c_29 : (o_26 ((((42 + (42 * w_4l1)) + 42) + 18) : Int32).toNatClampNeg) = (o_26 (18 : Int32).toNatClampNeg)
              · rw [if_pos c_29] at e
                try simp (disch := omega) only [↓i_in, ↓i_isCouple, ↓i_isBridge, ↓i_isTheme, ↓i_isBarge, i_lt, i_le, i_eq, i_clamp, i_m1, Int32.toInt_toInt64, Int32.toInt_add, Int32.toInt_sub, Int32.toInt_mul, bm32, Int32.reduceToInt, Int64.reduceToInt, Nat.reduceLT, Nat.reduceEqDiff, reduceIte, u_eq, u_ne, w_4m0_2, w_4m0_3, w_4m0_4, w_4m0_5, w_4m0_6, w_4m0_14, w_4m0_42, o_25_40, o_25_2, o_25_3, o_25_4, o_25_5, o_25_6, o_25_14, o_25_42] at c_29
                by_cases c_30 : (o_26 (((((42 + (42 * w_4l1)) + 42) + 20) + ((upd w_4m2 (w_4l1 : Int32).toNatClampNeg ((w_4m2 (w_4l1 : Int32).toNatClampNeg) + 1)) (w_4l1 : Int32).toNatClampNeg)) : Int32).toNatClampNeg) = 1
                · rw [if_pos c_30] at e
                  try simp (disch := omega) only [↓i_in, ↓i_isCouple, ↓i_isBridge, ↓i_isTheme, ↓i_isBarge, i_lt, i_le, i_eq, i_clamp, i_m1, Int32.toInt_toInt64, Int32.toInt_add, Int32.toInt_sub, Int32.toInt_mul, bm32, Int32.reduceToInt, Int64.reduceToInt, Nat.reduceLT, Nat.reduceEqDiff, reduceIte, u_eq, u_ne, w_4m0_2, w_4m0_3, w_4m0_4, w_4m0_5, w_4m0_6, w_4m0_14, w_4m0_42, o_25_40, o_25_2, o_25_3, o_25_4, o_25_5, o_25_6, o_25_14, o_25_42] at c_30
                  by_cases c_31 : (w_4l2 + 1) ≤ (o_25 41)
                  · rw [if_pos c_31] at e
                    try simp (disch := omega) only [↓i_in, ↓i_isCouple, ↓i_isBridge, ↓i_isTheme, ↓i_isBarge, i_lt, i_le, i_eq, i_clamp, i_m1, Int32.toInt_toInt64, Int32.toInt_add, Int32.toInt_sub, Int32.toInt_mul, bm32, Int32.reduceToInt, Int64.reduceToInt, Nat.reduceLT, Nat.reduceEqDiff, reduceIte, u_eq, u_ne, w_4m0_2, w_4m0_3, w_4m0_4, w_4m0_5, w_4m0_6, w_4m0_14, w_4m0_42, o_25_40, o_25_2, o_25_3, o_25_4, o_25_5, o_25_6, o_25_14, o_25_42] at c_31
                    have q_32 := FR_fwd (B := (G 6).toInt) (by first | omega | (simp (disch := omega) only [↓i_in, ↓i_isCouple, ↓i_isBridge, ↓i_isTheme, ↓i_isBarge, i_lt, i_le, i_eq, i_clamp, i_m1, Int32.toInt_toInt64, Int32.toInt_add, Int32.toInt_sub, Int32.toInt_mul, bm32, Int32.reduceToInt, Int64.reduceToInt, Nat.reduceLT, Nat.reduceEqDiff, reduceIte, u_eq, u_ne, w_4m0_2, w_4m0_3, w_4m0_4, w_4m0_5, w_4m0_6, w_4m0_14, w_4m0_42, o_25_40, o_25_2, o_25_3, o_25_4, o_25_5, o_25_6, o_25_14, o_25_42] <;> omega)) (by first | omega | (simp (disch := omega) only [↓i_in, ↓i_isCouple, ↓i_isBridge, ↓i_isTheme, ↓i_isBarge, i_lt, i_le, i_eq, i_clamp, i_m1, Int32.toInt_toInt64, Int32.toInt_add, Int32.toInt_sub, Int32.toInt_mul, bm32, Int32.reduceToInt, Int64.reduceToInt, Nat.reduceLT, Nat.reduceEqDiff, reduceIte, u_eq, u_ne, w_4m0_2, w_4m0_3, w_4m0_4, w_4m0_5, w_4m0_6, w_4m0_14, w_4m0_42, o_25_40, o_25_2, o_25_3, o_25_4, o_25_5, o_25_6, o_25_14, o_25_42] <;> omega)) (by omega) (by omega) i_5 (by first | omega | (simp (disch := omega) only [↓i_in, ↓i_isCouple, ↓i_isBridge, ↓i_isTheme, ↓i_isBarge, i_lt, i_le, i_eq, i_clamp, i_m1, Int32.toInt_toInt64, Int32.toInt_add, Int32.toInt_sub, Int32.toInt_mul, bm32, Int32.reduceToInt, Int64.reduceToInt, Nat.reduceLT, Nat.reduceEqDiff, reduceIte, u_eq, u_ne, w_4m0_2, w_4m0_3, w_4m0_4, w_4m0_5, w_4m0_6, w_4m0_14, w_4m0_42, o_25_40, o_25_2, o_25_3, o_25_4, o_25_5, o_25_6, o_25_14, o_25_42] <;> omega))
                    obtain ⟨q_32a, q_32b⟩ := q_32
                    exact ih (w_4l2 + 1) (w_4l1 + 1) o_25 o_26 (upd (upd w_4m2 (w_4l1 : Int32).toNatClampNeg ((w_4m2 (w_4l1 : Int32).toNatClampNeg) + 1)) ((w_4l1 + 1) : Int32).toNatClampNeg (-1)) w_4m3 (⟨i_25, i_26, (by first | omega | (simp (disch := omega) only [↓i_in, ↓i_isCouple, ↓i_isBridge, ↓i_isTheme, ↓i_isBarge, i_lt, i_le, i_eq, i_clamp, i_m1, Int32.toInt_toInt64, Int32.toInt_add, Int32.toInt_sub, Int32.toInt_mul, bm32, Int32.reduceToInt, Int64.reduceToInt, Nat.reduceLT, Nat.reduceEqDiff, reduceIte, u_eq, u_ne, w_4m0_2, w_4m0_3, w_4m0_4, w_4m0_5, w_4m0_6, w_4m0_14, w_4m0_42, o_25_40, o_25_2, o_25_3, o_25_4, o_25_5, o_25_6, o_25_14, o_25_42] <;> omega)), (by first | omega | (simp (disch := omega) only [↓i_in, ↓i_isCouple, ↓i_isBridge, ↓i_isTheme, ↓i_isBarge, i_lt, i_le, i_eq, i_clamp, i_m1, Int32.toInt_toInt64, Int32.toInt_add, Int32.toInt_sub, Int32.toInt_mul, bm32, Int32.reduceToInt, Int64.reduceToInt, Nat.reduceLT, Nat.reduceEqDiff, reduceIte, u_eq, u_ne, w_4m0_2, w_4m0_3, w_4m0_4, w_4m0_5, w_4m0_6, w_4m0_14, w_4m0_42, o_25_40, o_25_2, o_25_3, o_25_4, o_25_5, o_25_6, o_25_14, o_25_42] <;> omega)), q_32a, (by first | omega | (simp (disch := omega) only [↓i_in, ↓i_isCouple, ↓i_isBridge, ↓i_isTheme, ↓i_isBarge, i_lt, i_le, i_eq, i_clamp, i_m1, Int32.toInt_toInt64, Int32.toInt_add, Int32.toInt_sub, Int32.toInt_mul, bm32, Int32.reduceToInt, Int64.reduceToInt, Nat.reduceLT, Nat.reduceEqDiff, reduceIte, u_eq, u_ne, w_4m0_2, w_4m0_3, w_4m0_4, w_4m0_5, w_4m0_6, w_4m0_14, w_4m0_42, o_25_40, o_25_2, o_25_3, o_25_4, o_25_5, o_25_6, o_25_14, o_25_42] <;> omega)), (by first | omega | (simp (disch := omega) only [↓i_in, ↓i_isCouple, ↓i_isBridge, ↓i_isTheme, ↓i_isBarge, i_lt, i_le, i_eq, i_clamp, i_m1, Int32.toInt_toInt64, Int32.toInt_add, Int32.toInt_sub, Int32.toInt_mul, bm32, Int32.reduceToInt, Int64.reduceToInt, Nat.reduceLT, Nat.reduceEqDiff, reduceIte, u_eq, u_ne, w_4m0_2, w_4m0_3, w_4m0_4, w_4m0_5, w_4m0_6, w_4m0_14, w_4m0_42, o_25_40, o_25_2, o_25_3, o_25_4, o_25_5, o_25_6, o_25_14, o_25_42] <;> omega))⟩) z_26 _ _ _ _ _ _ e
                  · rw [if_neg c_31] at e
                    try simp (disch := omega) only [↓i_in, ↓i_isCouple, ↓i_isBridge, ↓i_isTheme, ↓i_isBarge, i_lt, i_le, i_eq, i_clamp, i_m1, Int32.toInt_toInt64, Int32.toInt_add, Int32.toInt_sub, Int32.toInt_mul, bm32, Int32.reduceToInt, Int64.reduceToInt, Nat.reduceLT, Nat.reduceEqDiff, reduceIte, u_eq, u_ne, w_4m0_2, w_4m0_3, w_4m0_4, w_4m0_5, w_4m0_6, w_4m0_14, w_4m0_42, o_25_40, o_25_2, o_25_3, o_25_4, o_25_5, o_25_6, o_25_14, o_25_42] at c_31
                    generalize x_33 : (f_m_findOrder_253 w_4l1 10 0 (upd (upd o_25 41 (w_4l2 + 1)) 40 (w_4l1 + 1)) o_26 (upd w_4m2 (w_4l1 : Int32).toNatClampNeg ((w_4m2 (w_4l1 : Int32).toNatClampNeg) + 1)) w_4m3) = z_34 at e
                    obtain ⟨w_44l5, w_44m0, w_44m1, w_44m2, w_44m3⟩ := z_34
                    replace e : ((f_m_findOrder_28 f10 f8 f11 f12 n (w_4l2 + 1) (w_4l1 + 1) w_44m0 w_44m1 (upd w_44m2 ((w_4l1 + 1) : Int32).toNatClampNeg (-1)) w_44m3)) = (r0, r1, r2, r3, r4, r5) := e
                    have p_35 := pl_findOrder_253 (by first | omega | (simp (disch := omega) only [↓i_in, ↓i_isCouple, ↓i_isBridge, ↓i_isTheme, ↓i_isBarge, i_lt, i_le, i_eq, i_clamp, i_m1, Int32.toInt_toInt64, Int32.toInt_add, Int32.toInt_sub, Int32.toInt_mul, bm32, Int32.reduceToInt, Int64.reduceToInt, Nat.reduceLT, Nat.reduceEqDiff, reduceIte, u_eq, u_ne, w_4m0_2, w_4m0_3, w_4m0_4, w_4m0_5, w_4m0_6, w_4m0_14, w_4m0_42, o_25_40, o_25_2, o_25_3, o_25_4, o_25_5, o_25_6, o_25_14, o_25_42] <;> omega)) (by first | omega | (simp (disch := omega) only [↓i_in, ↓i_isCouple, ↓i_isBridge, ↓i_isTheme, ↓i_isBarge, i_lt, i_le, i_eq, i_clamp, i_m1, Int32.toInt_toInt64, Int32.toInt_add, Int32.toInt_sub, Int32.toInt_mul, bm32, Int32.reduceToInt, Int64.reduceToInt, Nat.reduceLT, Nat.reduceEqDiff, reduceIte, u_eq, u_ne, w_4m0_2, w_4m0_3, w_4m0_4, w_4m0_5, w_4m0_6, w_4m0_14, w_4m0_42, o_25_40, o_25_2, o_25_3, o_25_4, o_25_5, o_25_6, o_25_14, o_25_42] <;> omega)) 10 0 (upd (upd o_25 41 (w_4l2 + 1)) 40 (w_4l1 + 1)) o_26 (upd w_4m2 (w_4l1 : Int32).toNatClampNeg ((w_4m2 (w_4l1 : Int32).toNatClampNeg) + 1)) w_4m3 (⟨(QF_upd (QF_upd i_25 (by decide) (by decide)) (by decide) (by decide)), i_26, rfl, (by first | omega | (simp (disch := omega) only [↓i_in, ↓i_isCouple, ↓i_isBridge, ↓i_isTheme, ↓i_isBarge, i_lt, i_le, i_eq, i_clamp, i_m1, Int32.toInt_toInt64, Int32.toInt_add, Int32.toInt_sub, Int32.toInt_mul, bm32, Int32.reduceToInt, Int64.reduceToInt, Nat.reduceLT, Nat.reduceEqDiff, reduceIte, u_eq, u_ne, w_4m0_2, w_4m0_3, w_4m0_4, w_4m0_5, w_4m0_6, w_4m0_14, w_4m0_42, o_25_40, o_25_2, o_25_3, o_25_4, o_25_5, o_25_6, o_25_14, o_25_42] <;> omega)), (by first | omega | (simp (disch := omega) only [↓i_in, ↓i_isCouple, ↓i_isBridge, ↓i_isTheme, ↓i_isBarge, i_lt, i_le, i_eq, i_clamp, i_m1, Int32.toInt_toInt64, Int32.toInt_add, Int32.toInt_sub, Int32.toInt_mul, bm32, Int32.reduceToInt, Int64.reduceToInt, Nat.reduceLT, Nat.reduceEqDiff, reduceIte, u_eq, u_ne, w_4m0_2, w_4m0_3, w_4m0_4, w_4m0_5, w_4m0_6, w_4m0_14, w_4m0_42, o_25_40, o_25_2, o_25_3, o_25_4, o_25_5, o_25_6, o_25_14, o_25_42] <;> omega)), (by first | omega | (simp (disch := omega) only [↓i_in, ↓i_isCouple, ↓i_isBridge, ↓i_isTheme, ↓i_isBarge, i_lt, i_le, i_eq, i_clamp, i_m1, Int32.toInt_toInt64, Int32.toInt_add, Int32.toInt_sub, Int32.toInt_mul, bm32, Int32.reduceToInt, Int64.reduceToInt, Nat.reduceLT, Nat.reduceEqDiff, reduceIte, u_eq, u_ne, w_4m0_2, w_4m0_3, w_4m0_4, w_4m0_5, w_4m0_6, w_4m0_14, w_4m0_42, o_25_40, o_25_2, o_25_3, o_25_4, o_25_5, o_25_6, o_25_14, o_25_42] <;> omega)), (by first | omega | (simp (disch := omega) only [↓i_in, ↓i_isCouple, ↓i_isBridge, ↓i_isTheme, ↓i_isBarge, i_lt, i_le, i_eq, i_clamp, i_m1, Int32.toInt_toInt64, Int32.toInt_add, Int32.toInt_sub, Int32.toInt_mul, bm32, Int32.reduceToInt, Int64.reduceToInt, Nat.reduceLT, Nat.reduceEqDiff, reduceIte, u_eq, u_ne, w_4m0_2, w_4m0_3, w_4m0_4, w_4m0_5, w_4m0_6, w_4m0_14, w_4m0_42, o_25_40, o_25_2, o_25_3, o_25_4, o_25_5, o_25_6, o_25_14, o_25_42] <;> omega))⟩) _ _ _ _ _ x_33
                    obtain ⟨i_36, i_37, i_38, i_39, i_40, i_41, i_42⟩ := p_35
                    obtain ⟨w_44m0_2, w_44m0_3, w_44m0_4, w_44m0_5, w_44m0_6, w_44m0_14, w_44m0_42⟩ := QFs i_36
                    rw [i_38] at e
                    have q_43 := FR_fwd (B := (G 6).toInt) (by first | omega | (simp (disch := omega) only [↓i_in, ↓i_isCouple, ↓i_isBridge, ↓i_isTheme, ↓i_isBarge, i_lt, i_le, i_eq, i_clamp, i_m1, Int32.toInt_toInt64, Int32.toInt_add, Int32.toInt_sub, Int32.toInt_mul, bm32, Int32.reduceToInt, Int64.reduceToInt, Nat.reduceLT, Nat.reduceEqDiff, reduceIte, u_eq, u_ne, w_4m0_2, w_4m0_3, w_4m0_4, w_4m0_5, w_4m0_6, w_4m0_14, w_4m0_42, o_25_40, o_25_2, o_25_3, o_25_4, o_25_5, o_25_6, o_25_14, o_25_42, w_44m0_2, w_44m0_3, w_44m0_4, w_44m0_5, w_44m0_6, w_44m0_14, w_44m0_42] <;> omega)) (by first | omega | (simp (disch := omega) only [↓i_in, ↓i_isCouple, ↓i_isBridge, ↓i_isTheme, ↓i_isBarge, i_lt, i_le, i_eq, i_clamp, i_m1, Int32.toInt_toInt64, Int32.toInt_add, Int32.toInt_sub, Int32.toInt_mul, bm32, Int32.reduceToInt, Int64.reduceToInt, Nat.reduceLT, Nat.reduceEqDiff, reduceIte, u_eq, u_ne, w_4m0_2, w_4m0_3, w_4m0_4, w_4m0_5, w_4m0_6, w_4m0_14, w_4m0_42, o_25_40, o_25_2, o_25_3, o_25_4, o_25_5, o_25_6, o_25_14, o_25_42, w_44m0_2, w_44m0_3, w_44m0_4, w_44m0_5, w_44m0_6, w_44m0_14, w_44m0_42] <;> omega)) (by omega) (by omega) i_5 (by first | omega | (simp (disch := omega) only [↓i_in, ↓i_isCouple, ↓i_isBridge, ↓i_isTheme, ↓i_isBarge, i_lt, i_le, i_eq, i_clamp, i_m1, Int32.toInt_toInt64, Int32.toInt_add, Int32.toInt_sub, Int32.toInt_mul, bm32, Int32.reduceToInt, Int64.reduceToInt, Nat.reduceLT, Nat.reduceEqDiff, reduceIte, u_eq, u_ne, w_4m0_2, w_4m0_3, w_4m0_4, w_4m0_5, w_4m0_6, w_4m0_14, w_4m0_42, o_25_40, o_25_2, o_25_3, o_25_4, o_25_5, o_25_6, o_25_14, o_25_42, w_44m0_2, w_44m0_3, w_44m0_4, w_44m0_5, w_44m0_6, w_44m0_14, w_44m0_42] <;> omega))
                    obtain ⟨q_43a, q_43b⟩ := q_43
                    exact ih (w_4l2 + 1) (w_4l1 + 1) w_44m0 w_44m1 (upd (upd w_4m2 (w_4l1 : Int32).toNatClampNeg ((w_4m2 (w_4l1 : Int32).toNatClampNeg) + 1)) ((w_4l1 + 1) : Int32).toNatClampNeg (-1)) w_44m3 (⟨i_36, i_37, (by first | omega | (simp (disch := omega) only [↓i_in, ↓i_isCouple, ↓i_isBridge, ↓i_isTheme, ↓i_isBarge, i_lt, i_le, i_eq, i_clamp, i_m1, Int32.toInt_toInt64, Int32.toInt_add, Int32.toInt_sub, Int32.toInt_mul, bm32, Int32.reduceToInt, Int64.reduceToInt, Nat.reduceLT, Nat.reduceEqDiff, reduceIte, u_eq, u_ne, w_4m0_2, w_4m0_3, w_4m0_4, w_4m0_5, w_4m0_6, w_4m0_14, w_4m0_42, o_25_40, o_25_2, o_25_3, o_25_4, o_25_5, o_25_6, o_25_14, o_25_42, w_44m0_2, w_44m0_3, w_44m0_4, w_44m0_5, w_44m0_6, w_44m0_14, w_44m0_42] <;> omega)), (by first | omega | (simp (disch := omega) only [↓i_in, ↓i_isCouple, ↓i_isBridge, ↓i_isTheme, ↓i_isBarge, i_lt, i_le, i_eq, i_clamp, i_m1, Int32.toInt_toInt64, Int32.toInt_add, Int32.toInt_sub, Int32.toInt_mul, bm32, Int32.reduceToInt, Int64.reduceToInt, Nat.reduceLT, Nat.reduceEqDiff, reduceIte, u_eq, u_ne, w_4m0_2, w_4m0_3, w_4m0_4, w_4m0_5, w_4m0_6, w_4m0_14, w_4m0_42, o_25_40, o_25_2, o_25_3, o_25_4, o_25_5, o_25_6, o_25_14, o_25_42, w_44m0_2, w_44m0_3, w_44m0_4, w_44m0_5, w_44m0_6, w_44m0_14, w_44m0_42] <;> omega)), q_43a, (by first | omega | (simp (disch := omega) only [↓i_in, ↓i_isCouple, ↓i_isBridge, ↓i_isTheme, ↓i_isBarge, i_lt, i_le, i_eq, i_clamp, i_m1, Int32.toInt_toInt64, Int32.toInt_add, Int32.toInt_sub, Int32.toInt_mul, bm32, Int32.reduceToInt, Int64.reduceToInt, Nat.reduceLT, Nat.reduceEqDiff, reduceIte, u_eq, u_ne, w_4m0_2, w_4m0_3, w_4m0_4, w_4m0_5, w_4m0_6, w_4m0_14, w_4m0_42, o_25_40, o_25_2, o_25_3, o_25_4, o_25_5, o_25_6, o_25_14, o_25_42, w_44m0_2, w_44m0_3, w_44m0_4, w_44m0_5, w_44m0_6, w_44m0_14, w_44m0_42] <;> omega)), (by first | omega | (simp (disch := omega) only [↓i_in, ↓i_isCouple, ↓i_isBridge, ↓i_isTheme, ↓i_isBarge, i_lt, i_le, i_eq, i_clamp, i_m1, Int32.toInt_toInt64, Int32.toInt_add, Int32.toInt_sub, Int32.toInt_mul, bm32, Int32.reduceToInt, Int64.reduceToInt, Nat.reduceLT, Nat.reduceEqDiff, reduceIte, u_eq, u_ne, w_4m0_2, w_4m0_3, w_4m0_4, w_4m0_5, w_4m0_6, w_4m0_14, w_4m0_42, o_25_40, o_25_2, o_25_3, o_25_4, o_25_5, o_25_6, o_25_14, o_25_42, w_44m0_2, w_44m0_3, w_44m0_4, w_44m0_5, w_44m0_6, w_44m0_14, w_44m0_42] <;> omega))⟩) (by rw [b253 _ _ _ _ _ _ _ _ _ _ _ x_33]; exact z_26) _ _ _ _ _ _ e
                · rw [if_neg c_30] at e
                  try simp (disch := omega) only [↓i_in, ↓i_isCouple, ↓i_isBridge, ↓i_isTheme, ↓i_isBarge, i_lt, i_le, i_eq, i_clamp, i_m1, Int32.toInt_toInt64, Int32.toInt_add, Int32.toInt_sub, Int32.toInt_mul, bm32, Int32.reduceToInt, Int64.reduceToInt, Nat.reduceLT, Nat.reduceEqDiff, reduceIte, u_eq, u_ne, w_4m0_2, w_4m0_3, w_4m0_4, w_4m0_5, w_4m0_6, w_4m0_14, w_4m0_42, o_25_40, o_25_2, o_25_3, o_25_4, o_25_5, o_25_6, o_25_14, o_25_42] at c_30
                  by_cases c_44 : (w_4l2 + 0) ≤ (o_25 41)
                  · rw [if_pos c_44] at e
                    try simp (disch := omega) only [↓i_in, ↓i_isCouple, ↓i_isBridge, ↓i_isTheme, ↓i_isBarge, i_lt, i_le, i_eq, i_clamp, i_m1, Int32.toInt_toInt64, Int32.toInt_add, Int32.toInt_sub, Int32.toInt_mul, bm32, Int32.reduceToInt, Int64.reduceToInt, Nat.reduceLT, Nat.reduceEqDiff, reduceIte, u_eq, u_ne, w_4m0_2, w_4m0_3, w_4m0_4, w_4m0_5, w_4m0_6, w_4m0_14, w_4m0_42, o_25_40, o_25_2, o_25_3, o_25_4, o_25_5, o_25_6, o_25_14, o_25_42] at c_44
                    have q_45 := FR_fwd (B := (G 6).toInt) (by first | omega | (simp (disch := omega) only [↓i_in, ↓i_isCouple, ↓i_isBridge, ↓i_isTheme, ↓i_isBarge, i_lt, i_le, i_eq, i_clamp, i_m1, Int32.toInt_toInt64, Int32.toInt_add, Int32.toInt_sub, Int32.toInt_mul, bm32, Int32.reduceToInt, Int64.reduceToInt, Nat.reduceLT, Nat.reduceEqDiff, reduceIte, u_eq, u_ne, w_4m0_2, w_4m0_3, w_4m0_4, w_4m0_5, w_4m0_6, w_4m0_14, w_4m0_42, o_25_40, o_25_2, o_25_3, o_25_4, o_25_5, o_25_6, o_25_14, o_25_42] <;> omega)) (by first | omega | (simp (disch := omega) only [↓i_in, ↓i_isCouple, ↓i_isBridge, ↓i_isTheme, ↓i_isBarge, i_lt, i_le, i_eq, i_clamp, i_m1, Int32.toInt_toInt64, Int32.toInt_add, Int32.toInt_sub, Int32.toInt_mul, bm32, Int32.reduceToInt, Int64.reduceToInt, Nat.reduceLT, Nat.reduceEqDiff, reduceIte, u_eq, u_ne, w_4m0_2, w_4m0_3, w_4m0_4, w_4m0_5, w_4m0_6, w_4m0_14, w_4m0_42, o_25_40, o_25_2, o_25_3, o_25_4, o_25_5, o_25_6, o_25_14, o_25_42] <;> omega)) (by omega) (by omega) i_5 (by first | omega | (simp (disch := omega) only [↓i_in, ↓i_isCouple, ↓i_isBridge, ↓i_isTheme, ↓i_isBarge, i_lt, i_le, i_eq, i_clamp, i_m1, Int32.toInt_toInt64, Int32.toInt_add, Int32.toInt_sub, Int32.toInt_mul, bm32, Int32.reduceToInt, Int64.reduceToInt, Nat.reduceLT, Nat.reduceEqDiff, reduceIte, u_eq, u_ne, w_4m0_2, w_4m0_3, w_4m0_4, w_4m0_5, w_4m0_6, w_4m0_14, w_4m0_42, o_25_40, o_25_2, o_25_3, o_25_4, o_25_5, o_25_6, o_25_14, o_25_42] <;> omega))
                    obtain ⟨q_45a, q_45b⟩ := q_45
                    exact ih (w_4l2 + 0) (w_4l1 + 1) o_25 o_26 (upd (upd w_4m2 (w_4l1 : Int32).toNatClampNeg ((w_4m2 (w_4l1 : Int32).toNatClampNeg) + 1)) ((w_4l1 + 1) : Int32).toNatClampNeg (-1)) w_4m3 (⟨i_25, i_26, (by first | omega | (simp (disch := omega) only [↓i_in, ↓i_isCouple, ↓i_isBridge, ↓i_isTheme, ↓i_isBarge, i_lt, i_le, i_eq, i_clamp, i_m1, Int32.toInt_toInt64, Int32.toInt_add, Int32.toInt_sub, Int32.toInt_mul, bm32, Int32.reduceToInt, Int64.reduceToInt, Nat.reduceLT, Nat.reduceEqDiff, reduceIte, u_eq, u_ne, w_4m0_2, w_4m0_3, w_4m0_4, w_4m0_5, w_4m0_6, w_4m0_14, w_4m0_42, o_25_40, o_25_2, o_25_3, o_25_4, o_25_5, o_25_6, o_25_14, o_25_42] <;> omega)), (by first | omega | (simp (disch := omega) only [↓i_in, ↓i_isCouple, ↓i_isBridge, ↓i_isTheme, ↓i_isBarge, i_lt, i_le, i_eq, i_clamp, i_m1, Int32.toInt_toInt64, Int32.toInt_add, Int32.toInt_sub, Int32.toInt_mul, bm32, Int32.reduceToInt, Int64.reduceToInt, Nat.reduceLT, Nat.reduceEqDiff, reduceIte, u_eq, u_ne, w_4m0_2, w_4m0_3, w_4m0_4, w_4m0_5, w_4m0_6, w_4m0_14, w_4m0_42, o_25_40, o_25_2, o_25_3, o_25_4, o_25_5, o_25_6, o_25_14, o_25_42] <;> omega)), q_45a, (by first | omega | (simp (disch := omega) only [↓i_in, ↓i_isCouple, ↓i_isBridge, ↓i_isTheme, ↓i_isBarge, i_lt, i_le, i_eq, i_clamp, i_m1, Int32.toInt_toInt64, Int32.toInt_add, Int32.toInt_sub, Int32.toInt_mul, bm32, Int32.reduceToInt, Int64.reduceToInt, Nat.reduceLT, Nat.reduceEqDiff, reduceIte, u_eq, u_ne, w_4m0_2, w_4m0_3, w_4m0_4, w_4m0_5, w_4m0_6, w_4m0_14, w_4m0_42, o_25_40, o_25_2, o_25_3, o_25_4, o_25_5, o_25_6, o_25_14, o_25_42] <;> omega)), (by first | omega | (simp (disch := omega) only [↓i_in, ↓i_isCouple, ↓i_isBridge, ↓i_isTheme, ↓i_isBarge, i_lt, i_le, i_eq, i_clamp, i_m1, Int32.toInt_toInt64, Int32.toInt_add, Int32.toInt_sub, Int32.toInt_mul, bm32, Int32.reduceToInt, Int64.reduceToInt, Nat.reduceLT, Nat.reduceEqDiff, reduceIte, u_eq, u_ne, w_4m0_2, w_4m0_3, w_4m0_4, w_4m0_5, w_4m0_6, w_4m0_14, w_4m0_42, o_25_40, o_25_2, o_25_3, o_25_4, o_25_5, o_25_6, o_25_14, o_25_42] <;> omega))⟩) z_26 _ _ _ _ _ _ e
                  · rw [if_neg c_44] at e
                    try simp (disch := omega) only [↓i_in, ↓i_isCouple, ↓i_isBridge, ↓i_isTheme, ↓i_isBarge, i_lt, i_le, i_eq, i_clamp, i_m1, Int32.toInt_toInt64, Int32.toInt_add, Int32.toInt_sub, Int32.toInt_mul, bm32, Int32.reduceToInt, Int64.reduceToInt, Nat.reduceLT, Nat.reduceEqDiff, reduceIte, u_eq, u_ne, w_4m0_2, w_4m0_3, w_4m0_4, w_4m0_5, w_4m0_6, w_4m0_14, w_4m0_42, o_25_40, o_25_2, o_25_3, o_25_4, o_25_5, o_25_6, o_25_14, o_25_42] at c_44
                    generalize x_46 : (f_m_findOrder_253 w_4l1 10 0 (upd (upd o_25 41 (w_4l2 + 0)) 40 (w_4l1 + 1)) o_26 (upd w_4m2 (w_4l1 : Int32).toNatClampNeg ((w_4m2 (w_4l1 : Int32).toNatClampNeg) + 1)) w_4m3) = z_47 at e
                    obtain ⟨w_37l5, w_37m0, w_37m1, w_37m2, w_37m3⟩ := z_47
                    replace e : ((f_m_findOrder_28 f10 f8 f11 f12 n (w_4l2 + 0) (w_4l1 + 1) w_37m0 w_37m1 (upd w_37m2 ((w_4l1 + 1) : Int32).toNatClampNeg (-1)) w_37m3)) = (r0, r1, r2, r3, r4, r5) := e
                    have p_48 := pl_findOrder_253 (by first | omega | (simp (disch := omega) only [↓i_in, ↓i_isCouple, ↓i_isBridge, ↓i_isTheme, ↓i_isBarge, i_lt, i_le, i_eq, i_clamp, i_m1, Int32.toInt_toInt64, Int32.toInt_add, Int32.toInt_sub, Int32.toInt_mul, bm32, Int32.reduceToInt, Int64.reduceToInt, Nat.reduceLT, Nat.reduceEqDiff, reduceIte, u_eq, u_ne, w_4m0_2, w_4m0_3, w_4m0_4, w_4m0_5, w_4m0_6, w_4m0_14, w_4m0_42, o_25_40, o_25_2, o_25_3, o_25_4, o_25_5, o_25_6, o_25_14, o_25_42] <;> omega)) (by first | omega | (simp (disch := omega) only [↓i_in, ↓i_isCouple, ↓i_isBridge, ↓i_isTheme, ↓i_isBarge, i_lt, i_le, i_eq, i_clamp, i_m1, Int32.toInt_toInt64, Int32.toInt_add, Int32.toInt_sub, Int32.toInt_mul, bm32, Int32.reduceToInt, Int64.reduceToInt, Nat.reduceLT, Nat.reduceEqDiff, reduceIte, u_eq, u_ne, w_4m0_2, w_4m0_3, w_4m0_4, w_4m0_5, w_4m0_6, w_4m0_14, w_4m0_42, o_25_40, o_25_2, o_25_3, o_25_4, o_25_5, o_25_6, o_25_14, o_25_42] <;> omega)) 10 0 (upd (upd o_25 41 (w_4l2 + 0)) 40 (w_4l1 + 1)) o_26 (upd w_4m2 (w_4l1 : Int32).toNatClampNeg ((w_4m2 (w_4l1 : Int32).toNatClampNeg) + 1)) w_4m3 (⟨(QF_upd (QF_upd i_25 (by decide) (by decide)) (by decide) (by decide)), i_26, rfl, (by first | omega | (simp (disch := omega) only [↓i_in, ↓i_isCouple, ↓i_isBridge, ↓i_isTheme, ↓i_isBarge, i_lt, i_le, i_eq, i_clamp, i_m1, Int32.toInt_toInt64, Int32.toInt_add, Int32.toInt_sub, Int32.toInt_mul, bm32, Int32.reduceToInt, Int64.reduceToInt, Nat.reduceLT, Nat.reduceEqDiff, reduceIte, u_eq, u_ne, w_4m0_2, w_4m0_3, w_4m0_4, w_4m0_5, w_4m0_6, w_4m0_14, w_4m0_42, o_25_40, o_25_2, o_25_3, o_25_4, o_25_5, o_25_6, o_25_14, o_25_42] <;> omega)), (by first | omega | (simp (disch := omega) only [↓i_in, ↓i_isCouple, ↓i_isBridge, ↓i_isTheme, ↓i_isBarge, i_lt, i_le, i_eq, i_clamp, i_m1, Int32.toInt_toInt64, Int32.toInt_add, Int32.toInt_sub, Int32.toInt_mul, bm32, Int32.reduceToInt, Int64.reduceToInt, Nat.reduceLT, Nat.reduceEqDiff, reduceIte, u_eq, u_ne, w_4m0_2, w_4m0_3, w_4m0_4, w_4m0_5, w_4m0_6, w_4m0_14, w_4m0_42, o_25_40, o_25_2, o_25_3, o_25_4, o_25_5, o_25_6, o_25_14, o_25_42] <;> omega)), (by first | omega | (simp (disch := omega) only [↓i_in, ↓i_isCouple, ↓i_isBridge, ↓i_isTheme, ↓i_isBarge, i_lt, i_le, i_eq, i_clamp, i_m1, Int32.toInt_toInt64, Int32.toInt_add, Int32.toInt_sub, Int32.toInt_mul, bm32, Int32.reduceToInt, Int64.reduceToInt, Nat.reduceLT, Nat.reduceEqDiff, reduceIte, u_eq, u_ne, w_4m0_2, w_4m0_3, w_4m0_4, w_4m0_5, w_4m0_6, w_4m0_14, w_4m0_42, o_25_40, o_25_2, o_25_3, o_25_4, o_25_5, o_25_6, o_25_14, o_25_42] <;> omega)), (by first | omega | (simp (disch := omega) only [↓i_in, ↓i_isCouple, ↓i_isBridge, ↓i_isTheme, ↓i_isBarge, i_lt, i_le, i_eq, i_clamp, i_m1, Int32.toInt_toInt64, Int32.toInt_add, Int32.toInt_sub, Int32.toInt_mul, bm32, Int32.reduceToInt, Int64.reduceToInt, Nat.reduceLT, Nat.reduceEqDiff, reduceIte, u_eq, u_ne, w_4m0_2, w_4m0_3, w_4m0_4, w_4m0_5, w_4m0_6, w_4m0_14, w_4m0_42, o_25_40, o_25_2, o_25_3, o_25_4, o_25_5, o_25_6, o_25_14, o_25_42] <;> omega))⟩) _ _ _ _ _ x_46
                    obtain ⟨i_49, i_50, i_51, i_52, i_53, i_54, i_55⟩ := p_48
                    obtain ⟨w_37m0_2, w_37m0_3, w_37m0_4, w_37m0_5, w_37m0_6, w_37m0_14, w_37m0_42⟩ := QFs i_49
                    rw [i_51] at e
                    have q_56 := FR_fwd (B := (G 6).toInt) (by first | omega | (simp (disch := omega) only [↓i_in, ↓i_isCouple, ↓i_isBridge, ↓i_isTheme, ↓i_isBarge, i_lt, i_le, i_eq, i_clamp, i_m1, Int32.toInt_toInt64, Int32.toInt_add, Int32.toInt_sub, Int32.toInt_mul, bm32, Int32.reduceToInt, Int64.reduceToInt, Nat.reduceLT, Nat.reduceEqDiff, reduceIte, u_eq, u_ne, w_4m0_2, w_4m0_3, w_4m0_4, w_4m0_5, w_4m0_6, w_4m0_14, w_4m0_42, o_25_40, o_25_2, o_25_3, o_25_4, o_25_5, o_25_6, o_25_14, o_25_42, w_37m0_2, w_37m0_3, w_37m0_4, w_37m0_5, w_37m0_6, w_37m0_14, w_37m0_42] <;> omega)) (by first | omega | (simp (disch := omega) only [↓i_in, ↓i_isCouple, ↓i_isBridge, ↓i_isTheme, ↓i_isBarge, i_lt, i_le, i_eq, i_clamp, i_m1, Int32.toInt_toInt64, Int32.toInt_add, Int32.toInt_sub, Int32.toInt_mul, bm32, Int32.reduceToInt, Int64.reduceToInt, Nat.reduceLT, Nat.reduceEqDiff, reduceIte, u_eq, u_ne, w_4m0_2, w_4m0_3, w_4m0_4, w_4m0_5, w_4m0_6, w_4m0_14, w_4m0_42, o_25_40, o_25_2, o_25_3, o_25_4, o_25_5, o_25_6, o_25_14, o_25_42, w_37m0_2, w_37m0_3, w_37m0_4, w_37m0_5, w_37m0_6, w_37m0_14, w_37m0_42] <;> omega)) (by omega) (by omega) i_5 (by first | omega | (simp (disch := omega) only [↓i_in, ↓i_isCouple, ↓i_isBridge, ↓i_isTheme, ↓i_isBarge, i_lt, i_le, i_eq, i_clamp, i_m1, Int32.toInt_toInt64, Int32.toInt_add, Int32.toInt_sub, Int32.toInt_mul, bm32, Int32.reduceToInt, Int64.reduceToInt, Nat.reduceLT, Nat.reduceEqDiff, reduceIte, u_eq, u_ne, w_4m0_2, w_4m0_3, w_4m0_4, w_4m0_5, w_4m0_6, w_4m0_14, w_4m0_42, o_25_40, o_25_2, o_25_3, o_25_4, o_25_5, o_25_6, o_25_14, o_25_42, w_37m0_2, w_37m0_3, w_37m0_4, w_37m0_5, w_37m0_6, w_37m0_14, w_37m0_42] <;> omega))
                    obtain ⟨q_56a, q_56b⟩ := q_56
                    exact ih (w_4l2 + 0) (w_4l1 + 1) w_37m0 w_37m1 (upd (upd w_4m2 (w_4l1 : Int32).toNatClampNeg ((w_4m2 (w_4l1 : Int32).toNatClampNeg) + 1)) ((w_4l1 + 1) : Int32).toNatClampNeg (-1)) w_37m3 (⟨i_49, i_50, (by first | omega | (simp (disch := omega) only [↓i_in, ↓i_isCouple, ↓i_isBridge, ↓i_isTheme, ↓i_isBarge, i_lt, i_le, i_eq, i_clamp, i_m1, Int32.toInt_toInt64, Int32.toInt_add, Int32.toInt_sub, Int32.toInt_mul, bm32, Int32.reduceToInt, Int64.reduceToInt, Nat.reduceLT, Nat.reduceEqDiff, reduceIte, u_eq, u_ne, w_4m0_2, w_4m0_3, w_4m0_4, w_4m0_5, w_4m0_6, w_4m0_14, w_4m0_42, o_25_40, o_25_2, o_25_3, o_25_4, o_25_5, o_25_6, o_25_14, o_25_42, w_37m0_2, w_37m0_3, w_37m0_4, w_37m0_5, w_37m0_6, w_37m0_14, w_37m0_42] <;> omega)), (by first | omega | (simp (disch := omega) only [↓i_in, ↓i_isCouple, ↓i_isBridge, ↓i_isTheme, ↓i_isBarge, i_lt, i_le, i_eq, i_clamp, i_m1, Int32.toInt_toInt64, Int32.toInt_add, Int32.toInt_sub, Int32.toInt_mul, bm32, Int32.reduceToInt, Int64.reduceToInt, Nat.reduceLT, Nat.reduceEqDiff, reduceIte, u_eq, u_ne, w_4m0_2, w_4m0_3, w_4m0_4, w_4m0_5, w_4m0_6, w_4m0_14, w_4m0_42, o_25_40, o_25_2, o_25_3, o_25_4, o_25_5, o_25_6, o_25_14, o_25_42, w_37m0_2, w_37m0_3, w_37m0_4, w_37m0_5, w_37m0_6, w_37m0_14, w_37m0_42] <;> omega)), q_56a, (by first | omega | (simp (disch := omega) only [↓i_in, ↓i_isCouple, ↓i_isBridge, ↓i_isTheme, ↓i_isBarge, i_lt, i_le, i_eq, i_clamp, i_m1, Int32.toInt_toInt64, Int32.toInt_add, Int32.toInt_sub, Int32.toInt_mul, bm32, Int32.reduceToInt, Int64.reduceToInt, Nat.reduceLT, Nat.reduceEqDiff, reduceIte, u_eq, u_ne, w_4m0_2, w_4m0_3, w_4m0_4, w_4m0_5, w_4m0_6, w_4m0_14, w_4m0_42, o_25_40, o_25_2, o_25_3, o_25_4, o_25_5, o_25_6, o_25_14, o_25_42, w_37m0_2, w_37m0_3, w_37m0_4, w_37m0_5, w_37m0_6, w_37m0_14, w_37m0_42] <;> omega)), (by first | omega | (simp (disch := omega) only [↓i_in, ↓i_isCouple, ↓i_isBridge, ↓i_isTheme, ↓i_isBarge, i_lt, i_le, i_eq, i_clamp, i_m1, Int32.toInt_toInt64, Int32.toInt_add, Int32.toInt_sub, Int32.toInt_mul, bm32, Int32.reduceToInt, Int64.reduceToInt, Nat.reduceLT, Nat.reduceEqDiff, reduceIte, u_eq, u_ne, w_4m0_2, w_4m0_3, w_4m0_4, w_4m0_5, w_4m0_6, w_4m0_14, w_4m0_42, o_25_40, o_25_2, o_25_3, o_25_4, o_25_5, o_25_6, o_25_14, o_25_42, w_37m0_2, w_37m0_3, w_37m0_4, w_37m0_5, w_37m0_6, w_37m0_14, w_37m0_42] <;> omega))⟩) (by rw [b253 _ _ _ _ _ _ _ _ _ _ _ x_46]; exact z_26) _ _ _ _ _ _ e
              · rw [if_neg c_29] at e
                try simp (disch := omega) only [↓i_in, ↓i_isCouple, ↓i_isBridge, ↓i_isTheme, ↓i_isBarge, i_lt, i_le, i_eq, i_clamp, i_m1, Int32.toInt_toInt64, Int32.toInt_add, Int32.toInt_sub, Int32.toInt_mul, bm32, Int32.reduceToInt, Int64.reduceToInt, Nat.reduceLT, Nat.reduceEqDiff, reduceIte, u_eq, u_ne, w_4m0_2, w_4m0_3, w_4m0_4, w_4m0_5, w_4m0_6, w_4m0_14, w_4m0_42, o_25_40, o_25_2, o_25_3, o_25_4, o_25_5, o_25_6, o_25_14, o_25_42] at c_29
                have q_57 := FR_stay (B := (G 6).toInt) (by first | omega | (simp (disch := omega) only [↓i_in, ↓i_isCouple, ↓i_isBridge, ↓i_isTheme, ↓i_isBarge, i_lt, i_le, i_eq, i_clamp, i_m1, Int32.toInt_toInt64, Int32.toInt_add, Int32.toInt_sub, Int32.toInt_mul, bm32, Int32.reduceToInt, Int64.reduceToInt, Nat.reduceLT, Nat.reduceEqDiff, reduceIte, u_eq, u_ne, w_4m0_2, w_4m0_3, w_4m0_4, w_4m0_5, w_4m0_6, w_4m0_14, w_4m0_42, o_25_40, o_25_2, o_25_3, o_25_4, o_25_5, o_25_6, o_25_14, o_25_42] <;> omega)) (by omega) i_5 (by first | omega | (simp (disch := omega) only [↓i_in, ↓i_isCouple, ↓i_isBridge, ↓i_isTheme, ↓i_isBarge, i_lt, i_le, i_eq, i_clamp, i_m1, Int32.toInt_toInt64, Int32.toInt_add, Int32.toInt_sub, Int32.toInt_mul, bm32, Int32.reduceToInt, Int64.reduceToInt, Nat.reduceLT, Nat.reduceEqDiff, reduceIte, u_eq, u_ne, w_4m0_2, w_4m0_3, w_4m0_4, w_4m0_5, w_4m0_6, w_4m0_14, w_4m0_42, o_25_40, o_25_2, o_25_3, o_25_4, o_25_5, o_25_6, o_25_14, o_25_42] <;> omega))
                obtain ⟨q_57a, q_57b⟩ := q_57
                exact ih w_4l2 w_4l1 o_25 o_26 (upd w_4m2 (w_4l1 : Int32).toNatClampNeg ((w_4m2 (w_4l1 : Int32).toNatClampNeg) + 1)) w_4m3 (⟨i_25, i_26, (by first | omega | (simp (disch := omega) only [↓i_in, ↓i_isCouple, ↓i_isBridge, ↓i_isTheme, ↓i_isBarge, i_lt, i_le, i_eq, i_clamp, i_m1, Int32.toInt_toInt64, Int32.toInt_add, Int32.toInt_sub, Int32.toInt_mul, bm32, Int32.reduceToInt, Int64.reduceToInt, Nat.reduceLT, Nat.reduceEqDiff, reduceIte, u_eq, u_ne, w_4m0_2, w_4m0_3, w_4m0_4, w_4m0_5, w_4m0_6, w_4m0_14, w_4m0_42, o_25_40, o_25_2, o_25_3, o_25_4, o_25_5, o_25_6, o_25_14, o_25_42] <;> omega)), (by first | omega | (simp (disch := omega) only [↓i_in, ↓i_isCouple, ↓i_isBridge, ↓i_isTheme, ↓i_isBarge, i_lt, i_le, i_eq, i_clamp, i_m1, Int32.toInt_toInt64, Int32.toInt_add, Int32.toInt_sub, Int32.toInt_mul, bm32, Int32.reduceToInt, Int64.reduceToInt, Nat.reduceLT, Nat.reduceEqDiff, reduceIte, u_eq, u_ne, w_4m0_2, w_4m0_3, w_4m0_4, w_4m0_5, w_4m0_6, w_4m0_14, w_4m0_42, o_25_40, o_25_2, o_25_3, o_25_4, o_25_5, o_25_6, o_25_14, o_25_42] <;> omega)), q_57a, (by first | omega | (simp (disch := omega) only [↓i_in, ↓i_isCouple, ↓i_isBridge, ↓i_isTheme, ↓i_isBarge, i_lt, i_le, i_eq, i_clamp, i_m1, Int32.toInt_toInt64, Int32.toInt_add, Int32.toInt_sub, Int32.toInt_mul, bm32, Int32.reduceToInt, Int64.reduceToInt, Nat.reduceLT, Nat.reduceEqDiff, reduceIte, u_eq, u_ne, w_4m0_2, w_4m0_3, w_4m0_4, w_4m0_5, w_4m0_6, w_4m0_14, w_4m0_42, o_25_40, o_25_2, o_25_3, o_25_4, o_25_5, o_25_6, o_25_14, o_25_42] <;> omega)), (by first | omega | (simp (disch := omega) only [↓i_in, ↓i_isCouple, ↓i_isBridge, ↓i_isTheme, ↓i_isBarge, i_lt, i_le, i_eq, i_clamp, i_m1, Int32.toInt_toInt64, Int32.toInt_add, Int32.toInt_sub, Int32.toInt_mul, bm32, Int32.reduceToInt, Int64.reduceToInt, Nat.reduceLT, Nat.reduceEqDiff, reduceIte, u_eq, u_ne, w_4m0_2, w_4m0_3, w_4m0_4, w_4m0_5, w_4m0_6, w_4m0_14, w_4m0_42, o_25_40, o_25_2, o_25_3, o_25_4, o_25_5, o_25_6, o_25_14, o_25_42] <;> omega))⟩) z_26 _ _ _ _ _ _ e
          · rw [if_neg c_21] at e
            try simp (disch := omega) only [↓i_in, ↓i_isCouple, ↓i_isBridge, ↓i_isTheme, ↓i_isBarge, i_lt, i_le, i_eq, i_clamp, i_m1, Int32.toInt_toInt64, Int32.toInt_add, Int32.toInt_sub, Int32.toInt_mul, bm32, Int32.reduceToInt, Int64.reduceToInt, Nat.reduceLT, Nat.reduceEqDiff, reduceIte, u_eq, u_ne, w_4m0_2, w_4m0_3, w_4m0_4, w_4m0_5, w_4m0_6, w_4m0_14, w_4m0_42] at c_21
            have q_58 := FR_stay (B := (G 6).toInt) (by first | omega | (simp (disch := omega) only [↓i_in, ↓i_isCouple, ↓i_isBridge, ↓i_isTheme, ↓i_isBarge, i_lt, i_le, i_eq, i_clamp, i_m1, Int32.toInt_toInt64, Int32.toInt_add, Int32.toInt_sub, Int32.toInt_mul, bm32, Int32.reduceToInt, Int64.reduceToInt, Nat.reduceLT, Nat.reduceEqDiff, reduceIte, u_eq, u_ne, w_4m0_2, w_4m0_3, w_4m0_4, w_4m0_5, w_4m0_6, w_4m0_14, w_4m0_42] <;> omega)) (by omega) i_5 (by first | omega | (simp (disch := omega) only [↓i_in, ↓i_isCouple, ↓i_isBridge, ↓i_isTheme, ↓i_isBarge, i_lt, i_le, i_eq, i_clamp, i_m1, Int32.toInt_toInt64, Int32.toInt_add, Int32.toInt_sub, Int32.toInt_mul, bm32, Int32.reduceToInt, Int64.reduceToInt, Nat.reduceLT, Nat.reduceEqDiff, reduceIte, u_eq, u_ne, w_4m0_2, w_4m0_3, w_4m0_4, w_4m0_5, w_4m0_6, w_4m0_14, w_4m0_42] <;> omega))
            obtain ⟨q_58a, q_58b⟩ := q_58
            exact ih w_4l2 w_4l1 w_4m0 w_4m1 (upd w_4m2 (w_4l1 : Int32).toNatClampNeg ((w_4m2 (w_4l1 : Int32).toNatClampNeg) + 1)) w_4m3 (⟨i_1, i_2, (by first | omega | (simp (disch := omega) only [↓i_in, ↓i_isCouple, ↓i_isBridge, ↓i_isTheme, ↓i_isBarge, i_lt, i_le, i_eq, i_clamp, i_m1, Int32.toInt_toInt64, Int32.toInt_add, Int32.toInt_sub, Int32.toInt_mul, bm32, Int32.reduceToInt, Int64.reduceToInt, Nat.reduceLT, Nat.reduceEqDiff, reduceIte, u_eq, u_ne, w_4m0_2, w_4m0_3, w_4m0_4, w_4m0_5, w_4m0_6, w_4m0_14, w_4m0_42] <;> omega)), (by first | omega | (simp (disch := omega) only [↓i_in, ↓i_isCouple, ↓i_isBridge, ↓i_isTheme, ↓i_isBarge, i_lt, i_le, i_eq, i_clamp, i_m1, Int32.toInt_toInt64, Int32.toInt_add, Int32.toInt_sub, Int32.toInt_mul, bm32, Int32.reduceToInt, Int64.reduceToInt, Nat.reduceLT, Nat.reduceEqDiff, reduceIte, u_eq, u_ne, w_4m0_2, w_4m0_3, w_4m0_4, w_4m0_5, w_4m0_6, w_4m0_14, w_4m0_42] <;> omega)), q_58a, (by first | omega | (simp (disch := omega) only [↓i_in, ↓i_isCouple, ↓i_isBridge, ↓i_isTheme, ↓i_isBarge, i_lt, i_le, i_eq, i_clamp, i_m1, Int32.toInt_toInt64, Int32.toInt_add, Int32.toInt_sub, Int32.toInt_mul, bm32, Int32.reduceToInt, Int64.reduceToInt, Nat.reduceLT, Nat.reduceEqDiff, reduceIte, u_eq, u_ne, w_4m0_2, w_4m0_3, w_4m0_4, w_4m0_5, w_4m0_6, w_4m0_14, w_4m0_42] <;> omega)), (by first | omega | (simp (disch := omega) only [↓i_in, ↓i_isCouple, ↓i_isBridge, ↓i_isTheme, ↓i_isBarge, i_lt, i_le, i_eq, i_clamp, i_m1, Int32.toInt_toInt64, Int32.toInt_add, Int32.toInt_sub, Int32.toInt_mul, bm32, Int32.reduceToInt, Int64.reduceToInt, Nat.reduceLT, Nat.reduceEqDiff, reduceIte, u_eq, u_ne, w_4m0_2, w_4m0_3, w_4m0_4, w_4m0_5, w_4m0_6, w_4m0_14, w_4m0_42] <;> omega))⟩) hZ _ _ _ _ _ _ e

theorem findF {G w f10 f8 f11 f12 f38 f39 : Nat → Int32} (h_0 : GI G) (h_1 : RI f11) (h_2 : WI w) : ∀ (u1 u2 u3 u4 : Nat → Int32), f_m_findOrder G w f10 f8 f11 f12 f38 f39 = (u1, u2, u3, u4) → FZ w u2 := by
  intro u1 u2 u3 u4 e
  unfold f_m_findOrder at e
  have h0 := h_0
  obtain ⟨_, _, _, _, ⟨e1, e2⟩, _⟩ := h0
  generalize hx : f_m_findOrder_28 _ _ _ _ _ _ _ _ _ _ _ = x at e
  obtain ⟨a, b, m0, m1, m2, m3⟩ := x
  have q := fl_findOrder_28 h_0 h_1 1000000000000 0 0 (upd (upd G 40 0) 41 0) (f_m_copy w 0 42) (upd f38 (0 : Int32).toNatClampNeg (-1)) f39 ⟨QF_upd (QF_upd (QF.refl _) (by decide) (by decide)) (by decide) (by decide), p_copy h_2 (by decide) (by decide) (by decide) (by decide), by decide, by decide, FR_init e1, (by rw [u_ne (by decide), pk_us]; decide), (by rw [u_ne (by decide), pk_us]; decide)⟩ (FZ_copy (fun _ _ => rfl) (by decide) (by decide) (by decide) (by decide) (by decide)) _ _ _ _ _ _ hx
  replace e : (m0, m1, m2, m3) = (u1, u2, u3, u4) := e
  cases e
  exact q
section
variable {q1 q2 q10 q12 t0 t1 t2 t3 t4 p1 p2 b0 : Int32} {ftx fta ftb ftc ftd fte fn fsh fim fis fba fbb G w f1 f8 f9 f10 f11 f12 f13 f43 f44 : Nat → Int32}
theorem R_order {i_ ry : Int32} {f38 f39 y0 y1 y2 y3 : Nat → Int32} (hG : GI G) (hF : RI f11) (hW : WI w) (hR : RS q1 q2 ftx f13 t0 t1 t2 t3 t4 fta ftb ftc ftd fte f8 f9 f10 f11 f12 b0 fba fbb f43 f44 G) (hD : DY q10 q12 p1 p2 fn fsh fim fis f1 G w) (em : (ry, y0, y1, y2, y3) = f_m_order G w f10 f8 f11 f12 f38 f39 i_) : RS q1 q2 ftx f13 t0 t1 t2 t3 t4 fta ftb ftc ftd fte f8 f9 f10 f11 f12 b0 fba fbb f43 f44 y0 ∧ DY q10 q12 p1 p2 fn fsh fim fis f1 y0 y1 := by
  unfold f_m_order at em
  cases hf : f_m_findOrder G w f10 f8 f11 f12 f38 f39 with
  | mk o4 z =>
    obtain ⟨o5, o6, o7⟩ := z
    rw [hf] at em
    have fz := findF hG hF hW _ _ _ _ hf
    have pq := (p_findOrder hG hF hW _ _ _ _ hf).1
    dsimp (config := { etaStruct := .none }) only at em
    have key : RS q1 q2 ftx f13 t0 t1 t2 t3 t4 fta ftb ftc ftd fte f8 f9 f10 f11 f12 b0 fba fbb f43 f44 o4 ∧ DY q10 q12 p1 p2 fn fsh fim fis f1 o4 o5 := ⟨RS_of hR (fun k _ h => pq k h), DY_of hD hG (fun x hx => fz x hx) (fun k a b => pq k (by omega))⟩
    by_cases c1 : i_ = -1
    · rw [if_pos c1] at em
      cases em
      exact key
    · rw [if_neg c1] at em
      by_cases c2 : f_m_in i_.toInt64 0 ((o4 40 - 1).toInt64) = 0
      · rw [if_pos c2] at em
        cases em
        exact key
      · rw [if_neg c2] at em
        cases em
        exact key
end
end
