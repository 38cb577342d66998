/-! the calls without loops, side by side -/
section
variable {q1 q2 q10 q12 t0 t1 t2 t3 t4 p1 p2 b0 : Int32} {ftx fta ftb ftc ftd fte fn fsh fim fis fba fbb G w f1 f8 f9 f10 f11 f12 f13 f43 f44 : Nat → Int32}
theorem R_feed {c_ rx x0 ry : Int32} {x1 y0 y1 : Nat → Int32} (hG : GI G) (hR : RS q1 q2 ftx f13 t0 t1 t2 t3 t4 fta ftb ftc ftd fte f8 f9 f10 f11 f12 b0 fba fbb f43 f44 G) (hD : DY q10 q12 p1 p2 fn fsh fim fis f1 G w) (ex : (rx, x0, x1) = f_e_feed_x9 q1 q2 q10 q12 ftx c_) (em : (ry, y0, y1) = f_m_feed G f13 c_) : rx = ry ∧ RS x0 q2 x1 y1 t0 t1 t2 t3 t4 fta ftb ftc ftd fte f8 f9 f10 f11 f12 b0 fba fbb f43 f44 y0 ∧ DY q10 q12 p1 p2 fn fsh fim fis f1 y0 w := by
  obtain ⟨⟨rfl, rfl, h3⟩, hN, hK⟩ := hR
  have g0 := hG.2.2.2.2.2.1
  have hR0 : RS (G 14) q2 ftx ftx t0 t1 t2 t3 t4 fta ftb ftc ftd fte f8 f9 f10 f11 f12 b0 fba fbb f43 f44 G := ⟨⟨rfl, rfl, h3⟩, hN, hK⟩
  unfold f_e_feed_x9 at ex
  unfold f_m_feed at em
  by_cases c1 : f_m_in c_.toInt64 0 255 = 0
  · rw [if_pos c1] at em
    rw [i_in, Int32.toInt_toInt64] at c1
    simp only [Int64.reduceToInt] at c1
    by_cases c2 : c_ < 0
    · rw [if_pos c2] at ex
      cases ex; cases em
      exact ⟨rfl, hR0, hD⟩
    · rw [if_neg c2] at ex
      by_cases c3 : c_ ≤ 255
      · simp only [i_lt, i_le, Int32.reduceToInt] at c2 c3
        omega
      · rw [if_neg c3] at ex
        cases ex; cases em
        exact ⟨rfl, hR0, hD⟩
  · rw [if_neg c1] at em
    rw [i_in, Int32.toInt_toInt64] at c1
    simp only [Int64.reduceToInt] at c1
    have c2 : ¬ c_ < 0 := by
      simp only [i_lt, Int32.reduceToInt]
      omega
    have c3 : c_ ≤ 255 := by
      simp only [i_le, Int32.reduceToInt]
      omega
    rw [if_neg c2, if_pos c3] at ex
    by_cases c4 : G 14 = 240
    · rw [if_pos c4] at em
      have c5 : ¬ G 14 < 240 := by rw [c4]; decide
      rw [if_neg c5] at ex
      cases ex; cases em
      exact ⟨rfl, hR0, hD⟩
    · rw [if_neg c4] at em
      have c5 : G 14 < 240 := by
        simp only [i_eq, Int32.reduceToInt] at c4
        simp only [i_lt, Int32.reduceToInt]
        omega
      rw [if_pos c5] at ex
      rw [i_lt] at c5
      simp only [Int32.reduceToInt] at c5
      cases ex; cases em
      refine ⟨rfl, ⟨⟨pk_us.symm, ?_, ?_⟩, TN_of hN (fun k a b => pk_un (by omega)), BK_of hK (pk_un (by decide))⟩, DY_of hD hG (fun x _ => rfl) (fun k a b => pk_un (by omega))⟩
      · exact put_in g0.1 c5
      · rw [pk_un (by decide)]
        exact h3
theorem R_write {c_ g_ rx x0 ry : Int32} {x1 x2 y0 y1 y2 : Nat → Int32} (hG : GI G) (hR : RS q1 q2 ftx f13 t0 t1 t2 t3 t4 fta ftb ftc ftd fte f8 f9 f10 f11 f12 b0 fba fbb f43 f44 G) (hD : DY q10 q12 p1 p2 fn fsh fim fis f1 G w) (ex : (rx, x0, x1, x2) = f_e_write_x9 q1 q2 q10 q12 t0 t1 t2 t3 t4 b0 fba fbb c_ g_) (em : (ry, y0, y1, y2) = f_m_write G f43 f44 c_ g_) : rx = ry ∧ RS q1 q2 ftx f13 t0 t1 t2 t3 t4 fta ftb ftc ftd fte f8 f9 f10 f11 f12 x0 x1 x2 y1 y2 y0 ∧ DY q10 q12 p1 p2 fn fsh fim fis f1 y0 w := by
  have hR0 := hR
  obtain ⟨hX, hN, ⟨rfl, rfl, rfl⟩⟩ := hR
  have hN0 := hN
  obtain ⟨_, _, rfl, _⟩ := hN
  have g0 := hG.2.2.2.2.2.2
  unfold f_e_write_x9 at ex
  unfold f_m_write at em
  by_cases c1 : f_m_isCouple G c_ = 0
  · rw [if_pos c1] at em
    rw [if_pos ((q_couple hG _ _ _ _ _).mpr c1)] at ex
    cases ex; cases em
    exact ⟨rfl, hR0, hD⟩
  · rw [if_neg c1] at em
    rw [if_neg (fun q => c1 ((q_couple hG _ _ _ _ _).mp q))] at ex
    by_cases c2 : f_m_in g_.toInt64 0 99 = 0
    · rw [if_pos c2] at em
      rw [i_in, Int32.toInt_toInt64] at c2
      simp only [Int64.reduceToInt] at c2
      by_cases c3 : g_ < 0
      · rw [if_pos c3] at ex
        cases ex; cases em
        exact ⟨rfl, hR0, hD⟩
      · rw [if_neg c3] at ex
        have c4 : ¬ g_ ≤ 99 := by
          simp only [i_lt, i_le, Int32.reduceToInt] at c3 ⊢
          omega
        rw [if_neg c4] at ex
        cases ex; cases em
        exact ⟨rfl, hR0, hD⟩
    · rw [if_neg c2] at em
      rw [i_in, Int32.toInt_toInt64] at c2
      simp only [Int64.reduceToInt] at c2
      have c3 : ¬ g_ < 0 := by
        simp only [i_lt, Int32.reduceToInt]
        omega
      have c4 : g_ ≤ 99 := by
        simp only [i_le, Int32.reduceToInt]
        omega
      rw [if_neg c3, if_pos c4] at ex
      by_cases c5 : G 42 = 15
      · rw [if_pos c5] at em
        rw [if_neg (by rw [c5]; decide)] at ex
        cases ex; cases em
        exact ⟨rfl, hR0, hD⟩
      · rw [if_neg c5] at em
        have c6 : G 42 < 15 := by
          simp only [i_eq, Int32.reduceToInt] at c5
          simp only [i_lt, Int32.reduceToInt]
          omega
        rw [if_pos c6] at ex
        rw [i_lt] at c6
        simp only [Int32.reduceToInt] at c6
        unfold f_e_enter_x0 at ex
        cases ex; cases em
        exact ⟨rfl, ⟨TX_of hX (pk_un (by decide)) (pk_un (by decide)), TN_of hN0 (fun k a b => pk_un (by omega)), ⟨pk_us.symm, put_in g0.1 c6, put_in g0.1 c6⟩⟩, DY_of hD hG (fun x _ => rfl) (fun k a b => pk_un (by omega))⟩
theorem R_tear {rx x0 ry : Int32} {y0 : Nat → Int32} (hG : GI G) (hR : RS q1 q2 ftx f13 t0 t1 t2 t3 t4 fta ftb ftc ftd fte f8 f9 f10 f11 f12 b0 fba fbb f43 f44 G) (hD : DY q10 q12 p1 p2 fn fsh fim fis f1 G w) (ex : (rx, x0) = f_e_tear_x9 q1 q2 q10 q12 b0) (em : (ry, y0) = f_m_tear G) : rx = ry ∧ RS q1 q2 ftx f13 t0 t1 t2 t3 t4 fta ftb ftc ftd fte f8 f9 f10 f11 f12 x0 fba fbb f43 f44 y0 ∧ DY q10 q12 p1 p2 fn fsh fim fis f1 y0 w := by
  obtain ⟨hX, hN, ⟨rfl, h2, h3⟩⟩ := hR
  unfold f_e_tear_x9 f_e_clear_x0 at ex
  unfold f_m_tear at em
  cases ex; cases em
  exact ⟨rfl, ⟨TX_of hX (pk_un (by decide)) (pk_un (by decide)), TN_of hN (fun k a b => pk_un (by omega)), ⟨pk_us.symm, h2, h3⟩⟩, DY_of hD hG (fun x _ => rfl) (fun k a b => pk_un (by omega))⟩
theorem R_seed {v_ rx x0 ry : Int32} {y0 : Nat → Int32} (hG : GI G) (hD : DY q10 q12 p1 p2 fn fsh fim fis f1 G w) (ex : (rx, x0) = f_e_seed_x9 q1 q2 q10 q12 v_) (em : (ry, y0) = f_m_seed w v_) : rx = ry ∧ DY q10 x0 p1 p2 fn fsh fim fis f1 G y0 := by
  have hD0 := hD
  obtain ⟨⟨hS, hB, rfl⟩, hU, hI⟩ := hD
  unfold f_e_seed_x9 at ex
  unfold f_m_seed at em
  by_cases c : 0 ≤ v_
  · rw [if_pos c] at ex em
    cases ex; cases em
    refine ⟨rfl, ⟨ST_off hS (by decide), BI_m hB (Or.inr (by decide)), pk_us.symm⟩, UR_of hU hG (fun x h _ => pk_un ?_) rfl rfl rfl rfl rfl, IR_of hI (fun x h _ => pk_un ?_) rfl rfl rfl rfl⟩
    · show x ≠ 41
      omega
    · show x ≠ 41
      omega
  · rw [if_neg c] at ex em
    cases ex; cases em
    exact ⟨rfl, hD0⟩
theorem R_undo {rx x0 ry : Int32} {x1 y0 y1 : Nat → Int32} (hG : GI G) (hR : RS q1 q2 ftx f13 t0 t1 t2 t3 t4 fta ftb ftc ftd fte f8 f9 f10 f11 f12 b0 fba fbb f43 f44 G) (hD : DY q10 q12 p1 p2 fn fsh fim fis f1 G w) (ex : (rx, x0, x1) = f_e_undo_x9 q1 q2 q10 q12 p1 p2 fsh fn) (em : (ry, y0, y1) = f_m_undo G w) : rx = ry ∧ RS q1 q2 ftx f13 t0 t1 t2 t3 t4 fta ftb ftc ftd fte f8 f9 f10 f11 f12 b0 fba fbb f43 f44 y0 ∧ DY q10 q12 p1 x0 x1 fsh fim fis f1 y0 y1 := by
  have hD0 := hD
  obtain ⟨⟨hS, hB, rfl⟩, ⟨rfl, u2, u3, u4⟩, hI⟩ := hD
  have g0 := hG.1
  unfold f_e_undo_x9 at ex
  unfold f_m_undo at em
  by_cases c : G 2 = 0
  · rw [if_pos c] at ex em
    cases ex; cases em
    exact ⟨rfl, hR, hD0⟩
  · have c' : 0 < (G 2).toInt := by
      rw [i_eq, i_0] at c
      omega
    have e1 := i_sub (a := G 2) (b := 1) (by rw [i_1]; omega) (by rw [i_1]; omega)
    rw [i_1] at e1
    have x42 : (42 : Int32).toInt = 42 := rfl
    have x462 : (462 : Int32).toInt = 462 := rfl
    have em1 := i_mulc (a := 42) (k := 42) (b := G 2 - 1) rfl (by omega) (by omega)
    have ea := i_add (a := 462) (b := 42 * (G 2 - 1)) (by omega) (by omega)
    rw [em1, x462, e1] at ea
    have eg := clI (c := G 2 - 1) (by omega)
    have eN : (462 + 42 * (G 2 - 1) : Int32).toNatClampNeg = 462 + 42 * (G 2 - 1).toNatClampNeg := by
      rw [i_clamp, i_clamp, ea, e1]
      omega
    have cs := copy_spec (fr := 462 + 42 * (G 2 - 1)) (to := 0) w (by omega) (by omega) (by decide) (by decide) (by rw [i_0, ea]; omega)
    have n0 : (0 : Int32).toNatClampNeg = 0 := rfl
    rw [eN, n0, i_0] at cs
    generalize hC : f_m_copy w (462 + 42 * (G 2 - 1)) 0 = C at em cs
    have a2 := i_add (a := p1) (b := G 2 - 1) (by omega) (by omega)
    have s2 := mod20 (x := p1 + (G 2 - 1)) (by omega) (by omega)
    have et : f_e_takeBack_x2 p1 (G 2) fsh fn = (G 2 - 1, f_e_fetch20 fsh fn ((p1 + (G 2 - 1)) - (p1 + (G 2 - 1)) / 20 * 20)) := by
      unfold f_e_takeBack_x2
      rw [if_neg (by rw [i_le, i_0]; omega)]
    rw [if_neg c, et] at ex
    generalize hs : (p1 + (G 2 - 1)) - (p1 + (G 2 - 1)) / 20 * 20 = sl at s2 ex
    have es := clI (c := sl) (by omega)
    have ep := clI u2
    have ft := fetch_spec (fsh := fsh) (fn := fn) (i := sl) (by omega) (by omega)
    rw [if_neg c] at em
    cases ex; cases em
    obtain ⟨z1, z2⟩ := u4 (G 2 - 1).toNatClampNeg (by omega)
    have hsl : (p1.toNatClampNeg + (G 2 - 1).toNatClampNeg) % 20 = sl.toNatClampNeg := by omega
    rw [hsl] at z1
    have v : ∀ x, x ≠ 41 → (upd C (41 : Int32).toNatClampNeg (w (41 : Int32).toNatClampNeg)) x = C x := fun x hx => pk_un hx
    have lo : ∀ k, k < 41 → (upd C (41 : Int32).toNatClampNeg (w (41 : Int32).toNatClampNeg)) (0 + k) = w (462 + 42 * (G 2 - 1).toNatClampNeg + k) := by
      intro k hk
      rw [Nat.zero_add, v k (by omega)]
      have := cs.1 k (by omega)
      rw [Nat.zero_add] at this
      exact this
    have hi : ∀ x, 42 ≤ x → (upd C (41 : Int32).toNatClampNeg (w (41 : Int32).toNatClampNeg)) x = w x := by
      intro x hx
      rw [v x (by omega), cs.2 x (by omega)]
    refine ⟨?_, RS_of hR (fun k h _ => pk_un (by omega)), ⟨fun k hk => ?_, BI_of z2 lo (pk_un (by decide)) (pk_un (by decide)) (pk_un (by decide)) (pk_un (by decide)), ?_⟩, ⟨pk_us.symm, u2, u3, fun i hh => ?_⟩, IR_of hI (fun x h _ => hi x (by omega)) (pk_un (by decide)) (pk_un (by decide)) (pk_un (by decide)) (pk_un (by decide))⟩
    · rw [pk_us]
    · have := cx_lt hk
      rw [Nat.zero_add, ft k hk, z1 k hk, lo _ this]
    · show w 41 = upd C 41 (w 41) 41
      rw [pk_us]
    · rw [pk_us] at hh
      obtain ⟨y1, y2⟩ := u4 i (by omega)
      exact ⟨ST_of y1 (fun k hk => hi _ (by omega)), BI_of y2 (fun k hk => hi _ (by omega)) (pk_un (by decide)) (pk_un (by decide)) (pk_un (by decide)) (pk_un (by decide))⟩
theorem img {i : Int32} (hi : i = 0 ∨ i = 1) : 0 ≤ i.toInt ∧ i.toInt < 2 ∧ (378 + 42 * i : Int32).toInt = 378 + 42 * (i.toNatClampNeg : Int) ∧ (378 + 42 * i : Int32).toNatClampNeg = 378 + 42 * i.toNatClampNeg ∧ i.toNatClampNeg < 2 := by
  rcases hi with rfl | rfl
  · decide
  · decide
theorem two {i : Int32} (h0 : 0 ≤ i.toInt) (h1 : i.toInt ≤ 1) : i = 0 ∨ i = 1 := by
  simp only [i_eq, Int32.reduceToInt]
  omega
theorem R_keep {i_ rx x0 x3 ry : Int32} {x1 x2 y0 y1 y2 : Nat → Int32} (hG : GI G) (hR : RS q1 q2 ftx f13 t0 t1 t2 t3 t4 fta ftb ftc ftd fte f8 f9 f10 f11 f12 b0 fba fbb f43 f44 G) (hD : DY q10 q12 p1 p2 fn fsh fim fis f1 G w) (ex : (rx, x0, x1, x2, x3) = f_e_keep_x9 q1 q2 q10 q12 fim fis fn p1 p2 i_) (em : (ry, y0, y1, y2) = f_m_keep G w f1 i_) : rx = ry ∧ RS q1 q2 ftx f13 t0 t1 t2 t3 t4 fta ftb ftc ftd fte f8 f9 f10 f11 f12 b0 fba fbb f43 f44 y0 ∧ DY x0 q12 p1 x3 fn fsh x1 x2 y2 y0 y1 := by
  have hD0 := hD
  obtain ⟨⟨hS, hB, rfl⟩, ⟨rfl, u2, u3, u4⟩, hI⟩ := hD
  unfold f_e_keep_x9 at ex
  unfold f_m_keep at em
  by_cases c1 : f_m_in i_.toInt64 0 1 = 0
  · rw [if_pos c1] at em
    rw [i_in, Int32.toInt_toInt64] at c1
    simp only [Int64.reduceToInt] at c1
    by_cases c2 : i_ < 0
    · rw [if_pos c2] at ex
      cases ex; cases em
      exact ⟨rfl, hR, hD0⟩
    · rw [if_neg c2] at ex
      have c3 : ¬ i_ < 2 := by
        simp only [i_lt, Int32.reduceToInt] at c2 ⊢
        omega
      rw [if_neg c3] at ex
      cases ex; cases em
      exact ⟨rfl, hR, hD0⟩
  · rw [if_neg c1] at em
    rw [i_in, Int32.toInt_toInt64] at c1
    simp only [Int64.reduceToInt] at c1
    have c2 : ¬ i_ < 0 := by
      simp only [i_lt, Int32.reduceToInt]
      omega
    have c3 : i_ < 2 := by
      simp only [i_lt, Int32.reduceToInt]
      omega
    rw [if_neg c2, if_pos c3] at ex
    have hi := two (i := i_) (by omega) (by omega)
    obtain ⟨j0, j1, j2, j3, j4⟩ := img hi
    have cs := copy_spec (fr := 0) (to := 378 + 42 * i_) w (by decide) (by decide) (by omega) (by omega) (by rw [i_0]; omega)
    have n0 : (0 : Int32).toNatClampNeg = 0 := rfl
    rw [j3, n0, j2] at cs
    have st := store2_spec (fsh := fim) (fn := fn) (i := i_) j0 j1
    have hp := put_in (n := 2) (f := fis) (x := w 41) j0 j1
    unfold f_e_forget_x2 at ex
    rw [hp] at ex
    generalize f_m_copy w 0 (378 + 42 * i_) = C at em cs
    have lo : ∀ x, x < 42 ∨ 462 ≤ x → C x = w x := fun x hx => cs.2 x (by omega)
    cases ex; cases em
    refine ⟨rfl, RS_of hR (fun k h _ => pk_un (by omega)), ⟨ST_of hS (fun k hk => by rw [Nat.zero_add]; exact lo k (by omega)), BI_of hB (fun k hk => by rw [Nat.zero_add]; exact lo k (by omega)) (pk_un (by decide)) (pk_un (by decide)) (pk_un (by decide)) (pk_un (by decide)), (lo 41 (by decide)).symm⟩, UR_nil (G := G) u2 u3 pk_us, (bit_or _ i_ i_ hI.1 hi hi).1, fun j hj => ?_⟩
    obtain ⟨l0, l1, l2, l3, l4⟩ := img hj
    by_cases q : j = i_
    · subst q
      have nz : vp_nar .boolean 1 = 1 := rfl
      refine ⟨?_, fun _ => ⟨fun k hk => ?_, ?_, ?_⟩⟩
      · rw [(bit_or _ j j hI.1 hi hi).2, pk_us, nz]
        exact ⟨fun z => absurd rfl z.1, fun z => absurd z (by decide)⟩
      · have := cx_lt hk
        have h0 := hS k hk
        rw [Nat.zero_add, Nat.zero_add] at h0
        rw [st.1 k hk, h0, cs.1 (cx k) (by omega), Nat.zero_add]
      · rw [pk_us, cs.1 41 (by decide), Nat.zero_add]
      · exact BI_of hB (fun k hk => cs.1 k (by omega)) (pk_un (by decide)) (pk_un (by decide)) (pk_un (by decide)) (pk_un (by decide))
    · have qn : j.toNatClampNeg ≠ i_.toNatClampNeg := fun z => q (cl_inj l0 j0 z)
      obtain ⟨k1, k2⟩ := hI.2 j hj
      refine ⟨?_, fun hh => ?_⟩
      · rw [(bit_or _ i_ j hI.1 hi hj).2, pk_un qn]
        exact ⟨fun z => k1.mp z.2, fun z => ⟨q, k1.mpr z⟩⟩
      · rw [pk_un qn] at hh
        obtain ⟨y1, y2, y3⟩ := k2 hh
        refine ⟨fun k hk => ?_, ?_, ?_⟩
        · have := cx_lt hk
          rw [st.2 _ k qn hk, y1 k hk, cs.2 _ (by omega)]
        · rw [pk_un qn, y2, cs.2 _ (by omega)]
        · exact BI_of y3 (fun k hk => cs.2 _ (by omega)) (pk_un (by decide)) (pk_un (by decide)) (pk_un (by decide)) (pk_un (by decide))
theorem R_goBack {i_ rx x0 x2 ry : Int32} {x1 y0 y1 : Nat → Int32} (hG : GI G) (hR : RS q1 q2 ftx f13 t0 t1 t2 t3 t4 fta ftb ftc ftd fte f8 f9 f10 f11 f12 b0 fba fbb f43 f44 G) (hD : DY q10 q12 p1 p2 fn fsh fim fis f1 G w) (ex : (rx, x0, x1, x2) = f_e_goBack_x9 q1 q2 q10 q12 fim fis fn p1 p2 i_) (em : (ry, y0, y1) = f_m_goBack G w f1 i_) : rx = ry ∧ RS q1 q2 ftx f13 t0 t1 t2 t3 t4 fta ftb ftc ftd fte f8 f9 f10 f11 f12 b0 fba fbb f43 f44 y0 ∧ DY q10 x0 p1 x2 x1 fsh fim fis f1 y0 y1 := by
  have hD0 := hD
  obtain ⟨⟨hS, hB, rfl⟩, ⟨rfl, u2, u3, u4⟩, hI⟩ := hD
  unfold f_e_goBack_x9 at ex
  unfold f_m_goBack at em
  by_cases c1 : f_m_in i_.toInt64 0 1 = 0
  · rw [if_pos c1] at em
    rw [i_in, Int32.toInt_toInt64] at c1
    simp only [Int64.reduceToInt] at c1
    by_cases c2 : i_ < 0
    · rw [if_pos c2] at ex
      cases ex; cases em
      exact ⟨rfl, hR, hD0⟩
    · rw [if_neg c2] at ex
      have c3 : ¬ i_ < 2 := by
        simp only [i_lt, Int32.reduceToInt] at c2 ⊢
        omega
      rw [if_neg c3] at ex
      cases ex; cases em
      exact ⟨rfl, hR, hD0⟩
  · rw [if_neg c1] at em
    rw [i_in, Int32.toInt_toInt64] at c1
    simp only [Int64.reduceToInt] at c1
    have c2 : ¬ i_ < 0 := by
      simp only [i_lt, Int32.reduceToInt]
      omega
    have c3 : i_ < 2 := by
      simp only [i_lt, Int32.reduceToInt]
      omega
    rw [if_neg c2, if_pos c3] at ex
    have hi := two (i := i_) (by omega) (by omega)
    obtain ⟨j0, j1, j2, j3, j4⟩ := img hi
    obtain ⟨k1, k2⟩ := hI.2 i_ hi
    by_cases c4 : f1 i_.toNatClampNeg = 0
    · rw [if_pos c4] at em
      rw [if_pos (k1.mpr c4)] at ex
      cases ex; cases em
      exact ⟨rfl, hR, hD0⟩
    · rw [if_neg c4] at em
      rw [if_neg (fun z => c4 (k1.mp z))] at ex
      obtain ⟨y1, y2, y3⟩ := k2 c4
      have cs := copy_spec (fr := 378 + 42 * i_) (to := 0) w (by omega) (by omega) (by decide) (by decide) (by rw [i_0]; omega)
      have n0 : (0 : Int32).toNatClampNeg = 0 := rfl
      rw [j3, n0, i_0] at cs
      have ft := fetch2_spec (fsh := fim) (fn := fn) (i := i_) j0 j1
      have ha := at_in (n := 2) (f := fis) j0 j1
      unfold f_e_forget_x2 at ex
      rw [ha] at ex
      generalize f_m_copy w (378 + 42 * i_) 0 = C at em cs
      have lo : ∀ k, k < 42 → C (0 + k) = w (378 + 42 * i_.toNatClampNeg + k) := fun k hk => cs.1 k hk
      cases ex; cases em
      refine ⟨rfl, RS_of hR (fun k h _ => pk_un (by omega)), ⟨fun k hk => ?_, BI_of y3 (fun k hk => lo k (by omega)) (pk_un (by decide)) (pk_un (by decide)) (pk_un (by decide)) (pk_un (by decide)), ?_⟩, UR_nil (G := G) u2 u3 pk_us, IR_of hI (fun x h _ => cs.2 x (by omega)) (pk_un (by decide)) (pk_un (by decide)) (pk_un (by decide)) (pk_un (by decide))⟩
      · have := cx_lt hk
        rw [Nat.zero_add, ft k hk, y1 k hk, lo _ (by omega)]
      · have := lo 41 (by decide)
        rw [Nat.zero_add] at this
        rw [this]
        exact y2
theorem R_send {c_ b_ e_ rx x1 x2 ry : Int32} {x0 x3 y0 y1 : Nat → Int32} (hG : GI G) (hR : RS q1 q2 ftx f13 t0 t1 t2 t3 t4 fta ftb ftc ftd fte f8 f9 f10 f11 f12 b0 fba fbb f43 f44 G) (hD : DY q10 q12 p1 p2 fn fsh fim fis f1 G w) (ex : (rx, x0, x1, x2, x3) = f_e_send_x9 q1 q2 q10 q12 t0 t1 t2 t3 t4 fn p1 p2 fsh c_ b_ e_) (em : (ry, y0, y1) = f_m_send G w c_ b_ e_) : rx = ry ∧ RS q1 q2 ftx f13 t0 t1 t2 t3 t4 fta ftb ftc ftd fte f8 f9 f10 f11 f12 b0 fba fbb f43 f44 y0 ∧ DY q10 q12 x1 x2 x0 x3 fim fis f1 y0 y1 := by
  have hR0 := hR
  have hD0 := hD
  obtain ⟨hX, ⟨et0, et1, et2, _⟩, hK⟩ := hR
  obtain ⟨⟨hS, hB, hq⟩, hU, hI⟩ := hD
  unfold f_e_send_x9 at ex
  rw [et0, et1, et2] at ex
  unfold f_m_send at em
  by_cases c1 : f_m_isCouple G c_ = 0
  · rw [if_pos c1] at em
    rw [if_pos ((q_couple hG _ _ _ _ _).mpr c1)] at ex
    cases ex; cases em
    exact ⟨rfl, hR0, hD0⟩
  rw [if_neg c1] at em
  rw [if_neg (fun q => c1 ((q_couple hG _ _ _ _ _).mp q))] at ex
  by_cases c2 : f_m_isBridge G b_ = 0
  · rw [if_pos c2] at em
    rw [if_pos ((q_bridge hG _ _ _ _ _).mpr c2)] at ex
    cases ex; cases em
    exact ⟨rfl, hR0, hD0⟩
  rw [if_neg c2] at em
  rw [if_neg (fun q => c2 ((q_bridge hG _ _ _ _ _).mp q))] at ex
  by_cases c3 : f_m_isTheme G e_ = 0
  · rw [if_pos c3] at em
    rw [if_pos ((q_theme hG _ _ _ _ _).mpr c3)] at ex
    cases ex; cases em
    exact ⟨rfl, hR0, hD0⟩
  rw [if_neg c3] at em
  rw [if_neg (fun q => c3 ((q_theme hG _ _ _ _ _).mp q))] at ex
  obtain ⟨a0, a1, a2⟩ := l_couple hG c1
  obtain ⟨b0', b1', b2'⟩ := l_bridge hG c2
  obtain ⟨e0, e1, e2⟩ := l_theme hG c3
  have x6 : (6 + c_ : Int32).toNatClampNeg = 6 + c_.toNatClampNeg := sN (a := 6) (x := 6) (y := 6) rfl a0 a2 (by decide)
  have x12 : (12 + c_ : Int32).toNatClampNeg = 12 + c_.toNatClampNeg := sN (a := 12) (x := 12) (y := 6) rfl a0 a2 (by decide)
  have hn := clN (n := 6) a0 a2
  have hi := clI a0
  rw [e_done hS, at_eq hS hG hB b0'] at ex
  rw [x6, x12] at em
  have fin : (∀ d : Nat, d < 6 → d ≠ c_.toNatClampNeg → w (6 + d) = b_ → b_ = -1) → ∀ (s1 s2 : Int32) (gsh H u : Nat → Int32), f_e_remember_x2 p1 p2 fsh fn = (s1, s2, gsh) → f_m_minds G w = (H, u) → (rx, x0, x1, x2, x3) = (f_e_bridgeOf fn c_, f_e_turnTo (f_e_place fn c_ b_) c_ e_, s1, s2, gsh) → (ry, y0, y1) = (u (6 + c_.toNatClampNeg), H, upd (upd u (6 + c_.toNatClampNeg) b_) (12 + c_.toNatClampNeg) e_) → rx = ry ∧ RS q1 q2 ftx f13 t0 t1 t2 t3 t4 fta ftb ftc ftd fte f8 f9 f10 f11 f12 b0 fba fbb f43 f44 y0 ∧ DY q10 q12 x1 x2 x0 x3 fim fis f1 y0 y1 := by
    intro huq s1 s2 gsh H u r1 r2 ex em
    obtain ⟨s1', s2', gsh', H', u', r1', r2', r3, r4, gH, sn, go⟩ := DY_go (q12' := q12) (fn' := f_e_turnTo (f_e_place fn c_ b_) c_ e_) hD0 hG
    rw [r1] at r1'
    rw [r2] at r2'
    cases r1'; cases r2'; cases ex; cases em
    refine ⟨?_, RS_of hR0 (fun k h _ => r3 k (by omega)), go _ (fun x hx => by rw [pk_un (by omega), pk_un (by omega)]) ⟨w_t (w_p sn.1 a0 a2) a0 a2, ?_, ?_⟩⟩
    · rw [e_p hS a0 a2, r4 _ (by omega)]
    · refine BI_t (BI_p sn.2.1 hn (by rw [r3 5 (by decide)]; omega) (by omega) (by rw [r3 3 (by decide)]; exact b1') (fun d hd hn' hw => ?_)) hn e0 (by rw [r3 4 (by decide)]; exact e1)
      rw [r4 _ (by omega)] at hw
      exact huq d hd hn' hw
    · rw [pk_un (by omega), pk_un (by omega)]
      exact sn.2.2
  by_cases c4 : f_m_isDone w c_ = 0
  · rw [if_pos c4] at ex em
    have wsp := who_spec (w := w) (b := b_) hG
    obtain ⟨bb1, bb2, bb3, bb4, bb5, bb6, bb7, bb8, bb9⟩ := hB
    simp only [Nat.zero_add] at bb2 bb4
    cases hr : f_e_remember_x2 p1 p2 fsh fn with
    | mk s1 z =>
      obtain ⟨s2, gsh⟩ := z
      cases hm : f_m_minds G w with
      | mk H u =>
        rw [hr] at ex
        rw [hm] at em
        dsimp (config := { etaStruct := .none }) only at ex em
        by_cases c5 : f_m_whoIsAt G w 0 b_ = -1
        · rw [if_pos c5] at ex em
          refine fin (fun d hd _ hw => ?_) s1 s2 gsh H u hr hm ex em
          rcases wsp with ⟨_, q⟩ | ⟨q, _⟩
          · by_cases z : (d : Int) < (G 5).toInt
            · exact absurd hw (q d z)
            · rw [← hw]
              exact (bb2 d hd (by omega)).2
          · rw [c5, i_m1] at q
            omega
        · rw [if_neg c5] at ex em
          by_cases c6 : f_m_whoIsAt G w 0 b_ = c_
          · rw [if_pos c6] at ex em
            refine fin (fun d hd hne hw => ?_) s1 s2 gsh H u hr hm ex em
            rcases wsp with ⟨q, _⟩ | ⟨_, _, q⟩
            · exact absurd q c5
            · rw [c6] at q
              have := bb4 d c_.toNatClampNeg hd hn hne (by rw [hw, q])
              rw [← hw]
              exact this
          · rw [if_neg c6] at ex em
            cases ex; cases em
            exact ⟨rfl, hR0, hD0⟩
  · rw [if_neg c4] at ex em
    cases ex; cases em
    exact ⟨rfl, hR0, hD0⟩
theorem R_home {c_ rx x1 x2 ry : Int32} {x0 x3 y0 y1 : Nat → Int32} (hG : GI G) (hR : RS q1 q2 ftx f13 t0 t1 t2 t3 t4 fta ftb ftc ftd fte f8 f9 f10 f11 f12 b0 fba fbb f43 f44 G) (hD : DY q10 q12 p1 p2 fn fsh fim fis f1 G w) (ex : (rx, x0, x1, x2, x3) = f_e_home_x9 q1 q2 q10 q12 t0 t1 t2 t3 t4 fn p1 p2 fsh c_) (em : (ry, y0, y1) = f_m_home G w c_) : rx = ry ∧ RS q1 q2 ftx f13 t0 t1 t2 t3 t4 fta ftb ftc ftd fte f8 f9 f10 f11 f12 b0 fba fbb f43 f44 y0 ∧ DY q10 q12 x1 x2 x0 x3 fim fis f1 y0 y1 := by
  have hR0 := hR
  have hD0 := hD
  obtain ⟨hX, ⟨rfl, rfl, rfl, _⟩, hK⟩ := hR
  obtain ⟨⟨hS, hB, hq⟩, hU, hI⟩ := hD
  unfold f_e_home_x9 at ex
  unfold f_m_home at em
  by_cases c1 : f_m_isCouple G c_ = 0
  · rw [if_pos c1] at em
    rw [if_pos ((q_couple hG _ _ _ _ _).mpr c1)] at ex
    cases ex; cases em
    exact ⟨rfl, hR0, hD0⟩
  rw [if_neg c1] at em
  rw [if_neg (fun q => c1 ((q_couple hG _ _ _ _ _).mp q))] at ex
  obtain ⟨a0, a1, a2⟩ := l_couple hG c1
  have x6 : (6 + c_ : Int32).toNatClampNeg = 6 + c_.toNatClampNeg := sN (a := 6) (x := 6) (y := 6) rfl a0 a2 (by decide)
  have hn := clN (n := 6) a0 a2
  have hi := clI a0
  rw [e_p hS a0 a2] at ex
  rw [x6] at em
  by_cases c2 : w (6 + c_.toNatClampNeg) = -1
  · rw [if_pos c2] at ex em
    cases ex; cases em
    exact ⟨rfl, hR0, hD0⟩
  rw [if_neg c2] at ex em
  obtain ⟨s1, s2, gsh, H, u, r1, r2, r3, r4, gH, sn, go⟩ := DY_go (q12' := q12) (fn' := f_e_place fn c_ (-1)) hD0 hG
  rw [r1] at ex
  rw [r2] at em
  cases ex; cases em
  have g3 := gH.2.1.1
  refine ⟨rfl, RS_of hR0 (fun k h _ => r3 k (by omega)), go _ (fun x hx => by rw [pk_un (by omega)]) ⟨w_p sn.1 a0 a2, ?_, ?_⟩⟩
  · exact BI_p sn.2.1 hn (by rw [r3 5 (by decide)]; omega) (by rw [i_m1]; omega) (by rw [i_m1]; omega) (fun d _ _ _ => rfl)
  · rw [pk_un (by omega)]
    exact sn.2.2
theorem emb {g v : Int32} : (if g + v < 99 then g + v else 99) = (if g + v ≤ 99 then g + v else 99) := by
  by_cases c : g + v < 99
  · have d : g + v ≤ 99 := by
      rw [i_lt] at c
      rw [i_le]
      omega
    rw [if_pos c, if_pos d]
  · rw [if_neg c]
    by_cases d : g + v ≤ 99
    · rw [if_pos d]
      rw [i_lt] at c
      rw [i_le] at d
      rw [i_eq]
      omega
    · rw [if_neg d]
theorem R_grieve {c_ v_ rx x1 x2 ry : Int32} {x0 x3 y0 y1 : Nat → Int32} (hG : GI G) (hR : RS q1 q2 ftx f13 t0 t1 t2 t3 t4 fta ftb ftc ftd fte f8 f9 f10 f11 f12 b0 fba fbb f43 f44 G) (hD : DY q10 q12 p1 p2 fn fsh fim fis f1 G w) (ex : (rx, x0, x1, x2, x3) = f_e_grieve_x9 q1 q2 q10 q12 t0 t1 t2 t3 t4 fn p1 p2 fsh c_ v_) (em : (ry, y0, y1) = f_m_grieve G w c_ v_) : rx = ry ∧ RS q1 q2 ftx f13 t0 t1 t2 t3 t4 fta ftb ftc ftd fte f8 f9 f10 f11 f12 b0 fba fbb f43 f44 y0 ∧ DY q10 q12 x1 x2 x0 x3 fim fis f1 y0 y1 := by
  have hR0 := hR
  have hD0 := hD
  obtain ⟨hX, ⟨rfl, rfl, rfl, _⟩, hK⟩ := hR
  obtain ⟨⟨hS, hB, hq⟩, hU, hI⟩ := hD
  unfold f_e_grieve_x9 at ex
  unfold f_m_grieve at em
  by_cases c1 : f_m_isCouple G c_ = 0
  · rw [if_pos c1] at em
    rw [if_pos ((q_couple hG _ _ _ _ _).mpr c1)] at ex
    cases ex; cases em
    exact ⟨rfl, hR0, hD0⟩
  rw [if_neg c1] at em
  rw [if_neg (fun q => c1 ((q_couple hG _ _ _ _ _).mp q))] at ex
  obtain ⟨a0, a1, a2⟩ := l_couple hG c1
  have hn := clN (n := 6) a0 a2
  have hi := clI a0
  by_cases c2 : f_m_in v_.toInt64 1 99 = 0
  · rw [if_pos c2] at em
    rw [i_in, Int32.toInt_toInt64] at c2
    simp only [Int64.reduceToInt] at c2
    by_cases c3 : v_ < 1
    · rw [if_pos c3] at ex
      cases ex; cases em
      exact ⟨rfl, hR0, hD0⟩
    · rw [if_neg c3] at ex
      have c4 : ¬ v_ ≤ 99 := by
        simp only [i_lt, i_le, Int32.reduceToInt] at c3 ⊢
        omega
      rw [if_neg c4] at ex
      cases ex; cases em
      exact ⟨rfl, hR0, hD0⟩
  rw [if_neg c2] at em
  rw [i_in, Int32.toInt_toInt64] at c2
  simp only [Int64.reduceToInt] at c2
  have c3 : ¬ v_ < 1 := by
    simp only [i_lt, Int32.reduceToInt]
    omega
  have c4 : v_ ≤ 99 := by
    simp only [i_le, Int32.reduceToInt]
    omega
  rw [if_neg c3, if_pos c4, e_done hS] at ex
  by_cases c5 : f_m_isDone w c_ = 0
  · rw [if_pos c5] at ex em
    obtain ⟨s1, s2, gsh, H, u, r1, r2, r3, r4, gH, sn, go⟩ := DY_go (q12' := q12) (fn' := f_e_embitter fn c_ v_) hD0 hG
    rw [r1] at ex
    rw [r2] at em
    dsimp (config := { etaStruct := .none }) only at ex em
    have ud : f_m_isDone u c_ = 0 := by
      have : f_m_isDone u c_ = f_m_isDone w c_ := by
        unfold f_m_isDone
        rw [r4 _ (by decide)]
      rw [this]
      exact c5
    have g1 := sn.2.1.1 c_.toNatClampNeg hn
    rw [Nat.zero_add] at g1
    have ea := i_add (a := u c_.toNatClampNeg) (b := v_) (by omega) (by omega)
    have egr : f_m_grieves u c_ v_ = upd u c_.toNatClampNeg (if u c_.toNatClampNeg + v_ ≤ 99 then u c_.toNatClampNeg + v_ else 99) := by
      unfold f_m_grieves
      rw [if_pos ud, ix0]
      by_cases z : u c_.toNatClampNeg + v_ ≤ 99
      · rw [if_pos z, if_pos z]
      · rw [if_neg z, if_neg z]
    have een : f_e_embitter fn c_ v_ = f_e_leave fn c_ (if u c_.toNatClampNeg + v_ ≤ 99 then u c_.toNatClampNeg + v_ else 99) := by
      unfold f_e_embitter
      rw [e_g sn.1 a0 a2, emb]
    have bx : 0 ≤ (if u c_.toNatClampNeg + v_ ≤ 99 then u c_.toNatClampNeg + v_ else 99).toInt ∧ (if u c_.toNatClampNeg + v_ ≤ 99 then u c_.toNatClampNeg + v_ else 99).toInt ≤ 99 := by
      by_cases z : u c_.toNatClampNeg + v_ ≤ 99
      · rw [if_pos z]
        rw [i_le] at z
        simp only [Int32.reduceToInt] at z
        omega
      · rw [if_neg z]
        decide
    rw [een] at ex go
    rw [egr, ix0] at em
    generalize (if u c_.toNatClampNeg + v_ ≤ 99 then u c_.toNatClampNeg + v_ else 99) = X at ex em bx go
    have sg := w_g (x := X) sn.1 a0 a2
    rw [e_g sg a0 a2] at ex
    cases ex; cases em
    refine ⟨rfl, RS_of hR0 (fun k h _ => r3 k (by omega)), go _ (fun x hx => by rw [pk_un (by omega)]) ⟨sg, ?_, ?_⟩⟩
    · refine BI_g sn.2.1 a0 a2 (by rw [r3 5 (by decide)]; exact a1) bx.1 bx.2 (fun hh => ?_)
      exact absurd ud hh
    · rw [pk_un (by omega)]
      exact sn.2.2
  · rw [if_neg c5] at ex em
    cases ex; cases em
    exact ⟨rfl, hR0, hD0⟩
end
