section
/-! what the calls answer, side by side: what is told -/
section
variable {q1 q2 q10 q12 t0 t1 t2 t3 t4 p1 p2 b0 : Int32} {ftx fta ftb ftc ftd fte fn fsh fim fis fba fbb G w f1 f8 f9 f10 f11 f12 f13 f43 f44 : Nat → Int32}
theorem A_fault {rx ry : Int32} (hG : GI G) (hW : WI w) (hR : RS q1 q2 ftx f13 t0 t1 t2 t3 t4 fta ftb ftc ftd fte f8 f9 f10 f11 f12 b0 fba fbb f43 f44 G) (hD : DY q10 q12 p1 p2 fn fsh fim fis f1 G w) (ex : rx = f_e_fault_x9 q1 q2 q10 q12) (em : ry = f_m_fault G) : rx = ry := by
  rw [ex, em]
  exact hR.1.2.2
theorem A_bridge {b_ w_ rx ry : Int32} (hG : GI G) (hW : WI w) (hR : RS q1 q2 ftx f13 t0 t1 t2 t3 t4 fta ftb ftc ftd fte f8 f9 f10 f11 f12 b0 fba fbb f43 f44 G) (hD : DY q10 q12 p1 p2 fn fsh fim fis f1 G w) (ex : rx = f_e_bridge_x9 q1 q2 q10 q12 t0 t1 t2 t3 t4 fta fn b_ w_) (em : ry = f_m_bridge G w f8 b_ w_) : rx = ry := by
  obtain ⟨hX, ⟨et0, et1, et2, et3, et4, n4, n7, nA, nB, nF, nD, nE⟩, hK⟩ := hR
  obtain ⟨⟨hS, hB, hq⟩, hU, hI⟩ := hD
  unfold f_e_bridge_x9 at ex
  unfold f_m_bridge at em
  rw [et0] at ex
  rw [ex, em]
  by_cases c1 : f_m_isBridge G b_ = 0
  · rw [if_pos c1, if_pos ((q_bridge hG _ _ _ _ _).mpr c1)]
  · obtain ⟨a0, a1, a2⟩ := l_bridge hG c1
    rw [if_neg c1, if_neg (fun q => c1 ((q_bridge hG _ _ _ _ _).mp q)), at_eq hS hG hB a0, at_in a0 a2, (nA b_.toNatClampNeg (by rw [clI a0]; exact a1)).1]
theorem A_couple {c_ w_ rx ry : Int32} (hG : GI G) (hW : WI w) (hR : RS q1 q2 ftx f13 t0 t1 t2 t3 t4 fta ftb ftc ftd fte f8 f9 f10 f11 f12 b0 fba fbb f43 f44 G) (hD : DY q10 q12 p1 p2 fn fsh fim fis f1 G w) (ex : rx = f_e_couple_x9 q1 q2 q10 q12 t0 t1 t2 t3 t4 ftb fn c_ w_) (em : ry = f_m_couple G w f9 c_ w_) : rx = ry := by
  obtain ⟨hX, ⟨et0, et1, et2, et3, et4, n4, n7, nA, nB, nF, nD, nE⟩, hK⟩ := hR
  obtain ⟨⟨hS, hB, hq⟩, hU, hI⟩ := hD
  unfold f_e_couple_x9 at ex
  unfold f_m_couple at em
  rw [et2] at ex
  rw [ex, em]
  by_cases c1 : f_m_isCouple G c_ = 0
  · rw [if_pos c1, if_pos ((q_couple hG _ _ _ _ _).mpr c1)]
  · obtain ⟨a0, a1, a2⟩ := l_couple hG c1
    have x6 : (6 + c_ : Int32).toNatClampNeg = 6 + c_.toNatClampNeg := sN (a := 6) (x := 6) (y := 6) rfl a0 a2 (by decide)
    have x12 : (12 + c_ : Int32).toNatClampNeg = 12 + c_.toNatClampNeg := sN (a := 12) (x := 12) (y := 6) rfl a0 a2 (by decide)
    rw [if_neg c1, if_neg (fun q => c1 ((q_couple hG _ _ _ _ _).mp q)), e_g hS a0 a2, e_p hS a0 a2, e_t hS a0 a2, e_done hS, at_in a0 a2, (nB c_.toNatClampNeg (by rw [clI a0]; exact a1)).1, x6, x12, ix0]
theorem A_force {c_ e_ rx ry : Int32} (hG : GI G) (hW : WI w) (hR : RS q1 q2 ftx f13 t0 t1 t2 t3 t4 fta ftb ftc ftd fte f8 f9 f10 f11 f12 b0 fba fbb f43 f44 G) (hD : DY q10 q12 p1 p2 fn fsh fim fis f1 G w) (ex : rx = f_e_force_x9 q1 q2 q10 q12 t0 t1 t2 t3 t4 ftc c_ e_) (em : ry = f_m_force G f10 c_ e_) : rx = ry := by
  obtain ⟨hX, ⟨et0, et1, et2, et3, et4, n4, n7, nA, nB, nF, nD, nE⟩, hK⟩ := hR
  unfold f_e_force_x9 f_e_forceOf_x8 at ex
  unfold f_m_force at em
  rw [et1, et2] at ex
  rw [ex, em]
  by_cases c1 : f_m_isCouple G c_ = 0
  · rw [if_pos c1, if_pos ((q_couple hG _ _ _ _ _).mpr c1)]
  · obtain ⟨a0, a1, a2⟩ := l_couple hG c1
    rw [if_neg c1, if_neg (fun q => c1 ((q_couple hG _ _ _ _ _).mp q))]
    by_cases c2 : f_m_isTheme G e_ = 0
    · rw [if_pos c2, if_pos ((q_theme hG _ _ _ _ _).mpr c2)]
    · obtain ⟨b0', b1, b2⟩ := l_theme hG c2
      rw [if_neg c2, if_neg (fun q => c2 ((q_theme hG _ _ _ _ _).mp q))]
      exact (force_in (fta := fta) (f8 := f8) ⟨n7, nA, nF⟩ a0 a1 a2 b0' b1 b2).2.1
theorem A_barge {v_ w_ rx ry : Int32} (hG : GI G) (hW : WI w) (hR : RS q1 q2 ftx f13 t0 t1 t2 t3 t4 fta ftb ftc ftd fte f8 f9 f10 f11 f12 b0 fba fbb f43 f44 G) (hD : DY q10 q12 p1 p2 fn fsh fim fis f1 G w) (ex : rx = f_e_barge_x9 q1 q2 q10 q12 t0 t1 t2 t3 t4 ftd fte fn v_ w_) (em : ry = f_m_barge G w f11 f12 v_ w_) : rx = ry := by
  obtain ⟨hX, ⟨et0, et1, et2, et3, et4, n4, n7, nA, nB, nF, nD, nE⟩, hK⟩ := hR
  obtain ⟨⟨hS, hB, hq⟩, hU, hI⟩ := hD
  unfold f_e_barge_x9 at ex
  unfold f_m_barge at em
  rw [et3] at ex
  rw [ex, em]
  by_cases c1 : f_m_isBarge G v_ = 0
  · rw [if_pos c1, if_pos ((q_barge hG _ _ _ _ _).mpr c1)]
  · obtain ⟨a0, a1, a2⟩ := l_barge hG c1
    have x20 : (20 + v_ : Int32).toNatClampNeg = 20 + v_.toNatClampNeg := sN (a := 20) (x := 20) (y := 7) rfl a0 a2 (by decide)
    have x27 : (27 + v_ : Int32).toNatClampNeg = 27 + v_.toNatClampNeg := sN (a := 27) (x := 27) (y := 7) rfl a0 a2 (by decide)
    have x34 : (34 + v_ : Int32).toNatClampNeg = 34 + v_.toNatClampNeg := sN (a := 34) (x := 34) (y := 7) rfl a0 a2 (by decide)
    rw [if_neg c1, if_neg (fun q => c1 ((q_barge hG _ _ _ _ _).mp q)), e_fate hS a0 a2, e_lying hS a0 a2, e_passed hS a0 a2, at_in a0 a2, at_in a0 a2, (nD v_.toNatClampNeg (by rw [clI a0]; exact a1)).1, (nE v_.toNatClampNeg (by rw [clI a0]; exact a1)).1, x20, x27, x34]
theorem fate_end {k : Int32} (hS : ST fn w 0 0) (hB : BI G w 0) (hk : k ≠ 0) : ∀ (n : Nat) (i s : Int32), 0 ≤ i.toInt → (G 6).toInt ≤ i.toInt → i.toInt ≤ 7 → (f_e_bargesOfFate_4 fn k n i s).2 = s := by
  intro n
  induction n with
  | zero => intro i s h0 h1 h2; rfl
  | succ n ih =>
    intro i s h0 h1 h2
    rw [f_e_bargesOfFate_4_s]
    by_cases c : 7 ≤ i
    · rw [if_pos c]
    · rw [if_neg c]
      rw [i_le] at c
      simp only [Int32.reduceToInt] at c
      have e := i_a1 (a := i) (by omega) (by omega)
      have z := hB.2.2.2.2.2.2.2.1 i.toNatClampNeg (clN h0 (by omega)) (by rw [clI h0]; exact h1)
      rw [Nat.zero_add] at z
      rw [e_fate hS h0 (by omega), z, if_neg (fun q => hk q.symm), Int32.or_zero]
      exact ih (i + 1) s (by omega) (by omega) (by omega)
theorem fate_loop {k : Int32} (hG : GI G) (hS : ST fn w 0 0) (hB : BI G w 0) (hk : k ≠ 0) : ∀ (n m : Nat) (i s : Int32), 0 ≤ i.toInt → i.toInt ≤ (G 6).toInt → 7 - i.toInt < n → (G 6).toInt - i.toInt < m → (f_e_bargesOfFate_4 fn k n i s).2 = (f_m_bargesThat_4 G w k m i s).2 := by
  have g7 := hG.2.2.2.2.1.2
  intro n
  induction n with
  | zero => intro m i s h0 h1 h2; omega
  | succ n ih =>
    intro m i s h0 h1 h2 h3
    cases m with
    | zero => omega
    | succ m =>
      by_cases c : G 6 ≤ i
      · rw [f_m_bargesThat_4_s, if_pos c]
        rw [i_le] at c
        exact fate_end hS hB hk (n + 1) i s h0 c (by omega)
      · rw [f_m_bargesThat_4_s, if_neg c, f_e_bargesOfFate_4_s]
        rw [i_le] at c
        have e := i_a1 (a := i) (by omega) (by omega)
        have c7 : ¬ 7 ≤ i := by
          rw [i_le]
          simp only [Int32.reduceToInt]
          omega
        have x20 : (20 + i : Int32).toNatClampNeg = 20 + i.toNatClampNeg := sN (a := 20) (x := 20) (y := 7) rfl h0 (by omega) (by decide)
        rw [if_neg c7, e_fate hS h0 (by omega), x20]
        by_cases d : w (20 + i.toNatClampNeg) = k
        · rw [if_pos d, if_pos d]
          exact ih m (i + 1) _ (by omega) (by omega) (by omega) (by omega)
        · rw [if_neg d, if_neg d]
          exact ih m (i + 1) _ (by omega) (by omega) (by omega) (by omega)
theorem fate_eq {k : Int32} (hG : GI G) (hS : ST fn w 0 0) (hB : BI G w 0) (hk : k ≠ 0) : f_e_bargesOfFate fn k = f_m_bargesThat G w k := by
  have g := hG.2.2.2.2.1
  have h := fate_loop hG hS hB hk 8 (((G 6).toInt - (0 : Int32).toInt).toNat + 1) 0 0 (by decide) (by rw [i_0]; omega) (by decide) (by rw [i_0]; omega)
  unfold f_e_bargesOfFate f_m_bargesThat
  have e : ((7 : Int32).toInt - (0 : Int32).toInt).toNat + 1 = 8 := rfl
  rw [e]
  generalize f_e_bargesOfFate_4 fn k 8 0 0 = p at h
  generalize f_m_bargesThat_4 G w k _ 0 0 = q at h
  obtain ⟨p1', p2'⟩ := p
  obtain ⟨q1', q2'⟩ := q
  exact h
theorem gset_end {v : Int32} (hS : ST fn w 0 0) (hB : BI G w 0) : ∀ (n : Nat) (i s : Int32), 0 ≤ i.toInt → (G 5).toInt ≤ i.toInt → i.toInt ≤ 6 → (f_e_grievanceOfSet_4 fn v n i s).2 = s := by
  intro n
  induction n with
  | zero => intro i s h0 h1 h2; rfl
  | succ n ih =>
    intro i s h0 h1 h2
    rw [f_e_grievanceOfSet_4_s]
    by_cases c : 6 ≤ i
    · rw [if_pos c]
    · rw [if_neg c]
      rw [i_le] at c
      simp only [Int32.reduceToInt] at c
      have e := i_a1 (a := i) (by omega) (by omega)
      have z := (hB.2.1 i.toNatClampNeg (clN h0 (by omega)) (by rw [clI h0]; exact h1)).1
      rw [Nat.zero_add] at z
      rw [e_g hS h0 (by omega), z, Int32.mul_zero, Int32.add_zero]
      exact ih (i + 1) s (by omega) (by omega) (by omega)
theorem gset_loop {v : Int32} (hG : GI G) (hS : ST fn w 0 0) (hB : BI G w 0) : ∀ (n m : Nat) (i s : Int32), 0 ≤ i.toInt → i.toInt ≤ (G 5).toInt → 6 - i.toInt < n → (G 5).toInt - i.toInt < m → (f_e_grievanceOfSet_4 fn v n i s).2 = (f_m_griefOf_4 G w v m i s).2 := by
  have g7 := hG.2.2.2.1.2
  intro n
  induction n with
  | zero => intro m i s h0 h1 h2; omega
  | succ n ih =>
    intro m i s h0 h1 h2 h3
    cases m with
    | zero => omega
    | succ m =>
      by_cases c : G 5 ≤ i
      · rw [f_m_griefOf_4_s, if_pos c]
        rw [i_le] at c
        exact gset_end hS hB (n + 1) i s h0 c (by omega)
      · rw [f_m_griefOf_4_s, if_neg c, f_e_grievanceOfSet_4_s]
        rw [i_le] at c
        have e := i_a1 (a := i) (by omega) (by omega)
        have c7 : ¬ 6 ≤ i := by
          rw [i_le]
          simp only [Int32.reduceToInt]
          omega
        rw [if_neg c7, e_g hS h0 (by omega), ix0]
        unfold f_m_has
        rcases and1 (v >>> (i &&& 31)) with d | d
        · rw [if_neg (show ¬ (v >>> (i &&& 31)) &&& 1 = 1 by rw [d]; decide), if_pos rfl, d, Int32.zero_mul]
          exact ih m (i + 1) _ (by omega) (by omega) (by omega) (by omega)
        · rw [if_pos d, if_neg (show ¬ (1 : Int32) = 0 by decide), d, Int32.one_mul]
          exact ih m (i + 1) _ (by omega) (by omega) (by omega) (by omega)
theorem gset_eq {v : Int32} (hG : GI G) (hS : ST fn w 0 0) (hB : BI G w 0) : f_e_grievanceOfSet fn v = f_m_griefOf G w v := by
  have g := hG.2.2.2.1
  have h := gset_loop (v := v) hG hS hB 7 (((G 5).toInt - (0 : Int32).toInt).toNat + 1) 0 0 (by decide) (by rw [i_0]; omega) (by decide) (by rw [i_0]; omega)
  unfold f_e_grievanceOfSet f_m_griefOf
  have e : ((6 : Int32).toInt - (0 : Int32).toInt).toNat + 1 = 7 := rfl
  rw [e]
  generalize f_e_grievanceOfSet_4 fn v 7 0 0 = p at h
  generalize f_m_griefOf_4 G w v _ 0 0 = q at h
  obtain ⟨p1', p2'⟩ := p
  obtain ⟨q1', q2'⟩ := q
  exact h
theorem A_told {w_ rx ry : Int32} (hG : GI G) (hW : WI w) (hR : RS q1 q2 ftx f13 t0 t1 t2 t3 t4 fta ftb ftc ftd fte f8 f9 f10 f11 f12 b0 fba fbb f43 f44 G) (hD : DY q10 q12 p1 p2 fn fsh fim fis f1 G w) (ex : rx = f_e_told_x9 q1 q2 q10 q12 t0 t1 t2 t3 t4 fn b0 p1 p2 w_) (em : ry = f_m_told G w w_) : rx = ry := by
  obtain ⟨⟨hx1, hx2, hx3⟩, ⟨et0, et1, et2, et3, et4, n4, n7, nA, nB, nF, nD, nE⟩, ⟨hk1, _⟩⟩ := hR
  obtain ⟨⟨hS, hB, hq⟩, ⟨hu, _⟩, hI⟩ := hD
  unfold f_e_told_x9 f_e_grievanceOfAll at ex
  unfold f_m_told at em
  have n19 : (19 : Int32).toNatClampNeg = 19 := rfl
  have n18 : (18 : Int32).toNatClampNeg = 18 := rfl
  rw [et0, et1, et2, et3, et4, hx1, hk1, hu, e_min hS, e_rec hS, fate_eq hG hS hB (by decide), fate_eq hG hS hB (by decide), fate_eq hG hS hB (by decide), gset_eq hG hS hB] at ex
  have i8 : ¬ f_m_in 8 8 10 = 0 := by rw [i_in]; decide
  have i9 : ¬ f_m_in 9 8 10 = 0 := by rw [i_in]; decide
  have i10 : ¬ f_m_in 10 8 10 = 0 := by rw [i_in]; decide
  rw [n19, n18, if_neg i8, if_neg i9, if_neg i10] at em
  rw [ex, em]
  by_cases c0 : w_ = 0
  · rw [if_pos c0, if_pos c0]
  rw [if_neg c0, if_neg c0]
  by_cases c1 : w_ = 1
  · rw [if_pos c1, if_pos c1]
  rw [if_neg c1, if_neg c1]
  by_cases c2 : w_ = 2
  · rw [if_pos c2, if_pos c2]
  rw [if_neg c2, if_neg c2]
  by_cases c3 : w_ = 3
  · rw [if_pos c3, if_pos c3]
  rw [if_neg c3, if_neg c3]
  by_cases c4 : w_ = 4
  · rw [if_pos c4, if_pos c4]
  rw [if_neg c4, if_neg c4]
  by_cases c5 : w_ = 5
  · rw [if_pos c5, if_pos c5]
  rw [if_neg c5, if_neg c5]
  by_cases c6 : w_ = 6
  · rw [if_pos c6, if_pos c6]
  rw [if_neg c6, if_neg c6]
  by_cases c7 : w_ = 7
  · rw [if_pos c7, if_pos c7]
  rw [if_neg c7, if_neg c7]
  by_cases c8 : w_ = 8
  · rw [if_pos c8, if_pos c8]
  rw [if_neg c8, if_neg c8]
  by_cases c9 : w_ = 9
  · rw [if_pos c9, if_pos c9]
  rw [if_neg c9, if_neg c9]
  by_cases c10 : w_ = 10
  · rw [if_pos c10, if_pos c10]
  rw [if_neg c10, if_neg c10]
  by_cases c11 : w_ = 11
  · rw [if_pos c11, if_pos c11]
  rw [if_neg c11, if_neg c11]
  by_cases c12 : w_ = 12
  · rw [if_pos c12, if_pos c12]
  rw [if_neg c12, if_neg c12]
  by_cases c13 : w_ = 13
  · rw [if_pos c13, if_pos c13]
  rw [if_neg c13, if_neg c13]
  have lst : f_m_in w_.toInt64 8 10 = 0 := by
    rw [i_in, Int32.toInt_toInt64]
    simp only [i_eq, Int32.reduceToInt] at c8 c9 c10
    simp only [Int64.reduceToInt]
    omega
  rw [if_pos lst]
theorem judge_loop (hS : ST fn w 0 0) (hRI : RI f43) (h15 : (G 42).toInt ≤ 15) : ∀ (n : Nat) (i : Int32), 0 ≤ i.toInt → (∃ a b, f_e_firstWrong_x0_2 (G 42) f43 f44 fn n i = Sum.inl a ∧ f_m_judge_2 G w f43 f44 n i = Sum.inl b) ∨ (∃ a, f_e_firstWrong_x0_2 (G 42) f43 f44 fn n i = Sum.inr a ∧ f_m_judge_2 G w f43 f44 n i = Sum.inr a) := by
  intro n
  induction n with
  | zero => intro i h0; exact Or.inl ⟨i, i, rfl, rfl⟩
  | succ n ih =>
    intro i h0
    rw [f_e_firstWrong_x0_2_s, f_m_judge_2_s]
    by_cases c : G 42 ≤ i
    · rw [if_pos c, if_pos c]
      exact Or.inl ⟨i, i, rfl, rfl⟩
    · rw [if_neg c, if_neg c]
      rw [i_le] at c
      have e := i_a1 (a := i) (by omega) (by omega)
      have r := hRI i.toNatClampNeg
      rw [at_in h0 (by omega), at_in h0 (by omega), e_g hS r.1 (by omega), ix0]
      by_cases d : w (f43 i.toNatClampNeg).toNatClampNeg = f44 i.toNatClampNeg
      · rw [if_pos d, if_pos d]
        exact ih (i + 1) (by omega)
      · rw [if_neg d, if_neg d]
        exact Or.inr ⟨i, rfl, rfl⟩
theorem A_judge {rx ry : Int32} (hG : GI G) (hRI : RI f43) (hR : RS q1 q2 ftx f13 t0 t1 t2 t3 t4 fta ftb ftc ftd fte f8 f9 f10 f11 f12 b0 fba fbb f43 f44 G) (hD : DY q10 q12 p1 p2 fn fsh fim fis f1 G w) (ex : rx = f_e_judge_x9 q1 q2 q10 q12 b0 fba fbb fn) (em : ry = f_m_judge G w f43 f44) : rx = ry := by
  obtain ⟨hX, hN, ⟨rfl, rfl, rfl⟩⟩ := hR
  obtain ⟨⟨hS, hB, hq⟩, hU, hI⟩ := hD
  unfold f_e_judge_x9 f_e_firstWrong_x0 at ex
  unfold f_m_judge at em
  rw [ex, em]
  rcases judge_loop (G := G) (f44 := fbb) hS hRI hG.2.2.2.2.2.2.2 (((G 42).toInt - (0 : Int32).toInt).toNat + 1) 0 (by decide) with ⟨a, b, h1, h2⟩ | ⟨a, h1, h2⟩
  · rw [h1, h2]
  · rw [h1, h2]
theorem mid_loop {a1 a2 a3 a4 v0 v1 v2 v3 v4 c_ n_ q_ by_ : Int32} (hby : (if 0 < (q_ - (f_e_grievanceOf fn c_)) then (q_ - (f_e_grievanceOf fn c_)) else 0) = by_) : ∀ (n : Nat) (i : Int32) (o : Int64), ∃ j j' o', f_e_midstream_x9_62 a1 a2 a3 a4 v0 v1 v2 v3 v4 fn c_ n_ q_ n i o = (j, o') ∧ f_m_midstream_74 n_ n i o by_ = (j', o', by_) := by
  intro n
  induction n with
  | zero => intro i o; exact ⟨i, i, o, rfl, rfl⟩
  | succ n ih =>
    intro i o
    rw [f_e_midstream_x9_62_s, f_m_midstream_74_s, hby]
    by_cases c : n_ ≤ i
    · rw [if_pos c, if_pos c]
      exact ⟨i, i, o, rfl, rfl⟩
    · rw [if_neg c, if_neg c]
      exact ih _ _
theorem A_midstream {c_ n_ q_ rx ry : Int32} (hG : GI G) (hW : WI w) (hR : RS q1 q2 ftx f13 t0 t1 t2 t3 t4 fta ftb ftc ftd fte f8 f9 f10 f11 f12 b0 fba fbb f43 f44 G) (hD : DY q10 q12 p1 p2 fn fsh fim fis f1 G w) (ex : rx = f_e_midstream_x9 q1 q2 q10 q12 t0 t1 t2 t3 t4 fn c_ n_ q_) (em : ry = f_m_midstream G w c_ n_ q_) : rx = ry := by
  obtain ⟨hX, ⟨et0, et1, et2, et3, et4, n4, n7, nA, nB, nF, nD, nE⟩, hK⟩ := hR
  obtain ⟨⟨hS, hB, hq⟩, hU, hI⟩ := hD
  unfold f_e_midstream_x9 at ex
  unfold f_m_midstream at em
  rw [et2] at ex
  rw [ex, em]
  by_cases c1 : f_m_isCouple G c_ = 0
  · rw [if_pos c1, if_pos ((q_couple hG _ _ _ _ _).mpr c1)]
  obtain ⟨a0, a1, a2⟩ := l_couple hG c1
  rw [if_neg c1, if_neg (fun q => c1 ((q_couple hG _ _ _ _ _).mp q))]
  have gb := hB.1 c_.toNatClampNeg (clN a0 a2)
  rw [Nat.zero_add] at gb
  by_cases c2 : f_m_in n_.toInt64 0 99 = 0
  · rw [if_pos c2]
    rw [i_in, Int32.toInt_toInt64] at c2
    simp only [Int64.reduceToInt] at c2
    by_cases d1 : n_ < 0
    · rw [if_pos d1]
    · rw [if_neg d1]
      have d2 : 99 < n_ := by
        simp only [i_lt, Int32.reduceToInt] at d1 ⊢
        omega
      rw [if_pos d2]
  rw [if_neg c2]
  rw [i_in, Int32.toInt_toInt64] at c2
  simp only [Int64.reduceToInt] at c2
  have d1 : ¬ n_ < 0 := by
    simp only [i_lt, Int32.reduceToInt]
    omega
  have d2 : ¬ 99 < n_ := by
    simp only [i_lt, Int32.reduceToInt]
    omega
  rw [if_neg d1, if_neg d2]
  by_cases c3 : f_m_in q_.toInt64 0 1000 = 0
  · rw [if_pos c3]
    rw [i_in, Int32.toInt_toInt64] at c3
    simp only [Int64.reduceToInt] at c3
    by_cases d3 : q_ < 0
    · rw [if_pos d3]
    · rw [if_neg d3]
      have d4 : ¬ q_ ≤ 1000 := by
        simp only [i_lt, i_le, Int32.reduceToInt] at d3 ⊢
        omega
      rw [if_neg d4]
  rw [if_neg c3]
  rw [i_in, Int32.toInt_toInt64] at c3
  simp only [Int64.reduceToInt] at c3
  have d3 : ¬ q_ < 0 := by
    simp only [i_lt, Int32.reduceToInt]
    omega
  have d4 : q_ ≤ 1000 := by
    simp only [i_le, Int32.reduceToInt]
    omega
  rw [if_neg d3, if_pos d4, ix0]
  have eq := i_sub (a := q_) (b := w c_.toNatClampNeg) (by omega) (by omega)
  by_cases c4 : q_ ≤ w c_.toNatClampNeg
  · have hby : (if 0 < (q_ - (f_e_grievanceOf fn c_)) then (q_ - (f_e_grievanceOf fn c_)) else 0) = 0 := by
      rw [e_g hS a0 a2, if_neg]
      rw [i_lt, i_0, eq]
      rw [i_le] at c4
      omega
    obtain ⟨j, j', o', h1, h2⟩ := mid_loop (a1 := q1) (a2 := q2) (a3 := q10) (a4 := q12) (v0 := t0) (v1 := t1) (v2 := G 5) (v3 := t3) (v4 := t4) (n_ := n_) hby ((n_.toInt - (0 : Int32).toInt).toNat + 1) 0 1000000000
    rw [if_pos c4, h1, h2]
  · have hby : (if 0 < (q_ - (f_e_grievanceOf fn c_)) then (q_ - (f_e_grievanceOf fn c_)) else 0) = q_ - w c_.toNatClampNeg := by
      rw [e_g hS a0 a2, if_pos]
      rw [i_lt, i_0, eq]
      rw [i_le] at c4
      omega
    obtain ⟨j, j', o', h1, h2⟩ := mid_loop (a1 := q1) (a2 := q2) (a3 := q10) (a4 := q12) (v0 := t0) (v1 := t1) (v2 := G 5) (v3 := t3) (v4 := t4) (n_ := n_) hby ((n_.toInt - (0 : Int32).toInt).toNat + 1) 0 1000000000
    rw [if_neg c4, h1, h2]
end
end
section
/-! what the calls answer, side by side: what is tried -/
section
variable {q1 q2 q10 q12 t0 t1 t2 t3 t4 p1 p2 b0 : Int32} {ftx fta ftb ftc ftd fte fn fsh fim fis fba fbb G w f1 f8 f9 f10 f11 f12 f13 f43 f44 : Nat → Int32}
theorem lasts_spec {a1 a2 a3 a4 v0 v1 v2 v3 c_ e_ : Int32} (hT : TF G fta ftc f8 f10) (hS : ST fn w 0 0) (hB : BI G w 0) (c0 : 0 ≤ c_.toInt) (c1 : c_.toInt < (G 5).toInt) (c2 : c_.toInt < 6) (e0 : 0 ≤ e_.toInt) (e1 : e_.toInt < (G 4).toInt) (e2 : e_.toInt < 5) : ∃ (r : Int32) (H : Nat → Int32), f_m_lastsOf G w f10 c_ e_ = (r, H) ∧ (∀ k, k < 32 ∨ 35 ≤ k → H k = G k) ∧ 0 ≤ r.toInt ∧ r.toInt ≤ 999 ∧ ∀ k0 k1 k2 k3 k4, ∃ g0 g1 g2 g3 g4, f_e_minutesLeft_x9 a1 a2 a3 a4 k0 k1 k2 k3 k4 v0 v1 v2 v3 (G 7) ftc fn c_ e_ = (r, g0, g1, g2, g3, g4) := by
  obtain ⟨_, n2, n3, n4⟩ := force_in hT c0 c1 c2 e0 e1 e2
  have gb := hB.1 c_.toNatClampNeg (clN c0 c2)
  rw [Nat.zero_add] at gb
  have i100 : (100 : Int32).toInt = 100 := rfl
  have ibn : (1000000000 : Int32).toInt = 1000000000 := rfl
  obtain ⟨H, re, r1, r2, r3, r4, r5, r6, r7, r8, r9, r10, r11⟩ := run_eq (G := G) (f10 := f10) (c := c_) (t := e_) (g := w c_.toNatClampNeg) (n1 := 100) (n2 := 1000000000) gb.1 gb.2 hT.1 n3 n4 (fun z _ _ => by rw [i100, ibn]; omega)
  have he : ∀ k0 k1 k2 k3 k4, f_e_minutesLeft_x9 a1 a2 a3 a4 k0 k1 k2 k3 k4 v0 v1 v2 v3 (G 7) ftc fn c_ e_ = (if re = 0 then (999, H 32, w c_.toNatClampNeg - H 33, H 33, H 34, re) else (H 32, H 32, w c_.toNatClampNeg - H 33, H 33, H 34, re)) := by
    intro k0 k1 k2 k3 k4
    unfold f_e_minutesLeft_x9 f_e_forceOf_x8
    rw [e_g hS c0 c2, n2, r2]
  unfold f_m_lastsOf
  rw [ix0, r1]
  by_cases d : H 33 = 0 ∧ 0 < (H 32).toInt
  · have d2 : ¬ H 32 ≤ 0 := by
      rw [i_le, i_0]
      omega
    have dr : ¬ re = 0 := r6.mpr d
    rw [if_pos d.1, if_neg d2]
    exact ⟨H 32, H, rfl, r3, r9, by omega, fun k0 k1 k2 k3 k4 => ⟨_, _, _, _, _, by rw [he, if_neg dr]⟩⟩
  · have dr : re = 0 := by
      by_cases z : re = 0
      · exact z
      · exact absurd (r6.mp z) d
    have i999 : (999 : Int32).toInt = 999 := rfl
    refine ⟨999, H, ?_, r3, by decide, by decide, fun k0 k1 k2 k3 k4 => ⟨_, _, _, _, _, by rw [he, if_pos dr]⟩⟩
    by_cases d1 : H 33 = 0
    · have d2 : H 32 ≤ 0 := by
        have d3 : ¬ 0 < (H 32).toInt := fun z => d ⟨d1, z⟩
        rw [i_le, i_0]
        omega
      rw [if_pos d1, if_pos d2]
    · rw [if_neg d1]
theorem A_lasts {k0 k1 k2 k3 k4 c_ e_ rx x0 x1 x2 x3 x4 ry : Int32} {y0 : Nat → Int32} (hG : GI G) (hW : WI w) (hR : RS q1 q2 ftx f13 t0 t1 t2 t3 t4 fta ftb ftc ftd fte f8 f9 f10 f11 f12 b0 fba fbb f43 f44 G) (hD : DY q10 q12 p1 p2 fn fsh fim fis f1 G w) (ex : (rx, x0, x1, x2, x3, x4) = f_e_lasts_x9 q1 q2 q10 q12 k0 k1 k2 k3 k4 t0 t1 t2 t3 t4 ftc fn c_ e_) (em : (ry, y0) = f_m_lasts G w f10 c_ e_) : rx = ry := by
  obtain ⟨hX, ⟨et0, et1, et2, et3, et4, n4, n7, nA, nB, nF, nD, nE⟩, hK⟩ := hR
  obtain ⟨⟨hS, hB, hq⟩, hU, hI⟩ := hD
  unfold f_e_lasts_x9 at ex
  unfold f_m_lasts at em
  rw [et1, et2, et4] at ex
  by_cases c1 : f_m_isCouple G c_ = 0
  · rw [if_pos c1] at em
    rw [if_pos ((q_couple hG _ _ _ _ _).mpr c1)] at ex
    cases ex; cases em
    rfl
  rw [if_neg c1] at em
  rw [if_neg (fun q => c1 ((q_couple hG _ _ _ _ _).mp q))] at ex
  by_cases c2 : f_m_isTheme G e_ = 0
  · rw [if_pos c2] at em
    rw [if_pos ((q_theme hG _ _ _ _ _).mpr c2)] at ex
    cases ex; cases em
    rfl
  rw [if_neg c2] at em
  rw [if_neg (fun q => c2 ((q_theme hG _ _ _ _ _).mp q)), e_done hS] at ex
  obtain ⟨a0, a1, a2⟩ := l_couple hG c1
  obtain ⟨b0', b1, b2⟩ := l_theme hG c2
  by_cases c3 : f_m_isDone w c_ = 0
  · rw [if_pos c3] at ex em
    obtain ⟨r, H, h1, h2, h3, h4, h5⟩ := lasts_spec (a1 := q1) (a2 := q2) (a3 := q10) (a4 := q12) (v0 := t0) (v1 := G 4) (v2 := G 5) (v3 := t3) (fta := fta) (f8 := f8) (f10 := f10) ⟨n7, nA, nF⟩ hS hB a0 a1 a2 b0' b1 b2
    obtain ⟨g0, g1, g2, g3, g4, h6⟩ := h5 k0 k1 k2 k3 k4
    rw [h6] at ex
    rw [h1] at em
    cases ex; cases em
    rfl
  · rw [if_neg c3] at ex em
    cases ex; cases em
    rfl
theorem A_could {k0 k1 k2 k3 k4 c_ b_ e_ w_ rx x0 x1 x2 x3 x4 ry : Int32} {y0 : Nat → Int32} (hG : GI G) (hW : WI w) (hR : RS q1 q2 ftx f13 t0 t1 t2 t3 t4 fta ftb ftc ftd fte f8 f9 f10 f11 f12 b0 fba fbb f43 f44 G) (hD : DY q10 q12 p1 p2 fn fsh fim fis f1 G w) (ex : (rx, x0, x1, x2, x3, x4) = f_e_could_x9 q1 q2 q10 q12 k0 k1 k2 k3 k4 t0 t1 t2 t3 t4 fta ftc fn c_ b_ e_ w_) (em : (ry, y0) = f_m_could G w f10 f8 c_ b_ e_ w_) : rx = ry := by
  obtain ⟨hX, ⟨et0, et1, et2, et3, et4, n4, n7, nA, nB, nF, nD, nE⟩, hK⟩ := hR
  obtain ⟨⟨hS, hB, hq⟩, hU, hI⟩ := hD
  unfold f_e_could_x9 at ex
  unfold f_m_could at em
  rw [et0, et1, et2, et4] at ex
  by_cases c1 : f_m_isCouple G c_ = 0
  · rw [if_pos c1] at em
    rw [if_pos ((q_couple hG _ _ _ _ _).mpr c1)] at ex
    cases ex; cases em
    rfl
  rw [if_neg c1] at em
  rw [if_neg (fun q => c1 ((q_couple hG _ _ _ _ _).mp q))] at ex
  by_cases c2 : f_m_isBridge G b_ = 0
  · rw [if_pos c2] at em
    rw [if_pos ((q_bridge hG _ _ _ _ _).mpr c2)] at ex
    cases ex; cases em
    rfl
  rw [if_neg c2] at em
  rw [if_neg (fun q => c2 ((q_bridge hG _ _ _ _ _).mp q))] at ex
  by_cases c3 : f_m_isTheme G e_ = 0
  · rw [if_pos c3] at em
    rw [if_pos ((q_theme hG _ _ _ _ _).mpr c3)] at ex
    cases ex; cases em
    rfl
  rw [if_neg c3] at em
  rw [if_neg (fun q => c3 ((q_theme hG _ _ _ _ _).mp q)), e_done hS] at ex
  obtain ⟨a0, a1, a2⟩ := l_couple hG c1
  obtain ⟨b0', b1, b2⟩ := l_bridge hG c2
  obtain ⟨e0, e1, e2⟩ := l_theme hG c3
  obtain ⟨re, H, r1, r2, r3, r4, r5, r6, r7, r8, r9, r10, r11⟩ := attempt_eq (a1 := q1) (a2 := q2) (a3 := q10) (a4 := q12) (v0 := G 3) (v1 := G 4) (v2 := G 5) (v3 := t3) (fta := fta) (ftc := ftc) (f8 := f8) (f10 := f10) ⟨n7, nA, nF⟩ hG.2.1.2 hS hB a0 a1 a2 b0' b1 e0 e1 e2
  have ho : f_m_opens G w f10 f8 c_ b_ e_ = (if H 34 = 0 then (0, H) else if f_m_isDone w c_ = 0 then (1, H) else (0, H)) := by
    unfold f_m_opens
    rw [ix0, r1]
  rw [r2] at ex
  rw [ho, ix0] at em
  dsimp (config := { etaStruct := .none }) only at ex
  by_cases c4 : f_m_in w_.toInt64 0 1 = 0
  · rw [if_pos c4] at em
    rw [i_in, Int32.toInt_toInt64] at c4
    simp only [Int64.reduceToInt] at c4
    have d0 : ¬ w_ = 0 := by
      rw [i_eq, i_0]
      omega
    have d1 : ¬ w_ = 1 := by
      rw [i_eq, i_1]
      omega
    rw [if_neg d0, if_neg d1] at ex
    cases ex; cases em
    rfl
  rw [if_neg c4] at em
  rw [i_in, Int32.toInt_toInt64] at c4
  simp only [Int64.reduceToInt] at c4
  have key : ∀ X : Int32, (rx, x0, x1, x2, x3, x4) = (if f_m_isDone w c_ = 0 then (if H 34 = 0 then (-1, H 32, w c_.toNatClampNeg - H 33, H 33, H 34, re) else (if w_ = 0 then (H 32, H 32, w c_.toNatClampNeg - H 33, H 33, H 34, re) else (w c_.toNatClampNeg - H 33, H 32, w c_.toNatClampNeg - H 33, H 33, H 34, re))) else (-1, k0, k1, k2, k3, k4)) → rx = ry := by
    intro X ex
    by_cases d3 : H 34 = 0
    · rw [if_pos d3] at em
      dsimp (config := { etaStruct := .none }) only at em
      rw [if_pos rfl] at em
      by_cases d4 : f_m_isDone w c_ = 0
      · rw [if_pos d4, if_pos d3] at ex
        cases ex; cases em
        rfl
      · rw [if_neg d4] at ex
        cases ex; cases em
        rfl
    · rw [if_neg d3] at em
      by_cases d4 : f_m_isDone w c_ = 0
      · rw [if_pos d4] at em
        dsimp (config := { etaStruct := .none }) only at em
        rw [if_neg (by decide)] at em
        rw [if_pos d4, if_neg d3] at ex
        by_cases d5 : w_ = 0
        · rw [if_pos d5] at ex em
          cases ex; cases em
          rfl
        · rw [if_neg d5] at ex em
          cases ex; cases em
          rfl
      · rw [if_neg d4] at em
        dsimp (config := { etaStruct := .none }) only at em
        rw [if_pos rfl] at em
        rw [if_neg d4] at ex
        cases ex; cases em
        rfl
  by_cases d0 : w_ = 0
  · rw [if_pos d0] at ex
    exact key 0 ex
  · have d1 : w_ = 1 := by
      rw [i_eq, i_0] at d0
      rw [i_eq, i_1]
      omega
    rw [if_neg d0, if_pos d1] at ex
    exact key 0 ex
/-- themes tried one by one -/
theorem best_loop {a1 a2 a3 a4 v0 v2 v3 c_ b_ l0 l1 l2 l3 l4 : Int32} (hS : ST fn w 0 0) (c0 : 0 ≤ c_.toInt) (c2 : c_.toInt < 6) (b0 : 0 ≤ b_.toInt) (hdn : f_m_isDone w c_ = 0) : ∀ (n m : Nat) (t co mi bt : Int32) (G : Nat → Int32), GI G → TF G fta ftc f8 f10 → BI G w 0 → c_.toInt < (G 5).toInt → b_.toInt < (G 3).toInt → 0 ≤ t.toInt → t.toInt ≤ (G 4).toInt → (G 4).toInt - t.toInt < n → (G 4).toInt - t.toInt < m → ((bt = -1 ∧ G 35 = 999) ∨ (0 ≤ bt.toInt ∧ bt.toInt < (G 4).toInt ∧ G 35 = co ∧ 0 ≤ co.toInt ∧ co.toInt ≤ 99 ∧ 0 ≤ mi.toInt ∧ mi.toInt ≤ 99 ∧ ∃ le op re, ∀ k0 k1 k2 k3 k4, f_e_attempt_x9 a1 a2 a3 a4 k0 k1 k2 k3 k4 v0 (G 4) v2 v3 (G 7) fta ftc fn c_ b_ bt = (mi, co, le, op, re))) → ∃ (j le' r : Int32) (H : Nat → Int32), f_m_best_17 w f10 f8 c_ b_ n t (if bt = -1 then 999 else mi) bt G = (j, le', r, H) ∧ (∀ k, k < 32 ∨ 36 ≤ k → H k = G k) ∧ (∀ k0 k1 k2 k3 k4, ∃ j' co' mi' g0 g1 g2 g3 g4, f_e_themeFor_x9_24 a1 a2 a3 a4 l0 l1 l2 l3 l4 v0 (G 4) v2 v3 (G 7) fta ftc fn c_ b_ m t co mi bt k0 k1 k2 k3 k4 = (j', co', mi', r, g0, g1, g2, g3, g4)) ∧ (r = -1 ∨ (0 ≤ r.toInt ∧ r.toInt < (G 4).toInt ∧ 0 ≤ (H 35).toInt ∧ (H 35).toInt ≤ 99 ∧ ∃ mi' le op re, ∀ k0 k1 k2 k3 k4, f_e_attempt_x9 a1 a2 a3 a4 k0 k1 k2 k3 k4 v0 (G 4) v2 v3 (G 7) fta ftc fn c_ b_ r = (mi', H 35, le, op, re))) := by
  intro n
  induction n with
  | zero => intro m t co mi bt G hG hT hB h5 h3 h0 h1 h2; omega
  | succ n ih =>
    intro m t co mi bt G hG hT hB h5 h3 h0 h1 h2 h4 hb
    have g4 := hG.2.2.1.2
    cases m with
    | zero => omega
    | succ m =>
      by_cases c : G 4 ≤ t
      · refine ⟨t, _, bt, G, by rw [f_m_best_17_s, if_pos c], fun k _ => rfl, fun k0 k1 k2 k3 k4 => ⟨t, co, mi, k0, k1, k2, k3, k4, by rw [f_e_themeFor_x9_24_s, if_pos c]⟩, ?_⟩
        rcases hb with ⟨q, _⟩ | ⟨q1', q2', q3', q4', q5', q6', q7', le, op, re, q8'⟩
        · exact Or.inl q
        · refine Or.inr ⟨q1', q2', by rw [q3']; exact q4', by rw [q3']; exact q5', mi, le, op, re, ?_⟩
          rw [q3']
          exact q8'
      · have c' := c
        rw [i_le] at c'
        have e := i_a1 (a := t) (by omega) (by omega)
        obtain ⟨re, H, r1, r2, r3, r4, r5, r6, r7, r8, r9, r10, r11⟩ := attempt_eq (a1 := a1) (a2 := a2) (a3 := a3) (a4 := a4) (v0 := v0) (v1 := G 4) (v2 := v2) (v3 := v3) hT hG.2.1.2 hS hB c0 h5 c2 b0 h3 h0 (by omega) (by omega)
        have h35 : H 35 = G 35 := r3 35 (by decide)
        have h4' : H 4 = G 4 := r3 4 (by decide)
        have h7' : H 7 = G 7 := r3 7 (by decide)
        have ho : f_m_opens G w f10 f8 c_ b_ t = (if H 34 = 0 then (0, H) else (1, H)) := by
          unfold f_m_opens
          rw [ix0, r1, if_pos hdn]
        have esub := i_sub (a := w c_.toNatClampNeg) (b := H 33) (by omega) (by omega)
        have gH : GI H := GI.of (fun k hk => r3 k (by omega)) hG
        have tH : TF H fta ftc f8 f10 := TF_of hT (fun k a b => r3 k (by omega))
        have bH : BI H w 0 := BI_of hB (fun k _ => rfl) (r3 3 (by decide)) h4' (r3 5 (by decide)) (r3 6 (by decide))
        -- the next theme, with what has been found so far as it was
        have keep : (∀ k0 k1 k2 k3 k4, ∃ o0 o1 o2 o3 o4, f_e_themeFor_x9_24 a1 a2 a3 a4 l0 l1 l2 l3 l4 v0 (G 4) v2 v3 (G 7) fta ftc fn c_ b_ (m + 1) t co mi bt k0 k1 k2 k3 k4 = f_e_themeFor_x9_24 a1 a2 a3 a4 l0 l1 l2 l3 l4 v0 (G 4) v2 v3 (G 7) fta ftc fn c_ b_ m (t + 1) co mi bt o0 o1 o2 o3 o4) → f_m_best_17 w f10 f8 c_ b_ (n + 1) t (if bt = -1 then 999 else mi) bt G = f_m_best_17 w f10 f8 c_ b_ n (t + 1) (if bt = -1 then 999 else mi) bt H → ∃ (j le' r : Int32) (H : Nat → Int32), f_m_best_17 w f10 f8 c_ b_ (n + 1) t (if bt = -1 then 999 else mi) bt G = (j, le', r, H) ∧ (∀ k, k < 32 ∨ 36 ≤ k → H k = G k) ∧ (∀ k0 k1 k2 k3 k4, ∃ j' co' mi' g0 g1 g2 g3 g4, f_e_themeFor_x9_24 a1 a2 a3 a4 l0 l1 l2 l3 l4 v0 (G 4) v2 v3 (G 7) fta ftc fn c_ b_ (m + 1) t co mi bt k0 k1 k2 k3 k4 = (j', co', mi', r, g0, g1, g2, g3, g4)) ∧ (r = -1 ∨ (0 ≤ r.toInt ∧ r.toInt < (G 4).toInt ∧ 0 ≤ (H 35).toInt ∧ (H 35).toInt ≤ 99 ∧ ∃ mi' le op re, ∀ k0 k1 k2 k3 k4, f_e_attempt_x9 a1 a2 a3 a4 k0 k1 k2 k3 k4 v0 (G 4) v2 v3 (G 7) fta ftc fn c_ b_ r = (mi', H 35, le, op, re))) := by
          intro he hm
          obtain ⟨j, le', r, K, x1, x2, x3, x4⟩ := ih m (t + 1) co mi bt H gH tH bH (by rw [r3 5 (by decide)]; exact h5) (by rw [r3 3 (by decide)]; exact h3) (by omega) (by rw [h4']; omega) (by rw [h4']; omega) (by rw [h4']; omega) (by rw [h35, h4', h7']; exact hb)
          rw [h4', h7'] at x3 x4
          refine ⟨j, le', r, K, by rw [hm, x1], fun k hk => (x2 k hk).trans (r3 k (by omega)), fun k0 k1 k2 k3 k4 => ?_, x4⟩
          obtain ⟨o0, o1, o2, o3, o4, he'⟩ := he k0 k1 k2 k3 k4
          obtain ⟨j', co', mi', g0, g1, g2, g3, g4', y⟩ := x3 o0 o1 o2 o3 o4
          exact ⟨j', co', mi', g0, g1, g2, g3, g4', by rw [he', y]⟩
        -- the next theme, with this one as the best
        have take : (∀ k0 k1 k2 k3 k4, ∃ o0 o1 o2 o3 o4, f_e_themeFor_x9_24 a1 a2 a3 a4 l0 l1 l2 l3 l4 v0 (G 4) v2 v3 (G 7) fta ftc fn c_ b_ (m + 1) t co mi bt k0 k1 k2 k3 k4 = f_e_themeFor_x9_24 a1 a2 a3 a4 l0 l1 l2 l3 l4 v0 (G 4) v2 v3 (G 7) fta ftc fn c_ b_ m (t + 1) (w c_.toNatClampNeg - H 33) (H 32) t o0 o1 o2 o3 o4) → f_m_best_17 w f10 f8 c_ b_ (n + 1) t (if bt = -1 then 999 else mi) bt G = f_m_best_17 w f10 f8 c_ b_ n (t + 1) (H 32) t (upd H 35 (w c_.toNatClampNeg - H 33)) → ∃ (j le' r : Int32) (H : Nat → Int32), f_m_best_17 w f10 f8 c_ b_ (n + 1) t (if bt = -1 then 999 else mi) bt G = (j, le', r, H) ∧ (∀ k, k < 32 ∨ 36 ≤ k → H k = G k) ∧ (∀ k0 k1 k2 k3 k4, ∃ j' co' mi' g0 g1 g2 g3 g4, f_e_themeFor_x9_24 a1 a2 a3 a4 l0 l1 l2 l3 l4 v0 (G 4) v2 v3 (G 7) fta ftc fn c_ b_ (m + 1) t co mi bt k0 k1 k2 k3 k4 = (j', co', mi', r, g0, g1, g2, g3, g4)) ∧ (r = -1 ∨ (0 ≤ r.toInt ∧ r.toInt < (G 4).toInt ∧ 0 ≤ (H 35).toInt ∧ (H 35).toInt ≤ 99 ∧ ∃ mi' le op re, ∀ k0 k1 k2 k3 k4, f_e_attempt_x9 a1 a2 a3 a4 k0 k1 k2 k3 k4 v0 (G 4) v2 v3 (G 7) fta ftc fn c_ b_ r = (mi', H 35, le, op, re))) := by
          intro he hm
          have u : ∀ k, k ≠ 35 → (upd H 35 (w c_.toNatClampNeg - H 33)) k = H k := fun k hk => pk_un hk
          have u35 : (upd H 35 (w c_.toNatClampNeg - H 33)) 35 = w c_.toNatClampNeg - H 33 := pk_us
          generalize upd H 35 (w c_.toNatClampNeg - H 33) = U at hm u u35
          have tm : ¬ t = -1 := by
            intro q
            rw [q, i_m1] at h0
            omega
          obtain ⟨j, le', r, K, x1, x2, x3, x4⟩ := ih m (t + 1) (w c_.toNatClampNeg - H 33) (H 32) t U (GI.of (G := H) (fun k hk => u k (by omega)) gH) (TF_of tH (fun k a b => u k (by omega))) (BI_of bH (fun k _ => rfl) (u 3 (by decide)) (u 4 (by decide)) (u 5 (by decide)) (u 6 (by decide))) (by rw [u 5 (by decide), r3 5 (by decide)]; exact h5) (by rw [u 3 (by decide), r3 3 (by decide)]; exact h3) (by omega) (by rw [u 4 (by decide), h4']; omega) (by rw [u 4 (by decide), h4']; omega) (by rw [u 4 (by decide), h4']; omega) (by
            rw [u35, u 4 (by decide), u 7 (by decide), h4', h7']
            exact Or.inr ⟨h0, by omega, rfl, by omega, by omega, r10, r11, H 33, H 34, re, r2⟩)
          rw [if_neg tm] at x1
          rw [u 4 (by decide), u 7 (by decide), h4', h7'] at x3 x4
          refine ⟨j, le', r, K, by rw [hm, x1], fun k hk => (x2 k hk).trans ((u k (by omega)).trans (r3 k (by omega))), fun k0 k1 k2 k3 k4 => ?_, x4⟩
          obtain ⟨o0, o1, o2, o3, o4, he'⟩ := he k0 k1 k2 k3 k4
          obtain ⟨j', co', mi', g0, g1, g2, g3, g4', y⟩ := x3 o0 o1 o2 o3 o4
          exact ⟨j', co', mi', g0, g1, g2, g3, g4', by rw [he', y]⟩
        have se : ∀ k0 k1 k2 k3 k4, f_e_themeFor_x9_24 a1 a2 a3 a4 l0 l1 l2 l3 l4 v0 (G 4) v2 v3 (G 7) fta ftc fn c_ b_ (m + 1) t co mi bt k0 k1 k2 k3 k4 = (if H 34 = 0 then (f_e_themeFor_x9_24 a1 a2 a3 a4 l0 l1 l2 l3 l4 v0 (G 4) v2 v3 (G 7) fta ftc fn c_ b_ m (t + 1) co mi bt (H 32) (w c_.toNatClampNeg - H 33) (H 33) (H 34) re) else if bt = -1 ∨ H 32 < mi ∨ (H 32 = mi ∧ ¬ co ≤ w c_.toNatClampNeg - H 33) then (f_e_themeFor_x9_24 a1 a2 a3 a4 l0 l1 l2 l3 l4 v0 (G 4) v2 v3 (G 7) fta ftc fn c_ b_ m (t + 1) (w c_.toNatClampNeg - H 33) (H 32) t (H 32) (w c_.toNatClampNeg - H 33) (H 33) (H 34) re) else (f_e_themeFor_x9_24 a1 a2 a3 a4 l0 l1 l2 l3 l4 v0 (G 4) v2 v3 (G 7) fta ftc fn c_ b_ m (t + 1) co mi bt (H 32) (w c_.toNatClampNeg - H 33) (H 33) (H 34) re)) := by
          intro k0 k1 k2 k3 k4
          rw [f_e_themeFor_x9_24_s, if_neg c, r2]
          dsimp (config := { etaStruct := .none }) only
          by_cases z1 : H 34 = 0
          · simp only [if_pos z1]
            by_cases z2 : H 32 < mi
            · rw [if_pos z2]
            · rw [if_neg z2]
              by_cases z3 : H 32 = mi
              · rw [if_pos z3]
                by_cases z4 : co ≤ w c_.toNatClampNeg - H 33
                · rw [if_pos z4]
                · rw [if_neg z4]
              · rw [if_neg z3]
          · simp only [if_neg z1]
            by_cases z2 : H 32 < mi
            · rw [if_pos z2, if_pos (Or.inr (Or.inl z2))]
              by_cases z5 : bt = -1
              · rw [if_pos z5]
              · rw [if_neg z5]
            · rw [if_neg z2]
              by_cases z3 : H 32 = mi
              · rw [if_pos z3]
                by_cases z4 : co ≤ w c_.toNatClampNeg - H 33
                · rw [if_pos z4]
                  by_cases z5 : bt = -1
                  · rw [if_pos z5, if_pos (Or.inl z5)]
                  · rw [if_neg z5, if_neg]
                    rintro (q | q | q)
                    · exact z5 q
                    · exact z2 q
                    · exact q.2 z4
                · rw [if_neg z4, if_pos (Or.inr (Or.inr ⟨z3, z4⟩))]
                  by_cases z5 : bt = -1
                  · rw [if_pos z5]
                  · rw [if_neg z5]
              · rw [if_neg z3]
                by_cases z5 : bt = -1
                · rw [if_pos z5, if_pos (Or.inl z5)]
                · rw [if_neg z5, if_neg]
                  rintro (q | q | q)
                  · exact z5 q
                  · exact z2 q
                  · exact z3 q.1
        by_cases z1 : H 34 = 0
        · refine keep (fun k0 k1 k2 k3 k4 => ⟨_, _, _, _, _, by rw [se, if_pos z1]⟩) ?_
          rw [f_m_best_17_s, if_neg c, ho, if_pos z1]
          dsimp (config := { etaStruct := .none }) only
          rw [if_pos rfl]
        · have sm' : ∀ L : Int32, f_m_best_17 w f10 f8 c_ b_ (n + 1) t L bt G = (if (H 32) < L then (f_m_best_17 w f10 f8 c_ b_ n (t + 1) (H 32) t (upd H 35 (w c_.toNatClampNeg - H 33))) else (if (H 32) = L then (if (H 35) ≤ (w c_.toNatClampNeg - H 33) then (f_m_best_17 w f10 f8 c_ b_ n (t + 1) L bt H) else (f_m_best_17 w f10 f8 c_ b_ n (t + 1) (H 32) t (upd H 35 (w c_.toNatClampNeg - H 33)))) else (f_m_best_17 w f10 f8 c_ b_ n (t + 1) L bt H))) := by
            intro L
            rw [f_m_best_17_s, if_neg c, ho, if_neg z1]
            dsimp (config := { etaStruct := .none }) only
            rw [if_neg (by decide), ix0, rl_self]
          rcases hb with ⟨q, q'⟩ | ⟨q1', q2', q3', q4', q5', q6', q7', le, op, re', q8'⟩
          · refine take (fun k0 k1 k2 k3 k4 => ⟨_, _, _, _, _, by rw [se, if_neg z1, if_pos (Or.inl q)]⟩) ?_
            rw [sm', if_pos q, if_pos]
            rw [i_lt]
            simp only [Int32.reduceToInt]
            omega
          · have qn : ¬ bt = -1 := by
              intro q
              rw [q, i_m1] at q1'
              omega
            by_cases z2 : bt = -1 ∨ H 32 < mi ∨ (H 32 = mi ∧ ¬ co ≤ w c_.toNatClampNeg - H 33)
            · refine take (fun k0 k1 k2 k3 k4 => ⟨_, _, _, _, _, by rw [se, if_neg z1, if_pos z2]⟩) ?_
              rw [sm', if_neg qn, h35, q3']
              rcases z2 with z | z | ⟨z, z'⟩
              · exact absurd z qn
              · rw [if_pos z]
              · have nz : ¬ H 32 < mi := by
                  rw [i_lt, z]
                  omega
                rw [if_neg nz, if_pos z, if_neg z']
            · refine keep (fun k0 k1 k2 k3 k4 => ⟨_, _, _, _, _, by rw [se, if_neg z1, if_neg z2]⟩) ?_
              rw [sm', if_neg qn, h35, q3']
              have nz : ¬ H 32 < mi := fun q => z2 (Or.inr (Or.inl q))
              rw [if_neg nz]
              by_cases z3 : H 32 = mi
              · have z4 : co ≤ w c_.toNatClampNeg - H 33 := by
                  by_cases z4 : co ≤ w c_.toNatClampNeg - H 33
                  · exact z4
                  · exact absurd (Or.inr (Or.inr ⟨z3, z4⟩)) z2
                rw [if_pos z3, if_pos z4]
              · rw [if_neg z3]
end
end
section
/-! the best themes, hires, wear, side by side -/
section
variable {q1 q2 q10 q12 t0 t1 t2 t3 t4 p1 p2 b0 : Int32} {ftx fta ftb ftc ftd fte fn fsh fim fis fba fbb G w f1 f8 f9 f10 f11 f12 f13 f43 f44 : Nat → Int32}
theorem best_done {c_ b_ : Int32} (hdn : ¬ f_m_isDone w c_ = 0) : ∀ (n : Nat) (t L bt : Int32) (G : Nat → Int32), ∃ (j : Int32) (H : Nat → Int32), f_m_best_17 w f10 f8 c_ b_ n t L bt G = (j, L, bt, H) ∧ (∀ k, k < 32 ∨ 36 ≤ k → H k = G k) := by
  intro n
  induction n with
  | zero => intro t L bt G; exact ⟨t, G, rfl, fun k _ => rfl⟩
  | succ n ih =>
    intro t L bt G
    rw [f_m_best_17_s]
    by_cases c : G 4 ≤ t
    · exact ⟨t, G, by rw [if_pos c], fun k _ => rfl⟩
    · rw [if_neg c]
      have hq := p_quarrels (G := G) (f10 := f10) (c_ := c_) (t_ := t) (from_ := w c_.toNatClampNeg) (need_ := f8 b_.toNatClampNeg)
      have ho : f_m_opens G w f10 f8 c_ b_ t = (0, f_m_quarrels G f10 c_ t (w c_.toNatClampNeg) (f8 b_.toNatClampNeg)) := by
        unfold f_m_opens
        rw [ix0, if_neg hdn]
        by_cases z : f_m_quarrels G f10 c_ t (w c_.toNatClampNeg) (f8 b_.toNatClampNeg) 34 = 0
        · rw [if_pos z]
        · rw [if_neg z]
      generalize f_m_quarrels G f10 c_ t (w c_.toNatClampNeg) (f8 b_.toNatClampNeg) = U at hq ho
      rw [ho]
      dsimp (config := { etaStruct := .none }) only
      rw [if_pos rfl]
      obtain ⟨j, H, x1, x2⟩ := ih (t + 1) L bt U
      exact ⟨j, H, x1, fun k hk => (x2 k hk).trans (hq k (by omega))⟩
theorem best_spec {a1 a2 a3 a4 v0 v2 v3 c_ b_ : Int32} (hG : GI G) (hT : TF G fta ftc f8 f10) (hS : ST fn w 0 0) (hB : BI G w 0) (c0 : 0 ≤ c_.toInt) (c1 : c_.toInt < (G 5).toInt) (b0 : 0 ≤ b_.toInt) (b1 : b_.toInt < (G 3).toInt) : ∃ (r : Int32) (H : Nat → Int32), f_m_best G w f10 f8 c_ b_ = (r, H) ∧ (∀ k, k < 32 ∨ 36 ≤ k → H k = G k) ∧ (∀ k0 k1 k2 k3 k4, ∃ g0 g1 g2 g3 g4, f_e_themeFor_x9 a1 a2 a3 a4 k0 k1 k2 k3 k4 v0 (G 4) v2 v3 (G 7) fta ftc fn c_ b_ = (r, g0, g1, g2, g3, g4)) ∧ (r = -1 ∨ (0 ≤ r.toInt ∧ r.toInt < (G 4).toInt ∧ 0 ≤ (H 35).toInt ∧ (H 35).toInt ≤ 99)) ∧ (∀ k0 k1 k2 k3 k4, ∃ g0 g1 g2 g3 g4, f_e_costFor_x9 a1 a2 a3 a4 k0 k1 k2 k3 k4 v0 (G 4) v2 v3 (G 7) fta ftc fn c_ b_ = ((if r = -1 then -1 else H 35), g0, g1, g2, g3, g4)) := by
  have g6 := hG.2.2.2.1.2
  have g4 := hG.2.2.1
  have c2 : c_.toInt < 6 := by omega
  by_cases hdn : f_m_isDone w c_ = 0
  · have u : ∀ k, k ≠ 35 → (upd G 35 999) k = G k := fun k hk => pk_un hk
    have u35 : (upd G 35 999) 35 = 999 := pk_us
    have hm : f_m_best G w f10 f8 c_ b_ = (match (f_m_best_17 w f10 f8 c_ b_ 10 0 999 (-1) (upd G 35 999)) with | (w_1l5, w_1l4, w_1l3, w_1m0) => (w_1l3, w_1m0)) := by
      unfold f_m_best
      rfl
    generalize upd G 35 999 = U at u u35 hm
    have key : ∀ l0 l1 l2 l3 l4, ∃ (j le' r : Int32) (H : Nat → Int32), f_m_best_17 w f10 f8 c_ b_ 10 0 999 (-1) U = (j, le', r, H) ∧ (∀ k, k < 32 ∨ 36 ≤ k → H k = U k) ∧ (∀ k0 k1 k2 k3 k4, ∃ j' co' mi' g0 g1 g2 g3 g4, f_e_themeFor_x9_24 a1 a2 a3 a4 l0 l1 l2 l3 l4 v0 (U 4) v2 v3 (U 7) fta ftc fn c_ b_ (((G 4).toInt - (0 : Int32).toInt).toNat + 1) 0 0 0 (-1) k0 k1 k2 k3 k4 = (j', co', mi', r, g0, g1, g2, g3, g4)) ∧ (r = -1 ∨ (0 ≤ r.toInt ∧ r.toInt < (U 4).toInt ∧ 0 ≤ (H 35).toInt ∧ (H 35).toInt ≤ 99 ∧ ∃ mi' le op re, ∀ k0 k1 k2 k3 k4, f_e_attempt_x9 a1 a2 a3 a4 k0 k1 k2 k3 k4 v0 (U 4) v2 v3 (U 7) fta ftc fn c_ b_ r = (mi', H 35, le, op, re))) := by
      intro l0 l1 l2 l3 l4
      have := best_loop (a1 := a1) (a2 := a2) (a3 := a3) (a4 := a4) (v0 := v0) (v2 := v2) (v3 := v3) (l0 := l0) (l1 := l1) (l2 := l2) (l3 := l3) (l4 := l4) (fta := fta) (ftc := ftc) (f8 := f8) (f10 := f10) (b_ := b_) hS c0 c2 b0 hdn 10 (((G 4).toInt - (0 : Int32).toInt).toNat + 1) 0 0 0 (-1) U (GI.of (G := G) (fun k hk => u k (by omega)) hG) (TF_of hT (fun k a b => u k (by omega))) (BI_of hB (fun k _ => rfl) (u 3 (by decide)) (u 4 (by decide)) (u 5 (by decide)) (u 6 (by decide))) (by rw [u 5 (by decide)]; exact c1) (by rw [u 3 (by decide)]; exact b1) (by decide) (by rw [u 4 (by decide), i_0]; omega) (by rw [u 4 (by decide), i_0]; omega) (by rw [u 4 (by decide), i_0]; omega) (Or.inl ⟨rfl, u35⟩)
      rw [if_pos rfl] at this
      exact this
    obtain ⟨j, le', r, H, x1, x2, _, x4⟩ := key 0 0 0 0 0
    have th : ∀ k0 k1 k2 k3 k4, ∃ g0 g1 g2 g3 g4, f_e_themeFor_x9 a1 a2 a3 a4 k0 k1 k2 k3 k4 v0 (G 4) v2 v3 (G 7) fta ftc fn c_ b_ = (r, g0, g1, g2, g3, g4) := by
      intro k0 k1 k2 k3 k4
      obtain ⟨j', le'', r', H', y1, _, y3, _⟩ := key k0 k1 k2 k3 k4
      rw [x1] at y1
      cases y1
      obtain ⟨j', co', mi', g0, g1, g2, g3, g4', y⟩ := y3 k0 k1 k2 k3 k4
      rw [u 4 (by decide), u 7 (by decide)] at y
      refine ⟨g0, g1, g2, g3, g4', ?_⟩
      unfold f_e_themeFor_x9
      rw [e_done hS, if_pos hdn, y]
    rw [u 4 (by decide), u 7 (by decide)] at x4
    refine ⟨r, H, by rw [hm, x1], fun k hk => (x2 k hk).trans (u k (by omega)), th, ?_, fun k0 k1 k2 k3 k4 => ?_⟩
    · rcases x4 with q | ⟨q1', q2', q3', q4', _⟩
      · exact Or.inl q
      · exact Or.inr ⟨q1', q2', q3', q4'⟩
    · obtain ⟨g0, g1, g2, g3, g4', y⟩ := th k0 k1 k2 k3 k4
      unfold f_e_costFor_x9
      rw [y]
      dsimp (config := { etaStruct := .none }) only
      by_cases z : r = -1
      · exact ⟨g0, g1, g2, g3, g4', by rw [if_pos z, if_pos z]⟩
      · rcases x4 with q | ⟨_, _, _, _, mi', le, op, re, q⟩
        · exact absurd q z
        · rw [if_neg z, if_neg z, q]
          exact ⟨_, _, _, _, _, rfl⟩
  · obtain ⟨j, H, x1, x2⟩ := best_done (f10 := f10) (f8 := f8) (b_ := b_) hdn 10 0 999 (-1) (upd G 35 999)
    have th : ∀ k0 k1 k2 k3 k4, f_e_themeFor_x9 a1 a2 a3 a4 k0 k1 k2 k3 k4 v0 (G 4) v2 v3 (G 7) fta ftc fn c_ b_ = (-1, k0, k1, k2, k3, k4) := by
      intro k0 k1 k2 k3 k4
      unfold f_e_themeFor_x9
      rw [e_done hS, if_neg hdn]
    refine ⟨-1, H, ?_, fun k hk => (x2 k hk).trans (pk_un (by omega)), fun k0 k1 k2 k3 k4 => ⟨k0, k1, k2, k3, k4, th k0 k1 k2 k3 k4⟩, Or.inl rfl, fun k0 k1 k2 k3 k4 => ⟨k0, k1, k2, k3, k4, ?_⟩⟩
    · unfold f_m_best
      rw [x1]
    · unfold f_e_costFor_x9
      rw [th]
      dsimp (config := { etaStruct := .none }) only
      rw [if_pos rfl, if_pos rfl]
theorem A_bestTheme {k0 k1 k2 k3 k4 c_ b_ rx x0 x1 x2 x3 x4 ry : Int32} {y0 : Nat → Int32} (hG : GI G) (hW : WI w) (hR : RS q1 q2 ftx f13 t0 t1 t2 t3 t4 fta ftb ftc ftd fte f8 f9 f10 f11 f12 b0 fba fbb f43 f44 G) (hD : DY q10 q12 p1 p2 fn fsh fim fis f1 G w) (ex : (rx, x0, x1, x2, x3, x4) = f_e_bestTheme_x9 q1 q2 q10 q12 k0 k1 k2 k3 k4 t0 t1 t2 t3 t4 fta ftc fn c_ b_) (em : (ry, y0) = f_m_bestTheme G w f10 f8 c_ b_) : rx = ry := by
  obtain ⟨hX, ⟨et0, et1, et2, et3, et4, n4, n7, nA, nB, nF, nD, nE⟩, hK⟩ := hR
  obtain ⟨⟨hS, hB, hq⟩, hU, hI⟩ := hD
  unfold f_e_bestTheme_x9 at ex
  unfold f_m_bestTheme at em
  rw [et0, et1, et2, et4] at ex
  by_cases c1 : f_m_isCouple G c_ = 0
  · rw [if_pos c1] at em
    rw [if_pos ((q_couple hG _ _ _ _ _).mpr c1)] at ex
    cases ex; cases em
    rfl
  rw [if_neg c1] at em
  rw [if_neg (fun q => c1 ((q_couple hG _ _ _ _ _).mp q))] at ex
  by_cases c2 : f_m_isBridge G b_ = 0
  · rw [if_pos c2] at em
    rw [if_pos ((q_bridge hG _ _ _ _ _).mpr c2)] at ex
    cases ex; cases em
    rfl
  rw [if_neg c2] at em
  rw [if_neg (fun q => c2 ((q_bridge hG _ _ _ _ _).mp q))] at ex
  obtain ⟨a0, a1, a2⟩ := l_couple hG c1
  obtain ⟨b0', b1, b2⟩ := l_bridge hG c2
  obtain ⟨r, H, h1, h2, h3, h4, h5⟩ := best_spec (a1 := q1) (a2 := q2) (a3 := q10) (a4 := q12) (v0 := G 3) (v2 := G 5) (v3 := t3) hG ⟨n7, nA, nF⟩ hS hB a0 a1 b0' b1
  obtain ⟨g0, g1, g2, g3, g4, h6⟩ := h3 k0 k1 k2 k3 k4
  rw [h6] at ex
  rw [h1] at em
  cases ex; cases em
  rfl
/-- the reference's step, in three numbers -/
theorem hire_step {b_ c_ nx lo fo r : Int32} {n : Nat} {U : Nat → Int32} (hc : ¬ G 5 ≤ c_) (hb : f_m_best G w f10 f8 c_ b_ = (r, U)) (As : Int32) (hA : (if r = -1 then 1000000000 else U 35) = As) : f_m_hire_39 w f10 f8 b_ (n + 1) c_ nx lo fo G = (if lo ≤ As then f_m_hire_39 w f10 f8 b_ n (c_ + 1) (if nx ≤ As then nx else As) lo fo U else f_m_hire_39 w f10 f8 b_ n (c_ + 1) lo As c_ U) := by
  rw [f_m_hire_39_s, if_neg hc, hb]
  dsimp (config := { etaStruct := .none }) only
  by_cases z : r = -1
  · rw [if_pos z] at hA
    subst hA
    rw [if_pos z]
    by_cases d : lo ≤ 1000000000
    · by_cases e : nx ≤ 1000000000
      · simp only [if_pos d, if_pos e]
      · simp only [if_pos d, if_neg e]
    · simp only [if_neg d]
  · rw [if_neg z] at hA
    rw [if_neg z, hA]
    by_cases d : lo ≤ As
    · by_cases e : nx ≤ As
      · simp only [if_pos d, if_pos e]
      · simp only [if_pos d, if_neg e]
    · simp only [if_neg d]
def HN (hi lo nx fo lo' nx' : Int32) : Prop := fo = hi ∧ ((hi = -1 ∧ lo = -1 ∧ nx = -1 ∧ lo' = 1000000000 ∧ nx' = 1000000000) ∨ (hi ≠ -1 ∧ lo' = lo ∧ 0 ≤ lo.toInt ∧ lo.toInt ≤ 99 ∧ ((nx = -1 ∧ nx' = 1000000000) ∨ (nx ≠ -1 ∧ nx' = nx ∧ 0 ≤ nx.toInt ∧ nx.toInt ≤ 99))))
theorem hire_loop {a1 a2 a3 a4 l0 l1 l2 l3 l4 v0 v3 b_ w_ : Int32} (hS : ST fn w 0 0) (b0 : 0 ≤ b_.toInt) : ∀ (n m : Nat) (c_ nx lo hi nx' lo' fo : Int32) (G : Nat → Int32), GI G → TF G fta ftc f8 f10 → BI G w 0 → b_.toInt < (G 3).toInt → 0 ≤ c_.toInt → c_.toInt ≤ (G 5).toInt → (G 5).toInt - c_.toInt < n → (G 5).toInt - c_.toInt < m → HN hi lo nx fo lo' nx' → ∃ (j r1 r2 r3 j' s1 s2 s3 : Int32) (H : Nat → Int32), f_m_hire_39 w f10 f8 b_ n c_ nx' lo' fo G = (j', s1, s2, s3, H) ∧ (∀ k0 k1 k2 k3 k4, ∃ g0 g1 g2 g3 g4, f_e_hire_x9_37 a1 a2 a3 a4 l0 l1 l2 l3 l4 v0 (G 4) (G 5) v3 (G 7) fta ftc fn b_ w_ m c_ nx lo hi k0 k1 k2 k3 k4 = (j, r1, r2, r3, g0, g1, g2, g3, g4)) ∧ HN r3 r2 r1 s3 s2 s1 := by
  intro n
  induction n with
  | zero => intro m c_ nx lo hi nx' lo' fo G hG hT hB h3 h0 h1 h2; omega
  | succ n ih =>
    intro m c_ nx lo hi nx' lo' fo G hG hT hB h3 h0 h1 h2 h4 hn
    have g6 := hG.2.2.2.1.2
    cases m with
    | zero => omega
    | succ m =>
      by_cases c : G 5 ≤ c_
      · exact ⟨c_, nx, lo, hi, c_, nx', lo', fo, G, by rw [f_m_hire_39_s, if_pos c], fun k0 k1 k2 k3 k4 => ⟨k0, k1, k2, k3, k4, by rw [f_e_hire_x9_37_s, if_pos c]⟩, hn⟩
      · have c' := c
        rw [i_le] at c'
        have e := i_a1 (a := c_) (by omega) (by omega)
        have cm : ¬ c_ = -1 := by
          intro q
          rw [q, i_m1] at h0
          omega
        obtain ⟨r, U, h1', h2', h3', h4', h5'⟩ := best_spec (a1 := a1) (a2 := a2) (a3 := a3) (a4 := a4) (v0 := v0) (v2 := G 5) (v3 := v3) hG hT hS hB h0 (by omega) b0 h3
        have gU : GI U := GI.of h2' hG
        have tU : TF U fta ftc f8 f10 := TF_of hT (fun k a b => h2' k (by omega))
        have bU : BI U w 0 := BI_of hB (fun k _ => rfl) (h2' 3 (by decide)) (h2' 4 (by decide)) (h2' 5 (by decide)) (h2' 6 (by decide))
        have u4 := h2' 4 (by decide)
        have u5 := h2' 5 (by decide)
        have u7 := h2' 7 (by decide)
        have u3 := h2' 3 (by decide)
        have next : ∀ (nx2 lo2 hi2 nx2' lo2' fo2 : Int32), HN hi2 lo2 nx2 fo2 lo2' nx2' → f_m_hire_39 w f10 f8 b_ (n + 1) c_ nx' lo' fo G = f_m_hire_39 w f10 f8 b_ n (c_ + 1) nx2' lo2' fo2 U → (∀ k0 k1 k2 k3 k4, ∃ o0 o1 o2 o3 o4, f_e_hire_x9_37 a1 a2 a3 a4 l0 l1 l2 l3 l4 v0 (G 4) (G 5) v3 (G 7) fta ftc fn b_ w_ (m + 1) c_ nx lo hi k0 k1 k2 k3 k4 = f_e_hire_x9_37 a1 a2 a3 a4 l0 l1 l2 l3 l4 v0 (G 4) (G 5) v3 (G 7) fta ftc fn b_ w_ m (c_ + 1) nx2 lo2 hi2 o0 o1 o2 o3 o4) → ∃ (j r1 r2 r3 j' s1 s2 s3 : Int32) (H : Nat → Int32), f_m_hire_39 w f10 f8 b_ (n + 1) c_ nx' lo' fo G = (j', s1, s2, s3, H) ∧ (∀ k0 k1 k2 k3 k4, ∃ g0 g1 g2 g3 g4, f_e_hire_x9_37 a1 a2 a3 a4 l0 l1 l2 l3 l4 v0 (G 4) (G 5) v3 (G 7) fta ftc fn b_ w_ (m + 1) c_ nx lo hi k0 k1 k2 k3 k4 = (j, r1, r2, r3, g0, g1, g2, g3, g4)) ∧ HN r3 r2 r1 s3 s2 s1 := by
          intro nx2 lo2 hi2 nx2' lo2' fo2 hn2 hm he
          obtain ⟨j, r1, r2, r3, j', s1, s2, s3, H, x1, x2, x3⟩ := ih m (c_ + 1) nx2 lo2 hi2 nx2' lo2' fo2 U gU tU bU (by rw [u3]; exact h3) (by omega) (by rw [u5]; omega) (by rw [u5]; omega) (by rw [u5]; omega) hn2
          rw [u4, u5, u7] at x2
          refine ⟨j, r1, r2, r3, j', s1, s2, s3, H, by rw [hm, x1], fun k0 k1 k2 k3 k4 => ?_, x3⟩
          obtain ⟨o0, o1, o2, o3, o4, he'⟩ := he k0 k1 k2 k3 k4
          obtain ⟨g0, g1, g2, g3, g4, y⟩ := x2 o0 o1 o2 o3 o4
          exact ⟨g0, g1, g2, g3, g4, by rw [he', y]⟩
        have ibn : (1000000000 : Int32).toInt = 1000000000 := rfl
        have se : ∀ k0 k1 k2 k3 k4, ∃ o0 o1 o2 o3 o4, f_e_hire_x9_37 a1 a2 a3 a4 l0 l1 l2 l3 l4 v0 (G 4) (G 5) v3 (G 7) fta ftc fn b_ w_ (m + 1) c_ nx lo hi k0 k1 k2 k3 k4 = (if (if r = -1 then -1 else U 35) = -1 then f_e_hire_x9_37 a1 a2 a3 a4 l0 l1 l2 l3 l4 v0 (G 4) (G 5) v3 (G 7) fta ftc fn b_ w_ m (c_ + 1) nx lo hi o0 o1 o2 o3 o4 else (if hi = -1 then f_e_hire_x9_37 a1 a2 a3 a4 l0 l1 l2 l3 l4 v0 (G 4) (G 5) v3 (G 7) fta ftc fn b_ w_ m (c_ + 1) lo (if r = -1 then -1 else U 35) c_ o0 o1 o2 o3 o4 else (if lo ≤ (if r = -1 then -1 else U 35) then (if nx = -1 then f_e_hire_x9_37 a1 a2 a3 a4 l0 l1 l2 l3 l4 v0 (G 4) (G 5) v3 (G 7) fta ftc fn b_ w_ m (c_ + 1) (if r = -1 then -1 else U 35) lo hi o0 o1 o2 o3 o4 else (if nx ≤ (if r = -1 then -1 else U 35) then f_e_hire_x9_37 a1 a2 a3 a4 l0 l1 l2 l3 l4 v0 (G 4) (G 5) v3 (G 7) fta ftc fn b_ w_ m (c_ + 1) nx lo hi o0 o1 o2 o3 o4 else f_e_hire_x9_37 a1 a2 a3 a4 l0 l1 l2 l3 l4 v0 (G 4) (G 5) v3 (G 7) fta ftc fn b_ w_ m (c_ + 1) (if r = -1 then -1 else U 35) lo hi o0 o1 o2 o3 o4)) else f_e_hire_x9_37 a1 a2 a3 a4 l0 l1 l2 l3 l4 v0 (G 4) (G 5) v3 (G 7) fta ftc fn b_ w_ m (c_ + 1) lo (if r = -1 then -1 else U 35) c_ o0 o1 o2 o3 o4))) := by
          intro k0 k1 k2 k3 k4
          obtain ⟨o0, o1, o2, o3, o4, y⟩ := h5' k0 k1 k2 k3 k4
          refine ⟨o0, o1, o2, o3, o4, ?_⟩
          rw [f_e_hire_x9_37_s, if_neg c, y]
        obtain ⟨hn1, hn2⟩ := hn
        by_cases z : r = -1
        · simp only [if_pos z] at se
          refine next nx lo hi nx' lo' fo ⟨hn1, hn2⟩ ?_ se
          have ll : lo' ≤ 1000000000 := by
            rw [i_le, ibn]
            rcases hn2 with ⟨_, _, _, q, _⟩ | ⟨_, q, q1', q2', _⟩
            · rw [q, ibn]
              omega
            · rw [q]
              omega
          have ln : nx' ≤ 1000000000 := by
            rw [i_le, ibn]
            rcases hn2 with ⟨_, _, _, _, q⟩ | ⟨_, _, _, _, ⟨_, q⟩ | ⟨_, q, q1', q2'⟩⟩
            · rw [q, ibn]
              omega
            · rw [q, ibn]
              omega
            · rw [q]
              omega
          rw [hire_step c h1' 1000000000 (by rw [if_pos z]), if_pos ll, if_pos ln]
        · simp only [if_neg z] at se
          rcases h4' with q | ⟨_, _, p3, p4⟩
          · exact absurd q z
          have pm : ¬ U 35 = -1 := by
            intro q
            rw [q, i_m1] at p3
            omega
          simp only [if_neg pm] at se
          have hs := hire_step (n := n) (nx := nx') (lo := lo') (fo := fo) (w := w) (f10 := f10) (f8 := f8) c h1' (U 35) (by rw [if_neg z])
          rcases hn2 with ⟨y1, y2, y3, y4, y5⟩ | ⟨y1, y2, y3, y4, y5⟩
          · simp only [if_pos y1] at se
            have ll : ¬ lo' ≤ U 35 := by
              rw [i_le, y4, ibn]
              omega
            rw [if_neg ll] at hs
            refine next lo (U 35) c_ lo' (U 35) c_ ⟨rfl, Or.inr ⟨cm, rfl, p3, p4, Or.inl ⟨y2, y4⟩⟩⟩ hs se
          · simp only [if_neg y1] at se
            rw [y2] at hs
            by_cases d : lo ≤ U 35
            · simp only [if_pos d] at se
              rw [if_pos d] at hs
              rcases y5 with ⟨u1, u2⟩ | ⟨u1, u2, u3', u4'⟩
              · simp only [if_pos u1] at se
                have ln : ¬ nx' ≤ U 35 := by
                  rw [i_le, u2, ibn]
                  omega
                rw [if_neg ln] at hs
                exact next (U 35) lo hi (U 35) lo fo ⟨hn1, Or.inr ⟨y1, rfl, y3, y4, Or.inr ⟨pm, rfl, p3, p4⟩⟩⟩ (by rw [y2]; exact hs) se
              · simp only [if_neg u1] at se
                rw [u2] at hs
                by_cases d2 : nx ≤ U 35
                · simp only [if_pos d2] at se
                  rw [if_pos d2] at hs
                  exact next nx lo hi nx lo fo ⟨hn1, Or.inr ⟨y1, rfl, y3, y4, Or.inr ⟨u1, rfl, u3', u4'⟩⟩⟩ (by rw [y2, u2]; exact hs) se
                · simp only [if_neg d2] at se
                  rw [if_neg d2] at hs
                  exact next (U 35) lo hi (U 35) lo fo ⟨hn1, Or.inr ⟨y1, rfl, y3, y4, Or.inr ⟨pm, rfl, p3, p4⟩⟩⟩ (by rw [y2, u2]; exact hs) se
            · simp only [if_neg d] at se
              rw [if_neg d] at hs
              have lom : ¬ lo = -1 := by
                intro q
                rw [q, i_m1] at y3
                omega
              exact next lo (U 35) c_ lo (U 35) c_ ⟨rfl, Or.inr ⟨cm, rfl, p3, p4, Or.inr ⟨lom, rfl, y3, y4⟩⟩⟩ (by rw [y2]; exact hs) se
theorem A_hire {k0 k1 k2 k3 k4 b_ w_ rx x0 x1 x2 x3 x4 ry : Int32} {y0 : Nat → Int32} (hG : GI G) (hW : WI w) (hR : RS q1 q2 ftx f13 t0 t1 t2 t3 t4 fta ftb ftc ftd fte f8 f9 f10 f11 f12 b0 fba fbb f43 f44 G) (hD : DY q10 q12 p1 p2 fn fsh fim fis f1 G w) (ex : (rx, x0, x1, x2, x3, x4) = f_e_hire_x9 q1 q2 q10 q12 k0 k1 k2 k3 k4 t0 t1 t2 t3 t4 fta ftc fn b_ w_) (em : (ry, y0) = f_m_hire G w f10 f8 b_ w_) : rx = ry := by
  obtain ⟨hX, ⟨et0, et1, et2, et3, et4, n4, n7, nA, nB, nF, nD, nE⟩, hK⟩ := hR
  obtain ⟨⟨hS, hB, hq⟩, hU, hI⟩ := hD
  have g5 := hG.2.2.2.1
  unfold f_e_hire_x9 at ex
  unfold f_m_hire at em
  rw [et0, et1, et2, et4] at ex
  by_cases c2 : f_m_isBridge G b_ = 0
  · rw [if_pos c2] at em
    rw [if_pos ((q_bridge hG _ _ _ _ _).mpr c2)] at ex
    cases ex; cases em
    rfl
  rw [if_neg c2] at em
  rw [if_neg (fun q => c2 ((q_bridge hG _ _ _ _ _).mp q))] at ex
  obtain ⟨b0', b1, b2⟩ := l_bridge hG c2
  obtain ⟨j, r1, r2, r3, j', s1, s2, s3, H, h1, h2, h3⟩ := hire_loop (a1 := q1) (a2 := q2) (a3 := q10) (a4 := q12) (l0 := k0) (l1 := k1) (l2 := k2) (l3 := k3) (l4 := k4) (v0 := G 3) (v3 := t3) (w_ := w_) (fta := fta) (ftc := ftc) (f8 := f8) (f10 := f10) hS b0' 10 (((G 5).toInt - (0 : Int32).toInt).toNat + 1) 0 (-1) (-1) (-1) 1000000000 1000000000 (-1) G hG ⟨n7, nA, nF⟩ hB b1 (by decide) (by rw [i_0]; omega) (by rw [i_0]; omega) (by rw [i_0]; omega) ⟨rfl, Or.inl ⟨rfl, rfl, rfl, rfl, rfl⟩⟩
  obtain ⟨g0, g1, g2, g3, g4, h4⟩ := h2 k0 k1 k2 k3 k4
  rw [h4] at ex
  rw [h1] at em
  dsimp (config := { etaStruct := .none }) only at ex em
  by_cases c4 : f_m_in w_.toInt64 0 1 = 0
  · rw [if_pos c4] at em
    rw [i_in, Int32.toInt_toInt64] at c4
    simp only [Int64.reduceToInt] at c4
    have d0 : ¬ w_ = 0 := by
      rw [i_eq, i_0]
      omega
    have d1 : ¬ w_ = 1 := by
      rw [i_eq, i_1]
      omega
    rw [if_neg d0, if_neg d1] at ex
    cases ex; cases em
    rfl
  rw [if_neg c4] at em
  rw [i_in, Int32.toInt_toInt64] at c4
  simp only [Int64.reduceToInt] at c4
  obtain ⟨z0, z⟩ := h3
  by_cases d0 : w_ = 0
  · rw [if_pos d0, if_pos d0] at ex
    rw [if_pos d0] at em
    by_cases d3 : s3 = -1
    · rw [if_pos d3] at em
      cases ex; cases em
      exact z0.symm
    · rw [if_neg d3] at em
      cases ex; cases em
      exact z0.symm
  · have d1 : w_ = 1 := by
      rw [i_eq, i_0] at d0
      rw [i_eq, i_1]
      omega
    rw [if_neg d0, if_pos d1, if_neg d0] at ex
    rw [if_neg d0] at em
    rcases z with ⟨y1, y2, y3, y4, y5⟩ | ⟨y1, y2, y3, y4, y5⟩
    · rw [z0, if_pos y1] at em
      rw [if_pos y3] at ex
      cases ex; cases em
      rw [y1, y2]
    · rw [z0, if_neg y1] at em
      rcases y5 with ⟨u1, u2⟩ | ⟨u1, u2, u3, u4⟩
      · rw [if_pos u1] at ex
        rw [if_pos u2] at em
        cases ex; cases em
        exact y2.symm
      · rw [if_neg u1] at ex
        have un : ¬ s1 = 1000000000 := by
          have ibn : (1000000000 : Int32).toInt = 1000000000 := rfl
          rw [i_eq, u2, ibn]
          omega
        rw [if_neg un] at em
        cases ex; cases em
        exact u2.symm
end
end
section
/-! wear, who told her, what is carried up: side by side -/
section
variable {q1 q2 q10 q12 t0 t1 t2 t3 t4 p1 p2 b0 : Int32} {ftx fta ftb ftc ftd fte fn fsh fim fis fba fbb G w f1 f8 f9 f10 f11 f12 f13 f43 f44 : Nat → Int32}
theorem worn_in {a1 a2 a3 a4 l0 l1 l2 l3 l4 v0 v3 c_ : Int32} (hS : ST fn w 0 0) (c0 : 0 ≤ c_.toInt) (c2 : c_.toInt < 6) : ∀ (n m : Nat) (t lg : Int32) (G : Nat → Int32), GI G → TF G fta ftc f8 f10 → BI G w 0 → c_.toInt < (G 5).toInt → 0 ≤ t.toInt → t.toInt ≤ (G 4).toInt → (G 4).toInt - t.toInt < n → (G 4).toInt - t.toInt < m → 0 ≤ lg.toInt → lg.toInt ≤ 999 → ∃ (j j' r : Int32) (H : Nat → Int32), f_m_wornOut_22 w f10 c_ n t lg G = (j, r, H) ∧ (∀ k, k < 32 ∨ 35 ≤ k → H k = G k) ∧ 0 ≤ r.toInt ∧ r.toInt ≤ 999 ∧ ∀ k0 k1 k2 k3 k4, ∃ g0 g1 g2 g3 g4, f_e_wornOut_x9_37 a1 a2 a3 a4 l0 l1 l2 l3 l4 v0 (G 4) (G 5) v3 (G 7) ftc fn c_ m t lg k0 k1 k2 k3 k4 = (j', r, g0, g1, g2, g3, g4) := by
  intro n
  induction n with
  | zero => intro m t lg G hG hT hB h5 h0 h1 h2; omega
  | succ n ih =>
    intro m t lg G hG hT hB h5 h0 h1 h2 h4 g0 g1
    have g4 := hG.2.2.1.2
    cases m with
    | zero => omega
    | succ m =>
      by_cases c : G 4 ≤ t
      · exact ⟨t, t, lg, G, by rw [f_m_wornOut_22_s, if_pos c], fun k _ => rfl, g0, g1, fun k0 k1 k2 k3 k4 => ⟨k0, k1, k2, k3, k4, by rw [f_e_wornOut_x9_37_s, if_pos c]⟩⟩
      · have c' := c
        rw [i_le] at c'
        have e := i_a1 (a := t) (by omega) (by omega)
        obtain ⟨r, H, x1, x2, x3, x4, x5⟩ := lasts_spec (a1 := a1) (a2 := a2) (a3 := a3) (a4 := a4) (v0 := v0) (v1 := G 4) (v2 := G 5) (v3 := v3) hT hS hB c0 h5 c2 h0 (by omega) (by omega)
        have mx : (if lg < r then r else lg) = (if r ≤ lg then lg else r) := by
          by_cases q : lg < r
          · have q' : ¬ r ≤ lg := by
              rw [i_lt] at q
              rw [i_le]
              omega
            rw [if_pos q, if_neg q']
          · have q' : r ≤ lg := by
              rw [i_lt] at q
              rw [i_le]
              omega
            rw [if_neg q, if_pos q']
        have bx : 0 ≤ (if r ≤ lg then lg else r).toInt ∧ (if r ≤ lg then lg else r).toInt ≤ 999 := by
          by_cases q : r ≤ lg
          · rw [if_pos q]
            exact ⟨g0, g1⟩
          · rw [if_neg q]
            exact ⟨x3, x4⟩
        obtain ⟨j, j', r', K, y1, y2, y3, y4, y5⟩ := ih m (t + 1) (if r ≤ lg then lg else r) H (GI.of (G := G) (fun k hk => x2 k (by omega)) hG) (TF_of hT (fun k a b => x2 k (by omega))) (BI_of hB (fun k _ => rfl) (x2 3 (by decide)) (x2 4 (by decide)) (x2 5 (by decide)) (x2 6 (by decide))) (by rw [x2 5 (by decide)]; exact h5) (by omega) (by rw [x2 4 (by decide)]; omega) (by rw [x2 4 (by decide)]; omega) (by rw [x2 4 (by decide)]; omega) bx.1 bx.2
        rw [x2 4 (by decide), x2 5 (by decide), x2 7 (by decide)] at y5
        refine ⟨j, j', r', K, ?_, fun k hk => (y2 k hk).trans (x2 k hk), y3, y4, fun k0 k1 k2 k3 k4 => ?_⟩
        · rw [f_m_wornOut_22_s, if_neg c, x1]
          dsimp (config := { etaStruct := .none }) only
          by_cases q : r ≤ lg
          · rw [if_pos q] at y1 ⊢
            exact y1
          · rw [if_neg q] at y1 ⊢
            exact y1
        · obtain ⟨o0, o1, o2, o3, o4, z⟩ := x5 k0 k1 k2 k3 k4
          obtain ⟨p0, p1', p2', p3, p4, z'⟩ := y5 o0 o1 o2 o3 o4
          refine ⟨p0, p1', p2', p3, p4, ?_⟩
          rw [f_e_wornOut_x9_37_s, if_neg c, z]
          dsimp (config := { etaStruct := .none }) only
          rw [mx, z']
theorem worn_loop {a1 a2 a3 a4 l0 l1 l2 l3 l4 v0 v3 : Int32} (hS : ST fn w 0 0) : ∀ (n m : Nat) (c_ lm le sh fo : Int32) (G : Nat → Int32), GI G → TF G fta ftc f8 f10 → BI G w 0 → 0 ≤ c_.toInt → c_.toInt ≤ (G 5).toInt → (G 5).toInt - c_.toInt < n → (G 5).toInt - c_.toInt < m → fo = le → ((le = -1 ∧ sh = 1000000000) ∨ (le ≠ -1 ∧ sh = lm ∧ 0 ≤ lm.toInt ∧ lm.toInt ≤ 999)) → ∃ (j j' s r r' : Int32) (H : Nat → Int32), f_m_wornOut_8 w f10 n c_ sh fo G = (j, s, r, H) ∧ ∀ k0 k1 k2 k3 k4, ∃ g0 g1 g2 g3 g4, f_e_wornOut_x9_6 a1 a2 a3 a4 l0 l1 l2 l3 l4 v0 (G 4) (G 5) v3 (G 7) ftc fn m c_ lm le k0 k1 k2 k3 k4 = (j', r', r, g0, g1, g2, g3, g4) := by
  intro n
  induction n with
  | zero => intro m c_ lm le sh fo G hG hT hB h0 h1 h2; omega
  | succ n ih =>
    intro m c_ lm le sh fo G hG hT hB h0 h1 h2 h4 hf hr
    have g6 := hG.2.2.2.1.2
    have g4 := hG.2.2.1
    subst hf
    cases m with
    | zero => omega
    | succ m =>
      by_cases c : G 5 ≤ c_
      · exact ⟨c_, c_, sh, fo, lm, G, by rw [f_m_wornOut_8_s, if_pos c], fun k0 k1 k2 k3 k4 => ⟨k0, k1, k2, k3, k4, by rw [f_e_wornOut_x9_6_s, if_pos c]⟩⟩
      · have c' := c
        rw [i_le] at c'
        have e := i_a1 (a := c_) (by omega) (by omega)
        have cm : c_ ≠ -1 := by
          intro q
          rw [q, i_m1] at h0
          omega
        have ibn : (1000000000 : Int32).toInt = 1000000000 := rfl
        obtain ⟨j, j', r, H, x1, x2, x3, x4, x5⟩ := worn_in (a1 := a1) (a2 := a2) (a3 := a3) (a4 := a4) (l0 := l0) (l1 := l1) (l2 := l2) (l3 := l3) (l4 := l4) (v0 := v0) (v3 := v3) (fta := fta) (ftc := ftc) (f8 := f8) (f10 := f10) hS h0 (by omega) 10 (((G 4).toInt - (0 : Int32).toInt).toNat + 1) 0 0 G hG hT hB (by omega) (by decide) (by rw [i_0]; omega) (by rw [i_0]; omega) (by rw [i_0]; omega) (by decide) (by decide)
        have next : ∀ (lm2 le2 sh2 : Int32), ((le2 = -1 ∧ sh2 = 1000000000) ∨ (le2 ≠ -1 ∧ sh2 = lm2 ∧ 0 ≤ lm2.toInt ∧ lm2.toInt ≤ 999)) → f_m_wornOut_8 w f10 (n + 1) c_ sh fo G = f_m_wornOut_8 w f10 n (c_ + 1) sh2 le2 H → (∀ k0 k1 k2 k3 k4, ∃ o0 o1 o2 o3 o4, f_e_wornOut_x9_6 a1 a2 a3 a4 l0 l1 l2 l3 l4 v0 (G 4) (G 5) v3 (G 7) ftc fn (m + 1) c_ lm fo k0 k1 k2 k3 k4 = f_e_wornOut_x9_6 a1 a2 a3 a4 l0 l1 l2 l3 l4 v0 (G 4) (G 5) v3 (G 7) ftc fn m (c_ + 1) lm2 le2 o0 o1 o2 o3 o4) → ∃ (j j' s r r' : Int32) (H : Nat → Int32), f_m_wornOut_8 w f10 (n + 1) c_ sh fo G = (j, s, r, H) ∧ ∀ k0 k1 k2 k3 k4, ∃ g0 g1 g2 g3 g4, f_e_wornOut_x9_6 a1 a2 a3 a4 l0 l1 l2 l3 l4 v0 (G 4) (G 5) v3 (G 7) ftc fn (m + 1) c_ lm fo k0 k1 k2 k3 k4 = (j', r', r, g0, g1, g2, g3, g4) := by
          intro lm2 le2 sh2 hr2 hm he
          obtain ⟨j, j', s, r, r', K, y1, y2⟩ := ih m (c_ + 1) lm2 le2 sh2 le2 H (GI.of (G := G) (fun k hk => x2 k (by omega)) hG) (TF_of hT (fun k a b => x2 k (by omega))) (BI_of hB (fun k _ => rfl) (x2 3 (by decide)) (x2 4 (by decide)) (x2 5 (by decide)) (x2 6 (by decide))) (by omega) (by rw [x2 5 (by decide)]; omega) (by rw [x2 5 (by decide)]; omega) (by rw [x2 5 (by decide)]; omega) rfl hr2
          rw [x2 4 (by decide), x2 5 (by decide), x2 7 (by decide)] at y2
          refine ⟨j, j', s, r, r', K, by rw [hm, y1], fun k0 k1 k2 k3 k4 => ?_⟩
          obtain ⟨o0, o1, o2, o3, o4, z⟩ := he k0 k1 k2 k3 k4
          obtain ⟨p0, p1', p2', p3, p4, z'⟩ := y2 o0 o1 o2 o3 o4
          exact ⟨p0, p1', p2', p3, p4, by rw [z, z']⟩
        have hm : f_m_wornOut_8 w f10 (n + 1) c_ sh fo G = (if (f_m_isDone w c_) = 0 then (if sh ≤ r then (f_m_wornOut_8 w f10 n (c_ + 1) sh fo H) else (f_m_wornOut_8 w f10 n (c_ + 1) r c_ H)) else (f_m_wornOut_8 w f10 n (c_ + 1) sh fo H)) := by
          rw [f_m_wornOut_8_s, if_neg c, x1]
        by_cases d : f_m_isDone w c_ = 0
        · rw [if_pos d] at hm
          have he : ∀ k0 k1 k2 k3 k4, ∃ o0 o1 o2 o3 o4, f_e_wornOut_x9_6 a1 a2 a3 a4 l0 l1 l2 l3 l4 v0 (G 4) (G 5) v3 (G 7) ftc fn (m + 1) c_ lm fo k0 k1 k2 k3 k4 = (if fo = -1 then f_e_wornOut_x9_6 a1 a2 a3 a4 l0 l1 l2 l3 l4 v0 (G 4) (G 5) v3 (G 7) ftc fn m (c_ + 1) r c_ o0 o1 o2 o3 o4 else (if lm ≤ r then f_e_wornOut_x9_6 a1 a2 a3 a4 l0 l1 l2 l3 l4 v0 (G 4) (G 5) v3 (G 7) ftc fn m (c_ + 1) lm fo o0 o1 o2 o3 o4 else f_e_wornOut_x9_6 a1 a2 a3 a4 l0 l1 l2 l3 l4 v0 (G 4) (G 5) v3 (G 7) ftc fn m (c_ + 1) r c_ o0 o1 o2 o3 o4)) := by
            intro k0 k1 k2 k3 k4
            obtain ⟨o0, o1, o2, o3, o4, z⟩ := x5 k0 k1 k2 k3 k4
            refine ⟨o0, o1, o2, o3, o4, ?_⟩
            rw [f_e_wornOut_x9_6_s, if_neg c, e_done hS, if_pos d, z]
          rcases hr with ⟨q1', q2'⟩ | ⟨q1', q2', q3', q4'⟩
          · have ln : ¬ sh ≤ r := by
              rw [i_le, q2', ibn]
              omega
            rw [if_neg ln] at hm
            simp only [if_pos q1'] at he
            exact next r c_ r (Or.inr ⟨cm, rfl, x3, x4⟩) hm he
          · simp only [if_neg q1'] at he
            by_cases d2 : lm ≤ r
            · simp only [if_pos d2] at he
              rw [q2', if_pos d2] at hm
              exact next lm fo lm (Or.inr ⟨q1', rfl, q3', q4'⟩) (by rw [q2']; exact hm) he
            · simp only [if_neg d2] at he
              rw [q2', if_neg d2] at hm
              exact next r c_ r (Or.inr ⟨cm, rfl, x3, x4⟩) (by rw [q2']; exact hm) he
        · rw [if_neg d] at hm
          refine next lm fo sh hr hm (fun k0 k1 k2 k3 k4 => ⟨k0, k1, k2, k3, k4, ?_⟩)
          rw [f_e_wornOut_x9_6_s, if_neg c, e_done hS, if_neg d]
theorem A_wornOut {k0 k1 k2 k3 k4 rx x0 x1 x2 x3 x4 ry : Int32} {y0 : Nat → Int32} (hG : GI G) (hW : WI w) (hR : RS q1 q2 ftx f13 t0 t1 t2 t3 t4 fta ftb ftc ftd fte f8 f9 f10 f11 f12 b0 fba fbb f43 f44 G) (hD : DY q10 q12 p1 p2 fn fsh fim fis f1 G w) (ex : (rx, x0, x1, x2, x3, x4) = f_e_wornOut_x9 q1 q2 q10 q12 k0 k1 k2 k3 k4 t0 t1 t2 t3 t4 ftc fn) (em : (ry, y0) = f_m_wornOut G w f10) : rx = ry := by
  obtain ⟨hX, ⟨et0, et1, et2, et3, et4, n4, n7, nA, nB, nF, nD, nE⟩, hK⟩ := hR
  obtain ⟨⟨hS, hB, hq⟩, hU, hI⟩ := hD
  have g5 := hG.2.2.2.1
  unfold f_e_wornOut_x9 at ex
  unfold f_m_wornOut at em
  rw [et1, et2, et4] at ex
  obtain ⟨j, j', s, r, r', H, h1, h2⟩ := worn_loop (a1 := q1) (a2 := q2) (a3 := q10) (a4 := q12) (l0 := k0) (l1 := k1) (l2 := k2) (l3 := k3) (l4 := k4) (v0 := t0) (v3 := t3) (fta := fta) (ftc := ftc) (f8 := f8) (f10 := f10) hS 10 (((G 5).toInt - (0 : Int32).toInt).toNat + 1) 0 0 (-1) 1000000000 (-1) G hG ⟨n7, nA, nF⟩ hB (by decide) (by rw [i_0]; omega) (by rw [i_0]; omega) (by rw [i_0]; omega) rfl (Or.inl ⟨rfl, rfl⟩)
  obtain ⟨g0, g1, g2, g3, g4, h3⟩ := h2 k0 k1 k2 k3 k4
  rw [h3] at ex
  rw [h1] at em
  cases ex; cases em
  rfl
/-- the answer so far: the i-th of those found -/
def TH (i fo X : Int32) (ff : Nat → Int32) : Prop := X = (if 0 ≤ i.toInt ∧ i.toInt < fo.toInt then ff i.toNatClampNeg else -1)
theorem told_in {a1 a2 a3 a4 l0 l1 l2 l3 l4 v0 v3 b_ k_ i_ c_ : Int32} {ff0 : Nat → Int32} (c0 : 0 ≤ c_.toInt) (c2 : c_.toInt < 6) (b0 : 0 ≤ b_.toInt) (k1' : 1 ≤ k_.toInt) : ∀ (n m : Nat) (t ab fo X : Int32) (ff G : Nat → Int32), GI G → TF G fta ftc f8 f10 → AG ftb f9 (G 5).toInt 0 99 → b_.toInt < (G 3).toInt → c_.toInt < (G 5).toInt → 0 ≤ t.toInt → t.toInt ≤ (G 4).toInt → (G 4).toInt - t.toInt < n → (G 4).toInt - t.toInt < m → 0 ≤ fo.toInt → fo.toInt ≤ 5 * c_.toInt + t.toInt → TH i_ fo X ff → ∃ (j j' ab' fo' X' : Int32) (ff' H : Nat → Int32), f_m_toldHer_50 f9 f10 f8 b_ k_ i_ c_ n t X ab fo G = (j, X', ab', fo', H) ∧ (∀ k, k < 32 ∨ 35 ≤ k → H k = G k) ∧ 0 ≤ fo'.toInt ∧ fo'.toInt ≤ 5 * c_.toInt + 5 ∧ TH i_ fo' X' ff' ∧ ∀ k0 k1 k2 k3 k4, ∃ g0 g1 g2 g3 g4, f_e_toldHer_x9_52 a1 a2 a3 a4 l0 l1 l2 l3 l4 v0 (G 4) (G 5) v3 (G 7) fta ftb ftc ff0 b_ k_ i_ c_ m t ab fo k0 k1 k2 k3 k4 ff = (j', ab', fo', g0, g1, g2, g3, g4, ff') := by
  intro n
  induction n with
  | zero => intro m t ab fo X ff G hG hT hA h3 h5 h0 h1 h2; omega
  | succ n ih =>
    intro m t ab fo X ff G hG hT hA h3 h5 h0 h1 h2 h4 f0 f5 hX
    have g4 := hG.2.2.1.2
    have g3 := hG.2.1.2
    cases m with
    | zero => omega
    | succ m =>
      by_cases c : G 4 ≤ t
      · exact ⟨t, t, ab, fo, X, ff, G, by rw [f_m_toldHer_50_s, if_pos c], fun k _ => rfl, f0, by omega, hX, fun k0 k1 k2 k3 k4 => ⟨k0, k1, k2, k3, k4, by rw [f_e_toldHer_x9_52_s, if_pos c]⟩⟩
      · have c' := c
        rw [i_le] at c'
        have e := i_a1 (a := t) (by omega) (by omega)
        obtain ⟨_, n2, n3, n4⟩ := force_in hT c0 h5 c2 h0 (by omega) (by omega)
        obtain ⟨ga, gb, gc⟩ := hA c_.toNatClampNeg (by rw [clI c0]; exact h5)
        have nb : atF 6 fta b_ = f8 b_.toNatClampNeg := by
          rw [at_in b0 (by omega)]
          exact (hT.2.1 b_.toNatClampNeg (by rw [clI b0]; exact h3)).1
        have ng : atF 6 ftb c_ = f9 c_.toNatClampNeg := by
          rw [at_in c0 c2]
          exact ga
        obtain ⟨H, re, r1, r2, r3, r4, r5, r6, r7, r8, r9, r10, r11⟩ := run_eq (G := G) (f10 := f10) (c := c_) (t := t) (g := f9 c_.toNatClampNeg) (n1 := f8 b_.toNatClampNeg) (n2 := f8 b_.toNatClampNeg) gb gc hT.1 n3 n4 (fun z _ _ => Iff.rfl)
        have next : ∀ (ab2 fo2 X2 : Int32) (ff2 : Nat → Int32), 0 ≤ fo2.toInt → fo2.toInt ≤ 5 * c_.toInt + (t.toInt + 1) → TH i_ fo2 X2 ff2 → f_m_toldHer_50 f9 f10 f8 b_ k_ i_ c_ (n + 1) t X ab fo G = f_m_toldHer_50 f9 f10 f8 b_ k_ i_ c_ n (t + 1) X2 ab2 fo2 H → (∀ k0 k1 k2 k3 k4, f_e_toldHer_x9_52 a1 a2 a3 a4 l0 l1 l2 l3 l4 v0 (G 4) (G 5) v3 (G 7) fta ftb ftc ff0 b_ k_ i_ c_ (m + 1) t ab fo k0 k1 k2 k3 k4 ff = f_e_toldHer_x9_52 a1 a2 a3 a4 l0 l1 l2 l3 l4 v0 (G 4) (G 5) v3 (G 7) fta ftb ftc ff0 b_ k_ i_ c_ m (t + 1) ab2 fo2 (H 32) (f9 c_.toNatClampNeg - H 33) (H 33) (H 34) re ff2) → ∃ (j j' ab' fo' X' : Int32) (ff' H : Nat → Int32), f_m_toldHer_50 f9 f10 f8 b_ k_ i_ c_ (n + 1) t X ab fo G = (j, X', ab', fo', H) ∧ (∀ k, k < 32 ∨ 35 ≤ k → H k = G k) ∧ 0 ≤ fo'.toInt ∧ fo'.toInt ≤ 5 * c_.toInt + 5 ∧ TH i_ fo' X' ff' ∧ ∀ k0 k1 k2 k3 k4, ∃ g0 g1 g2 g3 g4, f_e_toldHer_x9_52 a1 a2 a3 a4 l0 l1 l2 l3 l4 v0 (G 4) (G 5) v3 (G 7) fta ftb ftc ff0 b_ k_ i_ c_ (m + 1) t ab fo k0 k1 k2 k3 k4 ff = (j', ab', fo', g0, g1, g2, g3, g4, ff') := by
          intro ab2 fo2 X2 ff2 q0 q1' q2' hm he
          obtain ⟨j, j', ab', fo', X', ff', K, y1, y2, y3, y4, y5, y6⟩ := ih m (t + 1) ab2 fo2 X2 ff2 H (GI.of (G := G) (fun k hk => r3 k (by omega)) hG) (TF_of hT (fun k a b => r3 k (by omega))) (by rw [r3 5 (by decide)]; exact hA) (by rw [r3 3 (by decide)]; exact h3) (by rw [r3 5 (by decide)]; exact h5) (by omega) (by rw [r3 4 (by decide)]; omega) (by rw [r3 4 (by decide)]; omega) (by rw [r3 4 (by decide)]; omega) q0 (by omega) q2'
          rw [r3 4 (by decide), r3 5 (by decide), r3 7 (by decide)] at y6
          refine ⟨j, j', ab', fo', X', ff', K, by rw [hm, y1], fun k hk => (y2 k hk).trans (r3 k hk), y3, y4, y5, fun k0 k1 k2 k3 k4 => ?_⟩
          obtain ⟨g0, g1, g2, g3', g4', z⟩ := y6 (H 32) (f9 c_.toNatClampNeg - H 33) (H 33) (H 34) re
          exact ⟨g0, g1, g2, g3', g4', by rw [he, z]⟩
        have se : ∀ k0 k1 k2 k3 k4, f_e_toldHer_x9_52 a1 a2 a3 a4 l0 l1 l2 l3 l4 v0 (G 4) (G 5) v3 (G 7) fta ftb ftc ff0 b_ k_ i_ c_ (m + 1) t ab fo k0 k1 k2 k3 k4 ff = (if H 34 = 0 then (if re = 0 then f_e_toldHer_x9_52 a1 a2 a3 a4 l0 l1 l2 l3 l4 v0 (G 4) (G 5) v3 (G 7) fta ftb ftc ff0 b_ k_ i_ c_ m (t + 1) ab fo (H 32) (f9 c_.toNatClampNeg - H 33) (H 33) (H 34) re ff else (if H 32 = k_ then f_e_toldHer_x9_52 a1 a2 a3 a4 l0 l1 l2 l3 l4 v0 (G 4) (G 5) v3 (G 7) fta ftb ftc ff0 b_ k_ i_ c_ m (t + 1) (ab ||| (1 <<< (t &&& 31))) (fo + 1) (H 32) (f9 c_.toNatClampNeg - H 33) (H 33) (H 34) re (putF 30 ff fo (10 * c_ + t)) else f_e_toldHer_x9_52 a1 a2 a3 a4 l0 l1 l2 l3 l4 v0 (G 4) (G 5) v3 (G 7) fta ftb ftc ff0 b_ k_ i_ c_ m (t + 1) ab fo (H 32) (f9 c_.toNatClampNeg - H 33) (H 33) (H 34) re ff)) else f_e_toldHer_x9_52 a1 a2 a3 a4 l0 l1 l2 l3 l4 v0 (G 4) (G 5) v3 (G 7) fta ftb ftc ff0 b_ k_ i_ c_ m (t + 1) ab fo (H 32) (f9 c_.toNatClampNeg - H 33) (H 33) (H 34) re ff) := by
          intro k0 k1 k2 k3 k4
          rw [f_e_toldHer_x9_52_s, if_neg c]
          unfold f_e_forceOf_x8
          rw [ng, n2, nb, r2]
        have sm' : f_m_toldHer_50 f9 f10 f8 b_ k_ i_ c_ (n + 1) t X ab fo G = (if H 34 = 0 then (if H 33 = 0 then (if H 32 = k_ then (if fo = i_ then f_m_toldHer_50 f9 f10 f8 b_ k_ i_ c_ n (t + 1) (10 * c_ + t) (ab ||| (1 <<< (t &&& 31))) (fo + 1) H else f_m_toldHer_50 f9 f10 f8 b_ k_ i_ c_ n (t + 1) X (ab ||| (1 <<< (t &&& 31))) (fo + 1) H) else f_m_toldHer_50 f9 f10 f8 b_ k_ i_ c_ n (t + 1) X ab fo H) else f_m_toldHer_50 f9 f10 f8 b_ k_ i_ c_ n (t + 1) X ab fo H) else f_m_toldHer_50 f9 f10 f8 b_ k_ i_ c_ n (t + 1) X ab fo H) := by
          rw [f_m_toldHer_50_s, if_neg c, r1]
        by_cases z1 : H 34 = 0
        · simp only [if_pos z1] at se sm'
          by_cases z2 : H 32 = k_
          · by_cases z3 : H 33 = 0
            · have rn : ¬ re = 0 := r6.mpr ⟨z3, by rw [z2]; omega⟩
              simp only [if_neg rn, if_pos z2] at se
              rw [if_pos z3, if_pos z2] at sm'
              have ef := i_a1 (a := fo) (by omega) (by omega)
              rw [put_in f0 (by omega)] at se
              by_cases z4 : fo = i_
              · rw [if_pos z4] at sm'
                refine next _ _ _ _ (by omega) (by omega) ?_ sm' se
                unfold TH
                rw [if_pos (by rw [← z4]; omega), ← z4, pk_us]
              · rw [if_neg z4] at sm'
                refine next _ _ _ _ (by omega) (by omega) ?_ sm' se
                unfold TH at hX ⊢
                rw [hX]
                by_cases z5 : 0 ≤ i_.toInt ∧ i_.toInt < fo.toInt
                · rw [if_pos z5, if_pos (by omega), pk_un]
                  intro q
                  rw [i_clamp, i_clamp] at q
                  omega
                · rw [if_neg z5, if_neg]
                  rw [i_eq] at z4
                  omega
            · have rz : re = 0 := by
                by_cases z : re = 0
                · exact z
                · exact absurd (r6.mp z).1 z3
              simp only [if_pos rz] at se
              rw [if_neg z3] at sm'
              exact next _ _ _ _ f0 (by omega) hX sm' (fun k0 k1 k2 k3 k4 => se k0 k1 k2 k3 k4)
          · simp only [if_neg z2, ite_self] at se sm'
            exact next _ _ _ _ f0 (by omega) hX sm' se
        · simp only [if_neg z1] at se sm'
          exact next _ _ _ _ f0 (by omega) hX sm' se
theorem told_loop {a1 a2 a3 a4 l0 l1 l2 l3 l4 v0 v3 b_ k_ i_ : Int32} {ff0 : Nat → Int32} (b0 : 0 ≤ b_.toInt) (k1' : 1 ≤ k_.toInt) : ∀ (n m : Nat) (c_ ab fo X : Int32) (ff G : Nat → Int32), GI G → TF G fta ftc f8 f10 → AG ftb f9 (G 5).toInt 0 99 → b_.toInt < (G 3).toInt → 0 ≤ c_.toInt → c_.toInt ≤ (G 5).toInt → (G 5).toInt - c_.toInt < n → (G 5).toInt - c_.toInt < m → 0 ≤ fo.toInt → fo.toInt ≤ 5 * c_.toInt → TH i_ fo X ff → ∃ (j j' ab' fo' X' : Int32) (ff' H : Nat → Int32), f_m_toldHer_38 f9 f10 f8 b_ k_ i_ n c_ X ab fo G = (j, X', ab', fo', H) ∧ 0 ≤ fo'.toInt ∧ fo'.toInt ≤ 30 ∧ TH i_ fo' X' ff' ∧ ∀ k0 k1 k2 k3 k4, ∃ g0 g1 g2 g3 g4, f_e_toldHer_x9_37 a1 a2 a3 a4 l0 l1 l2 l3 l4 v0 (G 4) (G 5) v3 (G 7) fta ftb ftc ff0 b_ k_ i_ m c_ ab fo k0 k1 k2 k3 k4 ff = (j', ab', fo', g0, g1, g2, g3, g4, ff') := by
  intro n
  induction n with
  | zero => intro m c_ ab fo X ff G hG hT hA h3 h0 h1 h2; omega
  | succ n ih =>
    intro m c_ ab fo X ff G hG hT hA h3 h0 h1 h2 h4 f0 f5 hX
    have g6 := hG.2.2.2.1.2
    have g4 := hG.2.2.1
    cases m with
    | zero => omega
    | succ m =>
      by_cases c : G 5 ≤ c_
      · exact ⟨c_, c_, ab, fo, X, ff, G, by rw [f_m_toldHer_38_s, if_pos c], f0, by omega, hX, fun k0 k1 k2 k3 k4 => ⟨k0, k1, k2, k3, k4, by rw [f_e_toldHer_x9_37_s, if_pos c]⟩⟩
      · have c' := c
        rw [i_le] at c'
        have e := i_a1 (a := c_) (by omega) (by omega)
        obtain ⟨j, j', ab', fo', X', ff', H, y1, y2, y3, y4, y5, y6⟩ := told_in (a1 := a1) (a2 := a2) (a3 := a3) (a4 := a4) (l0 := l0) (l1 := l1) (l2 := l2) (l3 := l3) (l4 := l4) (v0 := v0) (v3 := v3) (fta := fta) (ftb := ftb) (ftc := ftc) (f8 := f8) (f9 := f9) (f10 := f10) (ff0 := ff0) h0 (by omega) b0 k1' 10 (((G 4).toInt - (0 : Int32).toInt).toNat + 1) 0 ab fo X ff G hG hT hA h3 (by omega) (by decide) (by rw [i_0]; omega) (by rw [i_0]; omega) (by rw [i_0]; omega) f0 (by rw [i_0]; omega) hX
        obtain ⟨j2, j2', ab2, fo2, X2, ff2, K, u1, u2, u3, u4, u5⟩ := ih m (c_ + 1) ab' fo' X' ff' H (GI.of (G := G) (fun k hk => y2 k (by omega)) hG) (TF_of hT (fun k a b => y2 k (by omega))) (by rw [y2 5 (by decide)]; exact hA) (by rw [y2 3 (by decide)]; exact h3) (by omega) (by rw [y2 5 (by decide)]; omega) (by rw [y2 5 (by decide)]; omega) (by rw [y2 5 (by decide)]; omega) y3 (by omega) y5
        rw [y2 4 (by decide), y2 5 (by decide), y2 7 (by decide)] at u5
        refine ⟨j2, j2', ab2, fo2, X2, ff2, K, ?_, u2, u3, u4, fun k0 k1 k2 k3 k4 => ?_⟩
        · rw [f_m_toldHer_38_s, if_neg c, y1]
          exact u1
        · obtain ⟨o0, o1, o2, o3, o4, z⟩ := y6 k0 k1 k2 k3 k4
          obtain ⟨p0, p1', p2', p3, p4, z'⟩ := u5 o0 o1 o2 o3 o4
          refine ⟨p0, p1', p2', p3, p4, ?_⟩
          rw [f_e_toldHer_x9_37_s, if_neg c, z]
          exact z'
theorem A_toldHer {k0 k1 k2 k3 k4 b_ k_ i_ rx x0 x1 x2 x3 x4 ry : Int32} {fft x5 y0 : Nat → Int32} (hG : GI G) (hW : WI w) (hR : RS q1 q2 ftx f13 t0 t1 t2 t3 t4 fta ftb ftc ftd fte f8 f9 f10 f11 f12 b0 fba fbb f43 f44 G) (hD : DY q10 q12 p1 p2 fn fsh fim fis f1 G w) (ex : (rx, x0, x1, x2, x3, x4, x5) = f_e_toldHer_x9 q1 q2 q10 q12 k0 k1 k2 k3 k4 t0 t1 t2 t3 t4 fta ftb ftc fft b_ k_ i_) (em : (ry, y0) = f_m_toldHer G f9 f10 f8 b_ k_ i_) : rx = ry := by
  obtain ⟨hX, ⟨et0, et1, et2, et3, et4, n4, n7, nA, nB, nF, nD, nE⟩, hK⟩ := hR
  have g5 := hG.2.2.2.1
  unfold f_e_toldHer_x9 at ex
  unfold f_m_toldHer at em
  rw [et0, et1, et2, et4] at ex
  by_cases c2 : f_m_isBridge G b_ = 0
  · rw [if_pos c2] at em
    rw [if_pos ((q_bridge hG _ _ _ _ _).mpr c2)] at ex
    cases ex; cases em
    rfl
  rw [if_neg c2] at em
  rw [if_neg (fun q => c2 ((q_bridge hG _ _ _ _ _).mp q))] at ex
  obtain ⟨b0', b1, b2⟩ := l_bridge hG c2
  by_cases c4 : f_m_in k_.toInt64 1 60 = 0
  · rw [if_pos c4] at em
    rw [i_in, Int32.toInt_toInt64] at c4
    simp only [Int64.reduceToInt] at c4
    by_cases d1 : k_ < 1
    · rw [if_pos d1] at ex
      cases ex; cases em
      rfl
    · rw [if_neg d1] at ex
      have d2 : ¬ k_ ≤ 60 := by
        simp only [i_lt, i_le, Int32.reduceToInt] at d1 ⊢
        omega
      rw [if_neg d2] at ex
      cases ex; cases em
      rfl
  rw [if_neg c4] at em
  rw [i_in, Int32.toInt_toInt64] at c4
  simp only [Int64.reduceToInt] at c4
  have d1 : ¬ k_ < 1 := by
    simp only [i_lt, Int32.reduceToInt]
    omega
  have d2 : k_ ≤ 60 := by
    simp only [i_le, Int32.reduceToInt]
    omega
  rw [if_neg d1, if_pos d2] at ex
  obtain ⟨j, j', ab, fo, X, ff, H, h1, h2, h3, h4, h5⟩ := told_loop (a1 := q1) (a2 := q2) (a3 := q10) (a4 := q12) (l0 := k0) (l1 := k1) (l2 := k2) (l3 := k3) (l4 := k4) (v0 := G 3) (v3 := t3) (k_ := k_) (i_ := i_) (fta := fta) (ftb := ftb) (ftc := ftc) (f8 := f8) (f9 := f9) (f10 := f10) (ff0 := fft) b0' (by omega) 10 (((G 5).toInt - (0 : Int32).toInt).toNat + 1) 0 0 0 (-1) fft G hG ⟨n7, nA, nF⟩ nB b1 (by decide) (by rw [i_0]; omega) (by rw [i_0]; omega) (by rw [i_0]; omega) (by decide) (by decide) (by
    unfold TH
    rw [if_neg]
    rw [i_0]
    omega)
  obtain ⟨g0, g1, g2, g3, g4, h6⟩ := h5 k0 k1 k2 k3 k4
  rw [h6] at ex
  rw [h1] at em
  dsimp (config := { etaStruct := .none }) only at ex em
  by_cases e1 : i_ = -1
  · rw [if_pos e1] at ex em
    cases ex; cases em
    rfl
  rw [if_neg e1] at ex em
  by_cases e2 : i_ = -2
  · rw [if_pos e2] at ex em
    cases ex; cases em
    rfl
  rw [if_neg e2] at ex em
  unfold TH at h4
  by_cases e3 : i_ < 0
  · rw [if_pos e3] at ex
    rw [i_lt, i_0] at e3
    rw [if_neg (by omega)] at h4
    cases ex; cases em
    exact h4.symm
  · rw [if_neg e3] at ex
    rw [i_lt, i_0] at e3
    by_cases e4 : fo ≤ i_
    · rw [if_pos e4] at ex
      rw [i_le] at e4
      rw [if_neg (by omega)] at h4
      cases ex; cases em
      exact h4.symm
    · rw [if_neg e4] at ex
      rw [i_le] at e4
      rw [if_pos (by omega)] at h4
      rw [at_in (by omega) (by omega)] at ex
      cases ex; cases em
      exact h4.symm
/-- once a bridge has been found, it stays -/
theorem car_stay {b_ : Int32} : ∀ (n : Nat) (e th fi co : Int32), fi ≠ -1 → (f_m_carried_63 G w b_ n e th fi co).2.2.1 = fi := by
  intro n
  induction n with
  | zero => intro e th fi co h; rfl
  | succ n ih =>
    intro e th fi co h
    rw [f_m_carried_63_s]
    by_cases c : G 3 ≤ e
    · rw [if_pos c]
    · rw [if_neg c, if_neg h]
      by_cases d1 : co = 0
      · simp only [if_pos d1]
        by_cases d2 : e = b_
        · simp only [if_pos d2]
          by_cases d3 : f_m_whoIsAt G w 0 e = -1
          · simp only [if_pos d3]
            exact ih _ _ _ _ h
          · simp only [if_neg d3]
            exact ih _ _ _ _ h
        · simp only [if_neg d2]
          by_cases d3 : f_m_whoIsAt G w 0 e = -1
          · simp only [if_pos d3]
            exact ih _ _ _ _ h
          · simp only [if_neg d3]
            exact ih _ _ _ _ h
      · simp only [if_neg d1]
        by_cases d2 : e = b_
        · simp only [if_pos d2]
          by_cases d3 : f_m_whoIsAt G w 0 e = -1
          · simp only [if_pos d3]
            exact ih _ _ _ _ h
          · simp only [if_neg d3]
            exact ih _ _ _ _ h
        · simp only [if_neg d2]
          by_cases d3 : f_m_whoIsAt G w 0 e = -1
          · simp only [if_pos d3]
            exact ih _ _ _ _ h
          · simp only [if_neg d3]
            exact ih _ _ _ _ h
theorem car_over {b_ : Int32} (h3 : (G 3).toInt ≤ 6) : ∀ (n : Nat) (e th fi co : Int32), 0 ≤ b_.toInt → b_.toInt < e.toInt → (f_m_carried_63 G w b_ n e th fi co).2.1 = th := by
  intro n
  induction n with
  | zero => intro e th fi co h0 h; rfl
  | succ n ih =>
    intro e th fi co h0 h
    rw [f_m_carried_63_s]
    by_cases c : G 3 ≤ e
    · rw [if_pos c]
    · rw [if_neg c]
      rw [i_le] at c
      have e1 := i_a1 (a := e) (by omega) (by omega)
      have d2 : ¬ e = b_ := by
        intro q
        rw [q] at h
        omega
      simp only [if_neg d2]
      by_cases d1 : co = 0
      · rw [if_pos d1]
        by_cases d4 : fi = -1
        · rw [if_pos d4]
          by_cases d3 : f_m_whoIsAt G w 0 e = -1
          · rw [if_pos d3]
            exact ih _ _ _ _ h0 (by omega)
          · rw [if_neg d3]
            exact ih _ _ _ _ h0 (by omega)
        · rw [if_neg d4]
          by_cases d3 : f_m_whoIsAt G w 0 e = -1
          · rw [if_pos d3]
            exact ih _ _ _ _ h0 (by omega)
          · rw [if_neg d3]
            exact ih _ _ _ _ h0 (by omega)
      · rw [if_neg d1]
        by_cases d3 : f_m_whoIsAt G w 0 e = -1
        · rw [if_pos d3]
          exact ih _ _ _ _ h0 (by omega)
        · rw [if_neg d3]
          exact ih _ _ _ _ h0 (by omega)
theorem car_none {a1 a2 a3 a4 v1 v2 v3 v4 : Int32} (hG : GI G) (hS : ST fn w 0 0) (hB : BI G w 0) : ∀ (n m : Nat) (e th co : Int32), 1 ≤ e.toInt → (G 3).toInt - e.toInt < n → (G 3).toInt - e.toInt < m → ((∃ z, f_e_carried_x9_74 a1 a2 a3 a4 (G 3) v1 v2 v3 v4 ftc fn (-1) n e co = Sum.inl z) ∧ (f_m_carried_63 G w (-1) m e th (-1) co).2.2.1 = -1) ∨ (∃ r, f_e_carried_x9_74 a1 a2 a3 a4 (G 3) v1 v2 v3 v4 ftc fn (-1) n e co = Sum.inr r ∧ (f_m_carried_63 G w (-1) m e th (-1) co).2.2.1 = r) := by
  have g3 := hG.2.1.2
  intro n
  induction n with
  | zero =>
    intro m e th co h0 h1 h2
    have : G 3 ≤ e := by
      rw [i_le]
      omega
    refine Or.inl ⟨⟨_, rfl⟩, ?_⟩
    cases m with
    | zero => rfl
    | succ m => rw [f_m_carried_63_s, if_pos this]
  | succ n ih =>
    intro m e th co h0 h1 h2
    by_cases c : G 3 ≤ e
    · refine Or.inl ⟨⟨(e, co), by rw [f_e_carried_x9_74_s, if_pos c]⟩, ?_⟩
      cases m with
      | zero => rfl
      | succ m => rw [f_m_carried_63_s, if_pos c]
    · have c' := c
      rw [i_le] at c'
      have e1 := i_a1 (a := e) (by omega) (by omega)
      have em1 : ¬ e = -1 := by
        intro q
        rw [q, i_m1] at h0
        omega
      have em2 : ¬ (-1 : Int32) = e := fun q => em1 q.symm
      cases m with
      | zero => omega
      | succ m =>
        rw [f_e_carried_x9_74_s, if_neg c, if_pos rfl, f_m_carried_63_s, if_neg c, if_pos rfl]
        simp only [if_neg em1, if_neg em2]
        rw [at_eq hS hG hB (by omega)]
        by_cases d1 : co = 0
        · rw [if_pos d1, if_pos d1]
          refine Or.inr ⟨e, rfl, ?_⟩
          by_cases d3 : f_m_whoIsAt G w 0 e = -1
          · rw [if_pos d3]
            exact car_stay m _ _ _ _ em1
          · rw [if_neg d3]
            exact car_stay m _ _ _ _ em1
        · rw [if_neg d1, if_neg d1]
          by_cases d3 : f_m_whoIsAt G w 0 e = -1
          · rw [if_pos d3, if_pos d3]
            exact ih m (e + 1) th co (by omega) (by omega) (by omega)
          · rw [if_neg d3, if_neg d3]
            exact ih m (e + 1) th (co / 2) (by omega) (by omega) (by omega)
theorem car_some {a1 a2 a3 a4 v1 v2 v3 v4 b_ : Int32} (hG : GI G) (hS : ST fn w 0 0) (hB : BI G w 0) (b0 : 0 ≤ b_.toInt) : ∀ (n m : Nat) (e th fi co : Int32), 1 ≤ e.toInt → (G 3).toInt - e.toInt < n → (G 3).toInt - e.toInt < m → ((∃ z, f_e_carried_x9_74 a1 a2 a3 a4 (G 3) v1 v2 v3 v4 ftc fn b_ n e co = Sum.inl z) ∧ (f_m_carried_63 G w b_ m e th fi co).2.1 = th) ∨ (∃ r, f_e_carried_x9_74 a1 a2 a3 a4 (G 3) v1 v2 v3 v4 ftc fn b_ n e co = Sum.inr r ∧ (f_m_carried_63 G w b_ m e th fi co).2.1 = r) := by
  have g3 := hG.2.1.2
  have bm : ¬ b_ = -1 := by
    intro q
    rw [q, i_m1] at b0
    omega
  intro n
  induction n with
  | zero =>
    intro m e th fi co h0 h1 h2
    have : G 3 ≤ e := by
      rw [i_le]
      omega
    refine Or.inl ⟨⟨_, rfl⟩, ?_⟩
    cases m with
    | zero => rfl
    | succ m => rw [f_m_carried_63_s, if_pos this]
  | succ n ih =>
    intro m e th fi co h0 h1 h2
    by_cases c : G 3 ≤ e
    · refine Or.inl ⟨⟨(e, co), by rw [f_e_carried_x9_74_s, if_pos c]⟩, ?_⟩
      cases m with
      | zero => rfl
      | succ m => rw [f_m_carried_63_s, if_pos c]
    · have c' := c
      rw [i_le] at c'
      have e1 := i_a1 (a := e) (by omega) (by omega)
      cases m with
      | zero => omega
      | succ m =>
        rw [f_e_carried_x9_74_s, if_neg c, if_neg bm, f_m_carried_63_s, if_neg c]
        rw [at_eq hS hG hB (by omega)]
        by_cases d2 : b_ = e
        · have d2' : e = b_ := d2.symm
          simp only [if_pos d2, if_pos d2']
          refine Or.inr ⟨co, rfl, ?_⟩
          by_cases d1 : co = 0
          · rw [if_pos d1]
            by_cases d4 : fi = -1
            · rw [if_pos d4]
              by_cases d3 : f_m_whoIsAt G w 0 e = -1
              · rw [if_pos d3]
                exact car_over g3 m _ _ _ _ b0 (by rw [d2]; omega)
              · rw [if_neg d3]
                exact car_over g3 m _ _ _ _ b0 (by rw [d2]; omega)
            · rw [if_neg d4]
              by_cases d3 : f_m_whoIsAt G w 0 e = -1
              · rw [if_pos d3]
                exact car_over g3 m _ _ _ _ b0 (by rw [d2]; omega)
              · rw [if_neg d3]
                exact car_over g3 m _ _ _ _ b0 (by rw [d2]; omega)
          · rw [if_neg d1]
            by_cases d3 : f_m_whoIsAt G w 0 e = -1
            · rw [if_pos d3]
              exact car_over g3 m _ _ _ _ b0 (by rw [d2]; omega)
            · rw [if_neg d3]
              exact car_over g3 m _ _ _ _ b0 (by rw [d2]; omega)
        · have d2' : ¬ e = b_ := fun q => d2 q.symm
          simp only [if_neg d2, if_neg d2']
          by_cases d3 : f_m_whoIsAt G w 0 e = -1
          · simp only [if_pos d3]
            by_cases d1 : co = 0
            · rw [if_pos d1]
              by_cases d4 : fi = -1
              · rw [if_pos d4]
                exact ih m (e + 1) th _ co (by omega) (by omega) (by omega)
              · rw [if_neg d4]
                exact ih m (e + 1) th _ co (by omega) (by omega) (by omega)
            · rw [if_neg d1]
              exact ih m (e + 1) th _ co (by omega) (by omega) (by omega)
          · simp only [if_neg d3]
            by_cases d1 : co = 0
            · rw [if_pos d1]
              by_cases d4 : fi = -1
              · rw [if_pos d4]
                exact ih m (e + 1) th _ (co / 2) (by omega) (by omega) (by omega)
              · rw [if_neg d4]
                exact ih m (e + 1) th _ (co / 2) (by omega) (by omega) (by omega)
            · rw [if_neg d1]
              exact ih m (e + 1) th _ (co / 2) (by omega) (by omega) (by omega)
theorem A_carried {b_ rx ry : Int32} (hG : GI G) (hW : WI w) (hR : RS q1 q2 ftx f13 t0 t1 t2 t3 t4 fta ftb ftc ftd fte f8 f9 f10 f11 f12 b0 fba fbb f43 f44 G) (hD : DY q10 q12 p1 p2 fn fsh fim fis f1 G w) (ex : rx = f_e_carried_x9 q1 q2 q10 q12 t0 t1 t2 t3 t4 ftc fn b_) (em : ry = f_m_carried G w f10 b_) : rx = ry := by
  obtain ⟨hX, ⟨et0, et1, et2, et3, et4, n4, n7, nA, nB, nF, nD, nE⟩, hK⟩ := hR
  obtain ⟨⟨hS, hB, hq⟩, hU, hI⟩ := hD
  have g3 := hG.2.1
  have g5 := hG.2.2.2.1.2
  have g4 := hG.2.2.1.2
  unfold f_e_carried_x9 at ex
  unfold f_m_carried at em
  rw [et0, et4, at_eq hS hG hB (by decide)] at ex
  have ws := who_spec (w := w) (b := 0) hG
  generalize f_m_whoIsAt G w 0 0 = c_ at ex em ws
  have stp : ¬ c_ = -1 → f_e_stampOf_x9 (f_e_grievanceOf fn c_) (f_e_forceOf_x8 (G 3) t1 t2 t3 (G 7) ftc c_ (f_e_themeOf fn c_)) (G 7) = f_m_stampOf G f10 c_ (w (12 + c_).toNatClampNeg) (w (0 + c_).toNatClampNeg) := by
    intro hm
    rcases ws with ⟨q, _⟩ | ⟨c0, c1, _⟩
    · exact absurd q hm
    · have c2 : c_.toInt < 6 := by omega
      have x12 : (12 + c_ : Int32).toNatClampNeg = 12 + c_.toNatClampNeg := sN (a := 12) (x := 12) (y := 6) rfl c0 c2 (by decide)
      have th := hB.2.2.2.2.1 c_.toNatClampNeg (clN c0 c2)
      rw [Nat.zero_add] at th
      unfold f_e_forceOf_x8
      rw [e_g hS c0 c2, e_t hS c0 c2, ix0, x12, (force_in (fta := fta) (f8 := f8) ⟨n7, nA, nF⟩ c0 c1 c2 th.1 th.2 (by omega)).2.1]
      exact stamp_eq n7
  rw [ex, em]
  by_cases c1 : b_ = -1
  · simp only [if_pos c1]
    by_cases c2 : c_ = -1
    · rw [if_pos c2, if_pos c2]
    · rw [if_neg c2, if_neg c2, stp c2]
      subst c1
      rcases car_none (a1 := q1) (a2 := q2) (a3 := q10) (a4 := q12) (v1 := t1) (v2 := t2) (v3 := t3) (v4 := G 7) (ftc := ftc) hG hS hB (((G 3).toInt - (1 : Int32).toInt).toNat + 1) (((G 3).toInt - (1 : Int32).toInt).toNat + 1) 1 0 (f_m_stampOf G f10 c_ (w (12 + c_).toNatClampNeg) (w (0 + c_).toNatClampNeg)) (by decide) (by rw [i_1]; omega) (by rw [i_1]; omega) with ⟨⟨z, h1⟩, h2⟩ | ⟨r, h1, h2⟩
      · rw [h1]
        generalize f_m_carried_63 G w (-1) _ 1 0 (-1) _ = Z at h2
        obtain ⟨z1, z2, z3, z4⟩ := Z
        obtain ⟨zz1, zz2⟩ := z
        exact h2.symm
      · rw [h1]
        generalize f_m_carried_63 G w (-1) _ 1 0 (-1) _ = Z at h2
        obtain ⟨z1, z2, z3, z4⟩ := Z
        exact h2.symm
  · simp only [if_neg c1]
    by_cases c3 : f_m_isBridge G b_ = 0
    · rw [if_pos c3, if_pos ((q_bridge hG _ _ _ _ _).mpr c3)]
    · rw [if_neg c3, if_neg (fun q => c3 ((q_bridge hG _ _ _ _ _).mp q))]
      obtain ⟨b0', b1, b2⟩ := l_bridge hG c3
      by_cases c2 : c_ = -1
      · rw [if_pos c2, if_pos c2]
      · rw [if_neg c2, if_neg c2, stp c2]
        rcases car_some (a1 := q1) (a2 := q2) (a3 := q10) (a4 := q12) (v1 := t1) (v2 := t2) (v3 := t3) (v4 := G 7) (ftc := ftc) hG hS hB b0' (((G 3).toInt - (1 : Int32).toInt).toNat + 1) (((G 3).toInt - (1 : Int32).toInt).toNat + 1) 1 0 (-1) (f_m_stampOf G f10 c_ (w (12 + c_).toNatClampNeg) (w (0 + c_).toNatClampNeg)) (by decide) (by rw [i_1]; omega) (by rw [i_1]; omega) with ⟨⟨z, h1⟩, h2⟩ | ⟨r, h1, h2⟩
        · rw [h1]
          generalize f_m_carried_63 G w b_ _ 1 0 (-1) _ = Z at h2
          obtain ⟨z1, z2, z3, z4⟩ := Z
          obtain ⟨zz1, zz2⟩ := z
          exact h2.symm
        · rw [h1]
          generalize f_m_carried_63 G w b_ _ 1 0 (-1) _ = Z at h2
          obtain ⟨z1, z2, z3, z4⟩ := Z
          exact h2.symm
end
end
section
/-! fleets, side by side -/
theorem ones_all : ∀ n : Fin 64, f_e_bitCount_0f7a4_j6 (nI n.val) = f_m_ones (nI n.val) := by decide +kernel
theorem ones_eq {x : Int32} (h0 : 0 ≤ x.toInt) (h1 : x.toInt < 64) : f_e_bitCount_0f7a4_j6 x = f_m_ones x := by
  have := ones_all ⟨x.toNatClampNeg, clN h0 h1⟩
  rw [nI_cl h0] at this
  exact this
theorem shl6 {x : Int32} (h0 : 0 ≤ x.toInt) (h1 : x.toInt ≤ 6) : (1 <<< (x &&& 31) : Int32).toInt ≤ 64 := by
  have : x = 0 ∨ x = 1 ∨ x = 2 ∨ x = 3 ∨ x = 4 ∨ x = 5 ∨ x = 6 := by
    simp only [i_eq, Int32.reduceToInt]
    omega
  rcases this with rfl | rfl | rfl | rfl | rfl | rfl | rfl <;> decide
section
variable {q1 q2 q10 q12 t0 t1 t2 t3 t4 p1 p2 b0 : Int32} {ftx fta ftb ftc ftd fte fn fsh fim fis fba fbb G w f1 f8 f9 f10 f11 f12 f13 f43 f44 : Nat → Int32}
theorem need_loop {v1 v2 v3 v4 n_ : Int32} (h3 : (G 3).toInt ≤ 6) (hA : AG fta f8 (G 3).toInt 1 60) : ∀ (n : Nat) (i s : Int32), 0 ≤ i.toInt → ∃ j j' r, f_e_needOfAll_x8_4 (G 3) v1 v2 v3 v4 fta n i s = (j, r) ∧ f_m_fleet_19 G f8 n_ n i (n_ * s) = (j', n_ * r) := by
  intro n
  induction n with
  | zero => intro i s h0; exact ⟨i, i, s, rfl, rfl⟩
  | succ n ih =>
    intro i s h0
    rw [f_e_needOfAll_x8_4_s, f_m_fleet_19_s]
    by_cases c : G 3 ≤ i
    · rw [if_pos c, if_pos c]
      exact ⟨i, i, s, rfl, rfl⟩
    · rw [if_neg c, if_neg c]
      rw [i_le] at c
      have e := i_a1 (a := i) (by omega) (by omega)
      rw [at_in h0 (by omega), (hA i.toNatClampNeg (by rw [clI h0]; omega)).1, ← Int32.mul_add]
      exact ih (i + 1) _ (by omega)
theorem fleet_loop {a1 a2 a3 a4 v1 v3 v4 n_ al : Int32} (hG : GI G) (hS : ST fn w 0 0) (hB : BI G w 0) (hal : n_ * (f_e_needOfAll_x8 (G 3) v1 (G 5) v3 v4 fta) = al) : ∀ (n : Nat) (i bt : Int32), 0 ≤ i.toInt → (bt = -1 ∨ (0 ≤ bt.toInt ∧ bt.toInt < 64)) → ∃ j j' r, f_e_fleet_x9_29 a1 a2 a3 a4 (G 3) v1 (G 5) v3 v4 fta fn n_ n i bt = (j, r) ∧ f_m_fleet_49 G w al n i bt = (j', r) := by
  intro n
  induction n with
  | zero => intro i bt h0 hb; exact ⟨i, i, bt, rfl, rfl⟩
  | succ n ih =>
    intro i bt h0 hb
    have n18 : (18 : Int32).toNatClampNeg = 18 := rfl
    rw [f_e_fleet_x9_29_s, f_m_fleet_49_s, hal, e_rec hS, n18, gset_eq hG hS hB]
    by_cases c : (1 <<< (G 5 &&& 31)) ≤ i
    · rw [if_pos c, if_pos c]
      exact ⟨i, i, bt, rfl, rfl⟩
    · rw [if_neg c, if_neg c]
      have sh := shl6 hG.2.2.2.1.1 hG.2.2.2.1.2
      rw [i_le] at c
      have i64 : i.toInt < 64 := by omega
      have e := i_a1 (a := i) (by omega) (by omega)
      have k1 := fun z => ih (i + 1) bt (by omega) z
      have k2 := ih (i + 1) i (by omega) (Or.inr ⟨h0, i64⟩)
      by_cases d1 : i &&& w 18 = 0
      · simp only [if_pos d1]
        by_cases d2 : f_m_griefOf G w i < al
        · simp only [if_pos d2, ite_self]
          exact k1 hb
        · simp only [if_neg d2]
          rcases hb with q | q
          · rw [if_pos q, if_pos q]
            exact k2
          · have qn : ¬ bt = -1 := by
              intro z
              rw [z, i_m1] at q
              omega
            rw [if_neg qn, if_neg qn, ones_eq q.1 q.2, ones_eq h0 i64]
            by_cases d3 : f_m_ones bt ≤ f_m_ones i
            · rw [if_pos d3, if_pos d3]
              exact k1 (Or.inr q)
            · rw [if_neg d3, if_neg d3]
              exact k2
      · simp only [if_neg d1, ite_self]
        exact k1 hb
theorem A_fleet {n_ rx ry : Int32} (hG : GI G) (hW : WI w) (hR : RS q1 q2 ftx f13 t0 t1 t2 t3 t4 fta ftb ftc ftd fte f8 f9 f10 f11 f12 b0 fba fbb f43 f44 G) (hD : DY q10 q12 p1 p2 fn fsh fim fis f1 G w) (ex : rx = f_e_fleet_x9 q1 q2 q10 q12 t0 t1 t2 t3 t4 fta fn n_) (em : ry = f_m_fleet G w f8 n_) : rx = ry := by
  obtain ⟨hX, ⟨et0, et1, et2, et3, et4, n4, n7, nA, nB, nF, nD, nE⟩, hK⟩ := hR
  obtain ⟨⟨hS, hB, hq⟩, hU, hI⟩ := hD
  unfold f_e_fleet_x9 at ex
  unfold f_m_fleet at em
  rw [et0, et2] at ex
  rw [ex, em]
  by_cases c2 : f_m_in n_.toInt64 1 9 = 0
  · rw [if_pos c2]
    rw [i_in, Int32.toInt_toInt64] at c2
    simp only [Int64.reduceToInt] at c2
    by_cases d1 : n_ < 1
    · rw [if_pos d1]
    · rw [if_neg d1]
      have d2 : ¬ n_ ≤ 9 := by
        simp only [i_lt, i_le, Int32.reduceToInt] at d1 ⊢
        omega
      rw [if_neg d2]
  rw [if_neg c2]
  rw [i_in, Int32.toInt_toInt64] at c2
  simp only [Int64.reduceToInt] at c2
  have d1 : ¬ n_ < 1 := by
    simp only [i_lt, Int32.reduceToInt]
    omega
  have d2 : n_ ≤ 9 := by
    simp only [i_le, Int32.reduceToInt]
    omega
  rw [if_neg d1, if_pos d2]
  obtain ⟨j, j', r, h1, h2⟩ := need_loop (v1 := t1) (v2 := G 5) (v3 := t3) (v4 := t4) (n_ := n_) hG.2.1.2 nA (((G 3).toInt - (0 : Int32).toInt).toNat + 1) 0 0 (by decide)
  rw [Int32.mul_zero] at h2
  have hal : n_ * (f_e_needOfAll_x8 (G 3) t1 (G 5) t3 t4 fta) = n_ * r := by
    unfold f_e_needOfAll_x8
    rw [h1]
  obtain ⟨j2, j2', r2, h3, h4⟩ := fleet_loop (a1 := q1) (a2 := q2) (a3 := q10) (a4 := q12) hG hS hB hal (((1 <<< (G 5 &&& 31) : Int32).toInt - (0 : Int32).toInt).toNat + 1) 0 (-1) (by decide) (Or.inl rfl)
  rw [h3, h2]
  dsimp (config := { etaStruct := .none }) only
  rw [h4]
end
end
