/-! what the calls answer, side by side: what is told -/
section
variable {q1 q2 q10 q12 t0 t1 t2 t3 t4 p1 p2 b0 : Int32} {ftx fta ftb ftc ftd fte fn fsh fim fis fba fbb G w f1 f8 f9 f10 f11 f12 f13 f43 f44 : Nat → Int32}
theorem A_fault {rx ry : Int32} (hG : GI G) (hW : WI w) (hR : RS q1 q2 ftx f13 t0 t1 t2 t3 t4 fta ftb ftc ftd fte f8 f9 f10 f11 f12 b0 fba fbb f43 f44 G) (hD : DY q10 q12 p1 p2 fn fsh fim fis f1 G w) (ex : rx = f_e_fault_x9 q1 q2 q10 q12) (em : ry = f_m_fault G) : rx = ry := by
  rw [ex, em]
  exact hR.1.2.2
theorem A_bridge {b_ w_ rx ry : Int32} (hG : GI G) (hW : WI w) (hR : RS q1 q2 ftx f13 t0 t1 t2 t3 t4 fta ftb ftc ftd fte f8 f9 f10 f11 f12 b0 fba fbb f43 f44 G) (hD : DY q10 q12 p1 p2 fn fsh fim fis f1 G w) (ex : rx = f_e_bridge_x9 q1 q2 q10 q12 t0 t1 t2 t3 t4 fta fn b_ w_) (em : ry = f_m_bridge G w f8 b_ w_) : rx = ry := by
  obtain ⟨hX, ⟨et0, et1, et2, et3, et4, n4, n7, nA, nB, nF, nD, nE⟩, hK⟩ := hR
  obtain ⟨⟨hS, hB, hq⟩, hU, hI⟩ := hD
  unfold f_e_bridge_x9 at ex
  unfold f_m_bridge at em
  rw [et0] at ex
  rw [ex, em]
  by_cases c1 : f_m_isBridge G b_ = 0
  · rw [if_pos c1, if_pos ((q_bridge hG _ _ _ _ _).mpr c1)]
  · obtain ⟨a0, a1, a2⟩ := l_bridge hG c1
    rw [if_neg c1, if_neg (fun q => c1 ((q_bridge hG _ _ _ _ _).mp q)), at_eq hS hG hB a0, at_in a0 a2, (nA b_.toNatClampNeg (by rw [clI a0]; exact a1)).1]
theorem A_couple {c_ w_ rx ry : Int32} (hG : GI G) (hW : WI w) (hR : RS q1 q2 ftx f13 t0 t1 t2 t3 t4 fta ftb ftc ftd fte f8 f9 f10 f11 f12 b0 fba fbb f43 f44 G) (hD : DY q10 q12 p1 p2 fn fsh fim fis f1 G w) (ex : rx = f_e_couple_x9 q1 q2 q10 q12 t0 t1 t2 t3 t4 ftb fn c_ w_) (em : ry = f_m_couple G w f9 c_ w_) : rx = ry := by
  obtain ⟨hX, ⟨et0, et1, et2, et3, et4, n4, n7, nA, nB, nF, nD, nE⟩, hK⟩ := hR
  obtain ⟨⟨hS, hB, hq⟩, hU, hI⟩ := hD
  unfold f_e_couple_x9 at ex
  unfold f_m_couple at em
  rw [et2] at ex
  rw [ex, em]
  by_cases c1 : f_m_isCouple G c_ = 0
  · rw [if_pos c1, if_pos ((q_couple hG _ _ _ _ _).mpr c1)]
  · obtain ⟨a0, a1, a2⟩ := l_couple hG c1
    have x6 : (6 + c_ : Int32).toNatClampNeg = 6 + c_.toNatClampNeg := sN (a := 6) (x := 6) (y := 6) rfl a0 a2 (by decide)
    have x12 : (12 + c_ : Int32).toNatClampNeg = 12 + c_.toNatClampNeg := sN (a := 12) (x := 12) (y := 6) rfl a0 a2 (by decide)
    rw [if_neg c1, if_neg (fun q => c1 ((q_couple hG _ _ _ _ _).mp q)), e_g hS a0 a2, e_p hS a0 a2, e_t hS a0 a2, e_done hS, at_in a0 a2, (nB c_.toNatClampNeg (by rw [clI a0]; exact a1)).1, x6, x12, ix0]
theorem A_force {c_ e_ rx ry : Int32} (hG : GI G) (hW : WI w) (hR : RS q1 q2 ftx f13 t0 t1 t2 t3 t4 fta ftb ftc ftd fte f8 f9 f10 f11 f12 b0 fba fbb f43 f44 G) (hD : DY q10 q12 p1 p2 fn fsh fim fis f1 G w) (ex : rx = f_e_force_x9 q1 q2 q10 q12 t0 t1 t2 t3 t4 ftc c_ e_) (em : ry = f_m_force G f10 c_ e_) : rx = ry := by
  obtain ⟨hX, ⟨et0, et1, et2, et3, et4, n4, n7, nA, nB, nF, nD, nE⟩, hK⟩ := hR
  unfold f_e_force_x9 f_e_forceOf_x8 at ex
  unfold f_m_force at em
  rw [et1, et2] at ex
  rw [ex, em]
  by_cases c1 : f_m_isCouple G c_ = 0
  · rw [if_pos c1, if_pos ((q_couple hG _ _ _ _ _).mpr c1)]
  · obtain ⟨a0, a1, a2⟩ := l_couple hG c1
    rw [if_neg c1, if_neg (fun q => c1 ((q_couple hG _ _ _ _ _).mp q))]
    by_cases c2 : f_m_isTheme G e_ = 0
    · rw [if_pos c2, if_pos ((q_theme hG _ _ _ _ _).mpr c2)]
    · obtain ⟨b0', b1, b2⟩ := l_theme hG c2
      rw [if_neg c2, if_neg (fun q => c2 ((q_theme hG _ _ _ _ _).mp q))]
      exact (force_in (fta := fta) (f8 := f8) ⟨n7, nA, nF⟩ a0 a1 a2 b0' b1 b2).2.1
theorem A_barge {v_ w_ rx ry : Int32} (hG : GI G) (hW : WI w) (hR : RS q1 q2 ftx f13 t0 t1 t2 t3 t4 fta ftb ftc ftd fte f8 f9 f10 f11 f12 b0 fba fbb f43 f44 G) (hD : DY q10 q12 p1 p2 fn fsh fim fis f1 G w) (ex : rx = f_e_barge_x9 q1 q2 q10 q12 t0 t1 t2 t3 t4 ftd fte fn v_ w_) (em : ry = f_m_barge G w f11 f12 v_ w_) : rx = ry := by
  obtain ⟨hX, ⟨et0, et1, et2, et3, et4, n4, n7, nA, nB, nF, nD, nE⟩, hK⟩ := hR
  obtain ⟨⟨hS, hB, hq⟩, hU, hI⟩ := hD
  unfold f_e_barge_x9 at ex
  unfold f_m_barge at em
  rw [et3] at ex
  rw [ex, em]
  by_cases c1 : f_m_isBarge G v_ = 0
  · rw [if_pos c1, if_pos ((q_barge hG _ _ _ _ _).mpr c1)]
  · obtain ⟨a0, a1, a2⟩ := l_barge hG c1
    have x20 : (20 + v_ : Int32).toNatClampNeg = 20 + v_.toNatClampNeg := sN (a := 20) (x := 20) (y := 7) rfl a0 a2 (by decide)
    have x27 : (27 + v_ : Int32).toNatClampNeg = 27 + v_.toNatClampNeg := sN (a := 27) (x := 27) (y := 7) rfl a0 a2 (by decide)
    have x34 : (34 + v_ : Int32).toNatClampNeg = 34 + v_.toNatClampNeg := sN (a := 34) (x := 34) (y := 7) rfl a0 a2 (by decide)
    rw [if_neg c1, if_neg (fun q => c1 ((q_barge hG _ _ _ _ _).mp q)), e_fate hS a0 a2, e_lying hS a0 a2, e_passed hS a0 a2, at_in a0 a2, at_in a0 a2, (nD v_.toNatClampNeg (by rw [clI a0]; exact a1)).1, (nE v_.toNatClampNeg (by rw [clI a0]; exact a1)).1, x20, x27, x34]
theorem fate_end {k : Int32} (hS : ST fn w 0 0) (hB : BI G w 0) (hk : k ≠ 0) : ∀ (n : Nat) (i s : Int32), 0 ≤ i.toInt → (G 6).toInt ≤ i.toInt → i.toInt ≤ 7 → (f_e_bargesOfFate_4 fn k n i s).2 = s := by
  intro n
  induction n with
  | zero => intro i s h0 h1 h2; rfl
  | succ n ih =>
    intro i s h0 h1 h2
    rw [f_e_bargesOfFate_4_s]
    by_cases c : 7 ≤ i
    · rw [if_pos c]
    · rw [if_neg c]
      rw [i_le] at c
      simp only [Int32.reduceToInt] at c
      have e := i_a1 (a := i) (by omega) (by omega)
      have z := hB.2.2.2.2.2.2.2.1 i.toNatClampNeg (clN h0 (by omega)) (by rw [clI h0]; exact h1)
      rw [Nat.zero_add] at z
      rw [e_fate hS h0 (by omega), z, if_neg (fun q => hk q.symm), Int32.or_zero]
      exact ih (i + 1) s (by omega) (by omega) (by omega)
theorem fate_loop {k : Int32} (hG : GI G) (hS : ST fn w 0 0) (hB : BI G w 0) (hk : k ≠ 0) : ∀ (n m : Nat) (i s : Int32), 0 ≤ i.toInt → i.toInt ≤ (G 6).toInt → 7 - i.toInt < n → (G 6).toInt - i.toInt < m → (f_e_bargesOfFate_4 fn k n i s).2 = (f_m_bargesThat_4 G w k m i s).2 := by
  have g7 := hG.2.2.2.2.1.2
  intro n
  induction n with
  | zero => intro m i s h0 h1 h2; omega
  | succ n ih =>
    intro m i s h0 h1 h2 h3
    cases m with
    | zero => omega
    | succ m =>
      by_cases c : G 6 ≤ i
      · rw [f_m_bargesThat_4_s, if_pos c]
        rw [i_le] at c
        exact fate_end hS hB hk (n + 1) i s h0 c (by omega)
      · rw [f_m_bargesThat_4_s, if_neg c, f_e_bargesOfFate_4_s]
        rw [i_le] at c
        have e := i_a1 (a := i) (by omega) (by omega)
        have c7 : ¬ 7 ≤ i := by
          rw [i_le]
          simp only [Int32.reduceToInt]
          omega
        have x20 : (20 + i : Int32).toNatClampNeg = 20 + i.toNatClampNeg := sN (a := 20) (x := 20) (y := 7) rfl h0 (by omega) (by decide)
        rw [if_neg c7, e_fate hS h0 (by omega), x20]
        by_cases d : w (20 + i.toNatClampNeg) = k
        · rw [if_pos d, if_pos d]
          exact ih m (i + 1) _ (by omega) (by omega) (by omega) (by omega)
        · rw [if_neg d, if_neg d]
          exact ih m (i + 1) _ (by omega) (by omega) (by omega) (by omega)
theorem fate_eq {k : Int32} (hG : GI G) (hS : ST fn w 0 0) (hB : BI G w 0) (hk : k ≠ 0) : f_e_bargesOfFate fn k = f_m_bargesThat G w k := by
  have g := hG.2.2.2.2.1
  have h := fate_loop hG hS hB hk 8 (((G 6).toInt - (0 : Int32).toInt).toNat + 1) 0 0 (by decide) (by rw [i_0]; omega) (by decide) (by rw [i_0]; omega)
  unfold f_e_bargesOfFate f_m_bargesThat
  have e : ((7 : Int32).toInt - (0 : Int32).toInt).toNat + 1 = 8 := rfl
  rw [e]
  generalize f_e_bargesOfFate_4 fn k 8 0 0 = p at h
  generalize f_m_bargesThat_4 G w k _ 0 0 = q at h
  obtain ⟨p1', p2'⟩ := p
  obtain ⟨q1', q2'⟩ := q
  exact h
theorem gset_end {v : Int32} (hS : ST fn w 0 0) (hB : BI G w 0) : ∀ (n : Nat) (i s : Int32), 0 ≤ i.toInt → (G 5).toInt ≤ i.toInt → i.toInt ≤ 6 → (f_e_grievanceOfSet_4 fn v n i s).2 = s := by
  intro n
  induction n with
  | zero => intro i s h0 h1 h2; rfl
  | succ n ih =>
    intro i s h0 h1 h2
    rw [f_e_grievanceOfSet_4_s]
    by_cases c : 6 ≤ i
    · rw [if_pos c]
    · rw [if_neg c]
      rw [i_le] at c
      simp only [Int32.reduceToInt] at c
      have e := i_a1 (a := i) (by omega) (by omega)
      have z := (hB.2.1 i.toNatClampNeg (clN h0 (by omega)) (by rw [clI h0]; exact h1)).1
      rw [Nat.zero_add] at z
      rw [e_g hS h0 (by omega), z, Int32.mul_zero, Int32.add_zero]
      exact ih (i + 1) s (by omega) (by omega) (by omega)
theorem gset_loop {v : Int32} (hG : GI G) (hS : ST fn w 0 0) (hB : BI G w 0) : ∀ (n m : Nat) (i s : Int32), 0 ≤ i.toInt → i.toInt ≤ (G 5).toInt → 6 - i.toInt < n → (G 5).toInt - i.toInt < m → (f_e_grievanceOfSet_4 fn v n i s).2 = (f_m_griefOf_4 G w v m i s).2 := by
  have g7 := hG.2.2.2.1.2
  intro n
  induction n with
  | zero => intro m i s h0 h1 h2; omega
  | succ n ih =>
    intro m i s h0 h1 h2 h3
    cases m with
    | zero => omega
    | succ m =>
      by_cases c : G 5 ≤ i
      · rw [f_m_griefOf_4_s, if_pos c]
        rw [i_le] at c
        exact gset_end hS hB (n + 1) i s h0 c (by omega)
      · rw [f_m_griefOf_4_s, if_neg c, f_e_grievanceOfSet_4_s]
        rw [i_le] at c
        have e := i_a1 (a := i) (by omega) (by omega)
        have c7 : ¬ 6 ≤ i := by
          rw [i_le]
          simp only [Int32.reduceToInt]
          omega
        rw [if_neg c7, e_g hS h0 (by omega), ix0]
        unfold f_m_has
        rcases and1 (v >>> (i &&& 31)) with d | d
        · rw [if_neg (show ¬ (v >>> (i &&& 31)) &&& 1 = 1 by rw [d]; decide), if_pos rfl, d, Int32.zero_mul]
          exact ih m (i + 1) _ (by omega) (by omega) (by omega) (by omega)
        · rw [if_pos d, if_neg (show ¬ (1 : Int32) = 0 by decide), d, Int32.one_mul]
          exact ih m (i + 1) _ (by omega) (by omega) (by omega) (by omega)
theorem gset_eq {v : Int32} (hG : GI G) (hS : ST fn w 0 0) (hB : BI G w 0) : f_e_grievanceOfSet fn v = f_m_griefOf G w v := by
  have g := hG.2.2.2.1
  have h := gset_loop (v := v) hG hS hB 7 (((G 5).toInt - (0 : Int32).toInt).toNat + 1) 0 0 (by decide) (by rw [i_0]; omega) (by decide) (by rw [i_0]; omega)
  unfold f_e_grievanceOfSet f_m_griefOf
  have e : ((6 : Int32).toInt - (0 : Int32).toInt).toNat + 1 = 7 := rfl
  rw [e]
  generalize f_e_grievanceOfSet_4 fn v 7 0 0 = p at h
  generalize f_m_griefOf_4 G w v _ 0 0 = q at h
  obtain ⟨p1', p2'⟩ := p
  obtain ⟨q1', q2'⟩ := q
  exact h
theorem A_told {w_ rx ry : Int32} (hG : GI G) (hW : WI w) (hR : RS q1 q2 ftx f13 t0 t1 t2 t3 t4 fta ftb ftc ftd fte f8 f9 f10 f11 f12 b0 fba fbb f43 f44 G) (hD : DY q10 q12 p1 p2 fn fsh fim fis f1 G w) (ex : rx = f_e_told_x9 q1 q2 q10 q12 t0 t1 t2 t3 t4 fn b0 p1 p2 w_) (em : ry = f_m_told G w w_) : rx = ry := by
  obtain ⟨⟨hx1, hx2, hx3⟩, ⟨et0, et1, et2, et3, et4, n4, n7, nA, nB, nF, nD, nE⟩, ⟨hk1, _⟩⟩ := hR
  obtain ⟨⟨hS, hB, hq⟩, ⟨hu, _⟩, hI⟩ := hD
  unfold f_e_told_x9 f_e_grievanceOfAll at ex
  unfold f_m_told at em
  have n19 : (19 : Int32).toNatClampNeg = 19 := rfl
  have n18 : (18 : Int32).toNatClampNeg = 18 := rfl
  rw [et0, et1, et2, et3, et4, hx1, hk1, hu, e_min hS, e_rec hS, fate_eq hG hS hB (by decide), fate_eq hG hS hB (by decide), fate_eq hG hS hB (by decide), gset_eq hG hS hB] at ex
  have i8 : ¬ f_m_in 8 8 10 = 0 := by rw [i_in]; decide
  have i9 : ¬ f_m_in 9 8 10 = 0 := by rw [i_in]; decide
  have i10 : ¬ f_m_in 10 8 10 = 0 := by rw [i_in]; decide
  rw [n19, n18, if_neg i8, if_neg i9, if_neg i10] at em
  rw [ex, em]
  by_cases c0 : w_ = 0
  · rw [if_pos c0, if_pos c0]
  rw [if_neg c0, if_neg c0]
  by_cases c1 : w_ = 1
  · rw [if_pos c1, if_pos c1]
  rw [if_neg c1, if_neg c1]
  by_cases c2 : w_ = 2
  · rw [if_pos c2, if_pos c2]
  rw [if_neg c2, if_neg c2]
  by_cases c3 : w_ = 3
  · rw [if_pos c3, if_pos c3]
  rw [if_neg c3, if_neg c3]
  by_cases c4 : w_ = 4
  · rw [if_pos c4, if_pos c4]
  rw [if_neg c4, if_neg c4]
  by_cases c5 : w_ = 5
  · rw [if_pos c5, if_pos c5]
  rw [if_neg c5, if_neg c5]
  by_cases c6 : w_ = 6
  · rw [if_pos c6, if_pos c6]
  rw [if_neg c6, if_neg c6]
  by_cases c7 : w_ = 7
  · rw [if_pos c7, if_pos c7]
  rw [if_neg c7, if_neg c7]
  by_cases c8 : w_ = 8
  · rw [if_pos c8, if_pos c8]
  rw [if_neg c8, if_neg c8]
  by_cases c9 : w_ = 9
  · rw [if_pos c9, if_pos c9]
  rw [if_neg c9, if_neg c9]
  by_cases c10 : w_ = 10
  · rw [if_pos c10, if_pos c10]
  rw [if_neg c10, if_neg c10]
  by_cases c11 : w_ = 11
  · rw [if_pos c11, if_pos c11]
  rw [if_neg c11, if_neg c11]
  by_cases c12 : w_ = 12
  · rw [if_pos c12, if_pos c12]
  rw [if_neg c12, if_neg c12]
  by_cases c13 : w_ = 13
  · rw [if_pos c13, if_pos c13]
  rw [if_neg c13, if_neg c13]
  have lst : f_m_in w_.toInt64 8 10 = 0 := by
    rw [i_in, Int32.toInt_toInt64]
    simp only [i_eq, Int32.reduceToInt] at c8 c9 c10
    simp only [Int64.reduceToInt]
    omega
  rw [if_pos lst]
theorem judge_loop (hS : ST fn w 0 0) (hRI : RI f43) (h15 : (G 42).toInt ≤ 15) : ∀ (n : Nat) (i : Int32), 0 ≤ i.toInt → (∃ a b, f_e_firstWrong_x0_2 (G 42) f43 f44 fn n i = Sum.inl a ∧ f_m_judge_2 G w f43 f44 n i = Sum.inl b) ∨ (∃ a, f_e_firstWrong_x0_2 (G 42) f43 f44 fn n i = Sum.inr a ∧ f_m_judge_2 G w f43 f44 n i = Sum.inr a) := by
  intro n
  induction n with
  | zero => intro i h0; exact Or.inl ⟨i, i, rfl, rfl⟩
  | succ n ih =>
    intro i h0
    rw [f_e_firstWrong_x0_2_s, f_m_judge_2_s]
    by_cases c : G 42 ≤ i
    · rw [if_pos c, if_pos c]
      exact Or.inl ⟨i, i, rfl, rfl⟩
    · rw [if_neg c, if_neg c]
      rw [i_le] at c
      have e := i_a1 (a := i) (by omega) (by omega)
      have r := hRI i.toNatClampNeg
      rw [at_in h0 (by omega), at_in h0 (by omega), e_g hS r.1 (by omega), ix0]
      by_cases d : w (f43 i.toNatClampNeg).toNatClampNeg = f44 i.toNatClampNeg
      · rw [if_pos d, if_pos d]
        exact ih (i + 1) (by omega)
      · rw [if_neg d, if_neg d]
        exact Or.inr ⟨i, rfl, rfl⟩
theorem A_judge {rx ry : Int32} (hG : GI G) (hRI : RI f43) (hR : RS q1 q2 ftx f13 t0 t1 t2 t3 t4 fta ftb ftc ftd fte f8 f9 f10 f11 f12 b0 fba fbb f43 f44 G) (hD : DY q10 q12 p1 p2 fn fsh fim fis f1 G w) (ex : rx = f_e_judge_x9 q1 q2 q10 q12 b0 fba fbb fn) (em : ry = f_m_judge G w f43 f44) : rx = ry := by
  obtain ⟨hX, hN, ⟨rfl, rfl, rfl⟩⟩ := hR
  obtain ⟨⟨hS, hB, hq⟩, hU, hI⟩ := hD
  unfold f_e_judge_x9 f_e_firstWrong_x0 at ex
  unfold f_m_judge at em
  rw [ex, em]
  rcases judge_loop (G := G) (f44 := fbb) hS hRI hG.2.2.2.2.2.2.2 (((G 42).toInt - (0 : Int32).toInt).toNat + 1) 0 (by decide) with ⟨a, b, h1, h2⟩ | ⟨a, h1, h2⟩
  · rw [h1, h2]
  · rw [h1, h2]
theorem mid_loop {a1 a2 a3 a4 v0 v1 v2 v3 v4 c_ n_ q_ by_ : Int32} (hby : (if 0 < (q_ - (f_e_grievanceOf fn c_)) then (q_ - (f_e_grievanceOf fn c_)) else 0) = by_) : ∀ (n : Nat) (i : Int32) (o : Int64), ∃ j j' o', f_e_midstream_x9_62 a1 a2 a3 a4 v0 v1 v2 v3 v4 fn c_ n_ q_ n i o = (j, o') ∧ f_m_midstream_74 n_ n i o by_ = (j', o', by_) := by
  intro n
  induction n with
  | zero => intro i o; exact ⟨i, i, o, rfl, rfl⟩
  | succ n ih =>
    intro i o
    rw [f_e_midstream_x9_62_s, f_m_midstream_74_s, hby]
    by_cases c : n_ ≤ i
    · rw [if_pos c, if_pos c]
      exact ⟨i, i, o, rfl, rfl⟩
    · rw [if_neg c, if_neg c]
      exact ih _ _
theorem A_midstream {c_ n_ q_ rx ry : Int32} (hG : GI G) (hW : WI w) (hR : RS q1 q2 ftx f13 t0 t1 t2 t3 t4 fta ftb ftc ftd fte f8 f9 f10 f11 f12 b0 fba fbb f43 f44 G) (hD : DY q10 q12 p1 p2 fn fsh fim fis f1 G w) (ex : rx = f_e_midstream_x9 q1 q2 q10 q12 t0 t1 t2 t3 t4 fn c_ n_ q_) (em : ry = f_m_midstream G w c_ n_ q_) : rx = ry := by
  obtain ⟨hX, ⟨et0, et1, et2, et3, et4, n4, n7, nA, nB, nF, nD, nE⟩, hK⟩ := hR
  obtain ⟨⟨hS, hB, hq⟩, hU, hI⟩ := hD
  unfold f_e_midstream_x9 at ex
  unfold f_m_midstream at em
  rw [et2] at ex
  rw [ex, em]
  by_cases c1 : f_m_isCouple G c_ = 0
  · rw [if_pos c1, if_pos ((q_couple hG _ _ _ _ _).mpr c1)]
  obtain ⟨a0, a1, a2⟩ := l_couple hG c1
  rw [if_neg c1, if_neg (fun q => c1 ((q_couple hG _ _ _ _ _).mp q))]
  have gb := hB.1 c_.toNatClampNeg (clN a0 a2)
  rw [Nat.zero_add] at gb
  by_cases c2 : f_m_in n_.toInt64 0 99 = 0
  · rw [if_pos c2]
    rw [i_in, Int32.toInt_toInt64] at c2
    simp only [Int64.reduceToInt] at c2
    by_cases d1 : n_ < 0
    · rw [if_pos d1]
    · rw [if_neg d1]
      have d2 : 99 < n_ := by
        simp only [i_lt, Int32.reduceToInt] at d1 ⊢
        omega
      rw [if_pos d2]
  rw [if_neg c2]
  rw [i_in, Int32.toInt_toInt64] at c2
  simp only [Int64.reduceToInt] at c2
  have d1 : ¬ n_ < 0 := by
    simp only [i_lt, Int32.reduceToInt]
    omega
  have d2 : ¬ 99 < n_ := by
    simp only [i_lt, Int32.reduceToInt]
    omega
  rw [if_neg d1, if_neg d2]
  by_cases c3 : f_m_in q_.toInt64 0 1000 = 0
  · rw [if_pos c3]
    rw [i_in, Int32.toInt_toInt64] at c3
    simp only [Int64.reduceToInt] at c3
    by_cases d3 : q_ < 0
    · rw [if_pos d3]
    · rw [if_neg d3]
      have d4 : ¬ q_ ≤ 1000 := by
        simp only [i_lt, i_le, Int32.reduceToInt] at d3 ⊢
        omega
      rw [if_neg d4]
  rw [if_neg c3]
  rw [i_in, Int32.toInt_toInt64] at c3
  simp only [Int64.reduceToInt] at c3
  have d3 : ¬ q_ < 0 := by
    simp only [i_lt, Int32.reduceToInt]
    omega
  have d4 : q_ ≤ 1000 := by
    simp only [i_le, Int32.reduceToInt]
    omega
  rw [if_neg d3, if_pos d4, ix0]
  have eq := i_sub (a := q_) (b := w c_.toNatClampNeg) (by omega) (by omega)
  by_cases c4 : q_ ≤ w c_.toNatClampNeg
  · have hby : (if 0 < (q_ - (f_e_grievanceOf fn c_)) then (q_ - (f_e_grievanceOf fn c_)) else 0) = 0 := by
      rw [e_g hS a0 a2, if_neg]
      rw [i_lt, i_0, eq]
      rw [i_le] at c4
      omega
    obtain ⟨j, j', o', h1, h2⟩ := mid_loop (a1 := q1) (a2 := q2) (a3 := q10) (a4 := q12) (v0 := t0) (v1 := t1) (v2 := G 5) (v3 := t3) (v4 := t4) (n_ := n_) hby ((n_.toInt - (0 : Int32).toInt).toNat + 1) 0 1000000000
    rw [if_pos c4, h1, h2]
  · have hby : (if 0 < (q_ - (f_e_grievanceOf fn c_)) then (q_ - (f_e_grievanceOf fn c_)) else 0) = q_ - w c_.toNatClampNeg := by
      rw [e_g hS a0 a2, if_pos]
      rw [i_lt, i_0, eq]
      rw [i_le] at c4
      omega
    obtain ⟨j, j', o', h1, h2⟩ := mid_loop (a1 := q1) (a2 := q2) (a3 := q10) (a4 := q12) (v0 := t0) (v1 := t1) (v2 := G 5) (v3 := t3) (v4 := t4) (n_ := n_) hby ((n_.toInt - (0 : Int32).toInt).toNat + 1) 0 1000000000
    rw [if_neg c4, h1, h2]
end
