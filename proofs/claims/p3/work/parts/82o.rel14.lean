/-! a barge passes, side by side -/
section
variable {q1 q2 q10 q12 t0 t1 t2 t3 t4 p1 p2 b0 : Int32} {ftx fta ftb ftc ftd fte fn fsh fim fis fba fbb G w f1 f8 f9 f10 f11 f12 f13 f43 f44 : Nat → Int32}
/-- what the towns have alike, of the reference alone -/
def TF (G fta ftc f8 f10 : Nat → Int32) : Prop := (G 7 = 0 ∨ G 7 = 1) ∧ AG fta f8 (G 3).toInt 1 60 ∧ AF ftc f10 (G 5).toInt (G 4).toInt
theorem TF_of {H : Nat → Int32} (h : TF G fta ftc f8 f10) (e : ∀ k, 3 ≤ k → k ≤ 7 → H k = G k) : TF H fta ftc f8 f10 := by
  unfold TF
  rw [e 3 (by decide) (by decide), e 4 (by decide) (by decide), e 5 (by decide) (by decide), e 7 (by decide) (by decide)]
  exact h
theorem force_in {c_ e_ : Int32} (hT : TF G fta ftc f8 f10) (c0 : 0 ≤ c_.toInt) (c1 : c_.toInt < (G 5).toInt) (c2 : c_.toInt < 6) (e0 : 0 ≤ e_.toInt) (e1 : e_.toInt < (G 4).toInt) (e2 : e_.toInt < 5) : (5 * c_ + e_).toNatClampNeg = 5 * c_.toNatClampNeg + e_.toNatClampNeg ∧ atF 30 ftc (c_ * 5 + e_) = f10 (5 * c_ + e_).toNatClampNeg ∧ 0 ≤ (f10 (5 * c_ + e_).toNatClampNeg).toInt ∧ (f10 (5 * c_ + e_).toNatClampNeg).toInt ≤ 9 := by
  obtain ⟨x1, x2⟩ := i_mul5 (c := c_) (t := e_) c0 (by omega) e0 (by omega)
  have n1 : (5 * c_ + e_).toNatClampNeg = 5 * c_.toNatClampNeg + e_.toNatClampNeg := by
    rw [i_clamp, i_clamp, i_clamp, x1]
    omega
  have n2 : (c_ * 5 + e_).toNatClampNeg = 5 * c_.toNatClampNeg + e_.toNatClampNeg := by
    rw [i_clamp, i_clamp, i_clamp, x2]
    omega
  have q := hT.2.2 c_.toNatClampNeg e_.toNatClampNeg (by rw [clI c0]; exact c1) (by rw [clI e0]; exact e1)
  refine ⟨n1, ?_, ?_⟩
  · rw [at_in (by omega) (by omega), n2, n1]
    exact q.1
  · rw [n1]
    exact q.2
theorem attempt_eq {a1 a2 a3 a4 v0 v1 v2 v3 c_ b_ e_ : Int32} (hT : TF G fta ftc f8 f10) (h3 : (G 3).toInt ≤ 6) (hS : ST fn w 0 0) (hB : BI G w 0) (c0 : 0 ≤ c_.toInt) (c1 : c_.toInt < (G 5).toInt) (c2 : c_.toInt < 6) (b0 : 0 ≤ b_.toInt) (b1 : b_.toInt < (G 3).toInt) (e0 : 0 ≤ e_.toInt) (e1 : e_.toInt < (G 4).toInt) (e2 : e_.toInt < 5) : ∃ (re : Int32) (H : Nat → Int32), f_m_quarrels G f10 c_ e_ (w c_.toNatClampNeg) (f8 b_.toNatClampNeg) = H ∧ (∀ k0 k1 k2 k3 k4, f_e_attempt_x9 a1 a2 a3 a4 k0 k1 k2 k3 k4 v0 v1 v2 v3 (G 7) fta ftc fn c_ b_ e_ = (H 32, w c_.toNatClampNeg - H 33, H 33, H 34, re)) ∧ (∀ k, k < 32 ∨ 35 ≤ k → H k = G k) ∧ (H 34 = 0 ∨ H 34 = 1) ∧ (re = 0 ∨ re = 1) ∧ (re ≠ 0 ↔ (H 33 = 0 ∧ 0 < (H 32).toInt)) ∧ 0 ≤ (H 33).toInt ∧ (H 33).toInt ≤ (w c_.toNatClampNeg).toInt ∧ (w c_.toNatClampNeg).toInt ≤ 99 ∧ 0 ≤ (H 32).toInt ∧ (H 32).toInt ≤ 99 := by
  obtain ⟨_, n2, n3, n4⟩ := force_in hT c0 c1 c2 e0 e1 e2
  have gb := hB.1 c_.toNatClampNeg (clN c0 c2)
  rw [Nat.zero_add] at gb
  obtain ⟨H, re, r1, r2, r3, r4, r5, r6, r7, r8, r9, r10, r11⟩ := run_eq (G := G) (f10 := f10) (c := c_) (t := e_) (g := w c_.toNatClampNeg) (n1 := f8 b_.toNatClampNeg) (n2 := f8 b_.toNatClampNeg) gb.1 gb.2 hT.1 n3 n4 (fun z _ _ => Iff.rfl)
  have nb : atF 6 fta b_ = f8 b_.toNatClampNeg := by
    rw [at_in b0 (by omega)]
    exact (hT.2.1 b_.toNatClampNeg (by rw [clI b0]; exact b1)).1
  refine ⟨re, H, r1, fun k0 k1 k2 k3 k4 => ?_, r3, r4, r5, r6, r7, r8, gb.2, r9, r10⟩
  unfold f_e_attempt_x9 f_e_forceOf_x8
  rw [e_g hS c0 c2, n2, nb, r2]
theorem passes_off {f11 : Nat → Int32} {v : Int32} : ∀ (n : Nat) (i : Int32) (G w : Nat → Int32), ∃ j, f_m_passes_5 f10 f8 f11 0 v n i 0 G w = (j, 0, G, w) := by
  intro n i G w
  cases n with
  | zero => exact ⟨i, rfl⟩
  | succ n =>
    rw [f_m_passes_5_s]
    by_cases c : f11 v.toNatClampNeg < i
    · exact ⟨i, by rw [if_pos c]⟩
    · exact ⟨i, by rw [if_neg c, if_pos rfl]⟩
theorem passes_none {f11 : Nat → Int32} {v i : Int32} {n : Nat} (v0 : 0 ≤ v.toInt) (v1 : v.toInt < 7) (c1 : ¬ f11 v.toNatClampNeg < i) (c2 : f_m_whoIsAt G w 0 i = -1) : f_m_passes_5 f10 f8 f11 0 v (n + 1) i 1 G w = f_m_passes_5 f10 f8 f11 0 v n (i + 1) 0 G (upd w (27 + v.toNatClampNeg) i) := by
  have x27 : (0 + 27 + v : Int32).toNatClampNeg = 27 + v.toNatClampNeg := sN (a := 27) (x := 27) (y := 7) rfl v0 v1 (by decide)
  rw [f_m_passes_5_s, if_neg c1, if_neg (by decide), if_pos c2, x27]
theorem passes_some {f11 : Nat → Int32} {v i c_ : Int32} {n : Nat} {H : Nat → Int32} (v0 : 0 ≤ v.toInt) (v1 : v.toInt < 7) (a0 : 0 ≤ c_.toInt) (a1 : c_.toInt < 6) (c1 : ¬ f11 v.toNatClampNeg < i) (c2 : f_m_whoIsAt G w 0 i = c_) (hH : f_m_quarrels G f10 c_ (w (12 + c_.toNatClampNeg)) (w c_.toNatClampNeg) (f8 i.toNatClampNeg) = H) : f_m_passes_5 f10 f8 f11 0 v (n + 1) i 1 G w = f_m_passes_5 f10 f8 f11 0 v n (i + 1) (H 34) H (upd (if H 33 = 0 then (if H 32 ≤ 0 then upd (upd w 19 (w 19 + H 32)) c_.toNatClampNeg (H 33) else upd (upd (upd (upd w 19 (w 19 + H 32)) c_.toNatClampNeg (H 33)) 18 ((upd (upd w 19 (w 19 + H 32)) c_.toNatClampNeg (H 33)) 18 ||| (1 <<< (c_ &&& 31)))) (6 + c_.toNatClampNeg) (-1)) else upd (upd w 19 (w 19 + H 32)) c_.toNatClampNeg (H 33)) (27 + v.toNatClampNeg) (if H 34 = 0 then i else -1)) := by
  have hm : ¬ c_ = -1 := by
    intro q
    rw [q, i_m1] at a0
    omega
  have x27 : (0 + 27 + v : Int32).toNatClampNeg = 27 + v.toNatClampNeg := sN (a := 27) (x := 27) (y := 7) rfl v0 v1 (by decide)
  have x12 : (0 + 12 + c_ : Int32).toNatClampNeg = 12 + c_.toNatClampNeg := sN (a := 12) (x := 12) (y := 6) rfl a0 a1 (by decide)
  have x6 : (0 + 6 + c_ : Int32).toNatClampNeg = 6 + c_.toNatClampNeg := sN (a := 6) (x := 6) (y := 6) rfl a0 a1 (by decide)
  have x0 : (0 + 0 + c_ : Int32).toNatClampNeg = c_.toNatClampNeg := by
    have e : (0 + 0 + c_ : Int32) = c_ := by
      rw [show (0 + 0 : Int32) = 0 from rfl, Int32.zero_add]
    rw [e]
  have x19 : (0 + 19 : Int32).toNatClampNeg = 19 := rfl
  have x18 : (0 + 18 : Int32).toNatClampNeg = 18 := rfl
  rw [f_m_passes_5_s, if_neg c1, if_neg (by decide), c2, if_neg hm, x27, x12, x6, x0, x19, x18, hH]
  by_cases d1 : H 33 = 0
  · rw [if_pos d1, if_pos d1]
    by_cases d2 : H 32 ≤ 0
    · rw [if_pos d2, if_pos d2]
      by_cases d3 : H 34 = 0
      · rw [if_pos d3, if_pos d3]
      · rw [if_neg d3, if_neg d3]
    · rw [if_neg d2, if_neg d2]
      by_cases d3 : H 34 = 0
      · rw [if_pos d3, if_pos d3]
      · rw [if_neg d3, if_neg d3]
  · rw [if_neg d1, if_neg d1]
    by_cases d3 : H 34 = 0
    · rw [if_pos d3, if_pos d3]
    · rw [if_neg d3, if_neg d3]
/-- one bridge: the class's swing, and where the reference stands behind it -/
theorem swing_eq {a1 a2 a3 a4 v0 v1 v2 v3 i c_ : Int32} (hG : GI G) (hT : TF G fta ftc f8 f10) (hS : ST fn w 0 0) (hB : BI G w 0) (i0 : 0 ≤ i.toInt) (i1 : i.toInt < (G 3).toInt) (hw : f_m_whoIsAt G w 0 i = c_) (hm : ¬ c_ = -1) : ∃ (H w' fn' : Nat → Int32) (re k1' : Int32), 0 ≤ c_.toInt ∧ c_.toInt < 6 ∧ f_m_quarrels G f10 c_ (w (12 + c_.toNatClampNeg)) (w c_.toNatClampNeg) (f8 i.toNatClampNeg) = H ∧ (if H 33 = 0 then (if H 32 ≤ 0 then upd (upd w 19 (w 19 + H 32)) c_.toNatClampNeg (H 33) else upd (upd (upd (upd w 19 (w 19 + H 32)) c_.toNatClampNeg (H 33)) 18 ((upd (upd w 19 (w 19 + H 32)) c_.toNatClampNeg (H 33)) 18 ||| (1 <<< (c_ &&& 31)))) (6 + c_.toNatClampNeg) (-1)) else upd (upd w 19 (w 19 + H 32)) c_.toNatClampNeg (H 33)) = w' ∧ (∀ k0 k1 k2 k3 k4, f_e_swing_x9 a1 a2 a3 a4 k0 k1 k2 k3 k4 v0 v1 v2 v3 (G 7) fta ftc fn i = (H 34, H 32, k1', H 33, H 34, re, fn')) ∧ ST fn' w' 0 0 ∧ BI H w' 0 ∧ (∀ k, k < 32 ∨ 35 ≤ k → H k = G k) ∧ (H 34 = 0 ∨ H 34 = 1) ∧ (∀ x, 20 ≤ x → w' x = w x) := by
  have g3 := hG.2.1.2
  have g4 := hG.2.2.1.2
  have ws := who_spec (w := w) (b := i) hG
  rw [hw] at ws
  rcases ws with ⟨q, _⟩ | ⟨c0, c1, c3⟩
  · exact absurd q hm
  have g5 := hG.2.2.2.1.2
  have c2 : c_.toInt < 6 := by omega
  have hn := clN (n := 6) c0 c2
  have th := hB.2.2.2.2.1 c_.toNatClampNeg hn
  rw [Nat.zero_add] at th
  obtain ⟨re, H, r1, r2, r3, r4, r5, r6, r7, r8, r9, r10, r11⟩ := attempt_eq (a1 := a1) (a2 := a2) (a3 := a3) (a4 := a4) (v0 := v0) (v1 := v1) (v2 := v2) (v3 := v3) hT g3 hS hB c0 c1 c2 i0 i1 th.1 th.2 (by omega)
  have ca : f_e_coupleAt fn i = c_ := by rw [at_eq hS hG hB i0, hw]
  have s1 : ST (f_e_leave (f_e_spendMinutes fn (H 32)) c_ (H 33)) (upd (upd w 19 (w 19 + H 32)) c_.toNatClampNeg (H 33)) 0 0 := w_g (w_min hS) c0 c2
  have B1 : BI G (upd (upd w 19 (w 19 + H 32)) c_.toNatClampNeg (H 33)) 0 := by
    refine BI_g (BI_m hB (Or.inl rfl)) c0 c2 c1 r7 (by omega) (fun hh => ?_)
    rw [pk_un (by decide)] at hh
    have := hB.2.2.2.2.2.1 c_ c0 c2 (by rw [Nat.zero_add]; exact hh)
    rw [Nat.zero_add] at this
    rw [this, i_0] at r8
    rw [i_eq, i_0]
    omega
  have o1 : ∀ x, 20 ≤ x → (upd (upd w 19 (w 19 + H 32)) c_.toNatClampNeg (H 33)) x = w x := fun x hx => by rw [pk_un (by omega), pk_un (by omega)]
  have z1 : (upd (upd w 19 (w 19 + H 32)) c_.toNatClampNeg (H 33)) c_.toNatClampNeg = H 33 := pk_us
  generalize hw1 : upd (upd w 19 (w 19 + H 32)) c_.toNatClampNeg (H 33) = w1 at s1 B1 o1 z1
  have sw : ∀ k0 k1 k2 k3 k4, f_e_swing_x9 a1 a2 a3 a4 k0 k1 k2 k3 k4 v0 v1 v2 v3 (G 7) fta ftc fn i = (if re = 0 then (H 34, H 32, w c_.toNatClampNeg - H 33, H 33, H 34, re, f_e_leave (f_e_spendMinutes fn (H 32)) c_ (H 33)) else (H 34, H 32, w c_.toNatClampNeg - H 33, H 33, H 34, re, f_e_reconcile (f_e_leave (f_e_spendMinutes fn (H 32)) c_ (H 33)) c_)) := by
    intro k0 k1 k2 k3 k4
    unfold f_e_swing_x9
    rw [ca, if_neg hm, e_t hS c0 c2, r2]
  have bh : ∀ w', BI G w' 0 → BI H w' 0 := fun w' h => BI_of h (fun k _ => rfl) (r3 3 (by decide)) (r3 4 (by decide)) (r3 5 (by decide)) (r3 6 (by decide))
  by_cases d : H 33 = 0 ∧ 0 < (H 32).toInt
  · have d2 : ¬ H 32 ≤ 0 := by
      rw [i_le, i_0]
      omega
    have dr : ¬ re = 0 := r6.mpr d
    refine ⟨H, upd (upd w1 18 (w1 18 ||| (1 <<< (c_ &&& 31)))) (6 + c_.toNatClampNeg) (-1), f_e_reconcile (f_e_leave (f_e_spendMinutes fn (H 32)) c_ (H 33)) c_, re, w c_.toNatClampNeg - H 33, c0, c2, r1, ?_, fun k0 k1 k2 k3 k4 => ?_, ?_, bh _ ?_, r3, r4, fun x hx => ?_⟩
    · rw [if_pos d.1, if_neg d2, hw1]
    · rw [sw, if_neg dr]
    · unfold f_e_reconcile
      rw [e_rec s1]
      exact w_p (w_rec s1) c0 c2
    · refine BI_p (BI_d B1 c0 c2 (by rw [z1]; exact d.1)) hn (by rw [clI c0]; exact c1) (by rw [i_m1]; omega) (by rw [i_m1]; omega) (fun _ _ _ _ => rfl)
    · rw [pk_un (by omega), pk_un (by omega), o1 x hx]
  · have dr : re = 0 := by
      by_cases z : re = 0
      · exact z
      · exact absurd (r6.mp z) d
    refine ⟨H, w1, f_e_leave (f_e_spendMinutes fn (H 32)) c_ (H 33), re, w c_.toNatClampNeg - H 33, c0, c2, r1, ?_, fun k0 k1 k2 k3 k4 => ?_, s1, bh _ B1, r3, r4, o1⟩
    · by_cases d1 : H 33 = 0
      · have d2 : H 32 ≤ 0 := by
          have d3 : ¬ 0 < (H 32).toInt := fun z => d ⟨d1, z⟩
          rw [i_le, i_0]
          omega
        rw [if_pos d1, if_pos d2, hw1]
      · rw [if_neg d1, hw1]
    · rw [sw, if_pos dr]
theorem pass_loop {a1 a2 a3 a4 l0 l1 l2 l3 l4 v0 v1 v2 v3 v8 v9 v : Int32} {ftd fte fn0 fsh0 f11 : Nat → Int32} (hv0 : 0 ≤ v.toInt) (hv1 : v.toInt < 7) (hfar : atF 7 ftd v = f11 v.toNatClampNeg) (hf5 : (f11 v.toNatClampNeg).toInt ≤ 5) : ∀ (n m : Nat) (i : Int32) (G fn w : Nat → Int32), GI G → TF G fta ftc f8 f10 → (f11 v.toNatClampNeg).toInt < (G 3).toInt → ST fn w 0 0 → BI G w 0 → w (27 + v.toNatClampNeg) = -1 → 0 ≤ i.toInt → i.toInt ≤ (f11 v.toNatClampNeg).toInt + 1 → (f11 v.toNatClampNeg).toInt + 1 - i.toInt < n → (f11 v.toNatClampNeg).toInt + 1 - i.toInt < m → ∃ (H w' fn' : Nat → Int32), ST fn' w' 0 0 ∧ BI H w' 0 ∧ (∀ k, k < 32 ∨ 35 ≤ k → H k = G k) ∧ (∀ x, 20 ≤ x → w' x = w x) ∧ ((∃ j, f_m_passes_5 f10 f8 f11 0 v n i 1 G w = (j, 1, H, w') ∧ ∀ k0 k1 k2 k3 k4 p1 p2 fsh, ∃ j' g0 g1 g2 g3 g4, f_e_pass_x9_72 a1 a2 a3 a4 l0 l1 l2 l3 l4 v0 v1 v2 v3 (G 7) fta ftc ftd fte fn0 v8 v9 fsh0 v m i k0 k1 k2 k3 k4 fn p1 p2 fsh = Sum.inl (j', g0, g1, g2, g3, g4, fn', p1, p2, fsh)) ∨ (∃ j b, f_m_passes_5 f10 f8 f11 0 v n i 1 G w = (j, 0, H, upd w' (27 + v.toNatClampNeg) b) ∧ ∀ k0 k1 k2 k3 k4 p1 p2 fsh, ∃ g0 g1 g2 g3 g4, f_e_pass_x9_72 a1 a2 a3 a4 l0 l1 l2 l3 l4 v0 v1 v2 v3 (G 7) fta ftc ftd fte fn0 v8 v9 fsh0 v m i k0 k1 k2 k3 k4 fn p1 p2 fsh = Sum.inr (f_e_minutes (f_e_lay fn' v b), g0, g1, g2, g3, g4, f_e_lay fn' v b, p1, p2, fsh))) := by
  have hmin : (if 5 < (atF 7 ftd v) then 5 else (atF 7 ftd v)) = f11 v.toNatClampNeg := by
    rw [hfar, if_neg]
    rw [i_lt]
    simp only [Int32.reduceToInt]
    omega
  intro n
  induction n with
  | zero => intro m i G fn w hG hT h3 hS hB hz h0 h1 h2; omega
  | succ n ih =>
    intro m i G fn w hG hT h3 hS hB hz h0 h1 h2 h4
    cases m with
    | zero => omega
    | succ m =>
      by_cases c1 : f11 v.toNatClampNeg < i
      · refine ⟨G, w, fn, hS, hB, fun k _ => rfl, fun x _ => rfl, Or.inl ⟨i, ?_, fun k0 k1 k2 k3 k4 p1 p2 fsh => ⟨i, k0, k1, k2, k3, k4, ?_⟩⟩⟩
        · rw [f_m_passes_5_s, if_pos c1]
        · rw [f_e_pass_x9_72_s, hmin, if_pos c1]
      · have c1' := c1
        rw [i_lt] at c1'
        have e1 := i_a1 (a := i) (by omega) (by omega)
        by_cases c2 : f_m_whoIsAt G w 0 i = -1
        · have ca : f_e_coupleAt fn i = -1 := by rw [at_eq hS hG hB h0, c2]
          obtain ⟨j, hj⟩ := passes_off (f8 := f8) (f10 := f10) (f11 := f11) (v := v) n (i + 1) G (upd w (27 + v.toNatClampNeg) i)
          refine ⟨G, w, fn, hS, hB, fun k _ => rfl, fun x _ => rfl, Or.inr ⟨j, i, ?_, fun k0 k1 k2 k3 k4 p1 p2 fsh => ⟨k0, k1, k2, k3, k4, ?_⟩⟩⟩
          · rw [passes_none hv0 hv1 c1 c2, hj]
          · have sw : f_e_swing_x9 a1 a2 a3 a4 k0 k1 k2 k3 k4 v0 v1 v2 v3 (G 7) fta ftc fn i = (0, k0, k1, k2, k3, k4, fn) := by
              unfold f_e_swing_x9
              rw [if_pos ca]
            rw [f_e_pass_x9_72_s, hmin, if_neg c1, sw]
            dsimp (config := { etaStruct := .none }) only
            rw [if_pos rfl]
        · obtain ⟨H, w', fn', re, k1', c0, c3, y1, y2, y3, y4, y5, y6, y7, y8⟩ := swing_eq (a1 := a1) (a2 := a2) (a3 := a3) (a4 := a4) (v0 := v0) (v1 := v1) (v2 := v2) (v3 := v3) hG hT hS hB h0 (by omega) rfl c2
          have st := passes_some (n := n) hv0 hv1 c0 c3 c1 rfl y1
          rw [y2] at st
          have hGH : GI H := GI.of (fun k hk => y6 k (by omega)) hG
          rcases y7 with z | z
          · rw [z, if_pos rfl] at st
            obtain ⟨j, hj⟩ := passes_off (f8 := f8) (f10 := f10) (f11 := f11) (v := v) n (i + 1) H (upd w' (27 + v.toNatClampNeg) i)
            refine ⟨H, w', fn', y4, y5, y6, y8, Or.inr ⟨j, i, ?_, fun k0 k1 k2 k3 k4 p1 p2 fsh => ⟨H 32, k1', H 33, H 34, re, ?_⟩⟩⟩
            · rw [st, hj]
            · rw [f_e_pass_x9_72_s, hmin, if_neg c1, y3]
              dsimp (config := { etaStruct := .none }) only
              rw [if_pos z]
          · have zn : ¬ H 34 = 0 := by rw [z]; decide
            rw [if_neg zn, z] at st
            have hz' : w' (27 + v.toNatClampNeg) = -1 := by rw [y8 _ (by omega)]; exact hz
            rw [rl_eq hz'] at st
            obtain ⟨K, w2, fn2, x1, x2, x3, x4, x5⟩ := ih m (i + 1) H fn' w' hGH (TF_of hT (fun k a b => y6 k (by omega))) (by rw [y6 3 (by decide)]; exact h3) y4 y5 hz' (by omega) (by omega) (by omega) (by omega)
            have e7 := y6 7 (by decide)
            refine ⟨K, w2, fn2, x1, x2, fun k hk => (x3 k hk).trans (y6 k hk), fun x hx => (x4 x hx).trans (y8 x hx), ?_⟩
            rcases x5 with ⟨j, u1, u2⟩ | ⟨j, b, u1, u2⟩
            · refine Or.inl ⟨j, by rw [st, u1], fun k0 k1 k2 k3 k4 p1 p2 fsh => ?_⟩
              obtain ⟨j', g0, g1, g2, g3, g4, u3⟩ := u2 (H 32) k1' (H 33) (H 34) re p1 p2 fsh
              rw [e7] at u3
              refine ⟨j', g0, g1, g2, g3, g4, ?_⟩
              rw [f_e_pass_x9_72_s, hmin, if_neg c1, y3]
              dsimp (config := { etaStruct := .none }) only
              rw [if_neg zn, u3]
            · refine Or.inr ⟨j, b, by rw [st, u1], fun k0 k1 k2 k3 k4 p1 p2 fsh => ?_⟩
              obtain ⟨g0, g1, g2, g3, g4, u3⟩ := u2 (H 32) k1' (H 33) (H 34) re p1 p2 fsh
              rw [e7] at u3
              refine ⟨g0, g1, g2, g3, g4, ?_⟩
              rw [f_e_pass_x9_72_s, hmin, if_neg c1, y3]
              dsimp (config := { etaStruct := .none }) only
              rw [if_neg zn, u3]
theorem R_pass {k0 k1 k2 k3 k4 v_ rx x0 x1 x2 x3 x4 x6 x7 ry : Int32} {x5 x8 y0 y1 : Nat → Int32} (hG : GI G) (hR : RS q1 q2 ftx f13 t0 t1 t2 t3 t4 fta ftb ftc ftd fte f8 f9 f10 f11 f12 b0 fba fbb f43 f44 G) (hD : DY q10 q12 p1 p2 fn fsh fim fis f1 G w) (ex : (rx, x0, x1, x2, x3, x4, x5, x6, x7, x8) = f_e_pass_x9 q1 q2 q10 q12 k0 k1 k2 k3 k4 t0 t1 t2 t3 t4 fta ftc ftd fte fn p1 p2 fsh v_) (em : (ry, y0, y1) = f_m_pass G w f10 f8 f11 f12 v_) : rx = ry ∧ RS q1 q2 ftx f13 t0 t1 t2 t3 t4 fta ftb ftc ftd fte f8 f9 f10 f11 f12 b0 fba fbb f43 f44 y0 ∧ DY q10 q12 x6 x7 x5 x8 fim fis f1 y0 y1 := by
  have hR0 := hR
  have hD0 := hD
  obtain ⟨hX, ⟨et0, et1, et2, et3, et4, n4, n7, nA, nB, nF, nD, nE⟩, hK⟩ := hR
  obtain ⟨⟨hS, hB, hq⟩, hU, hI⟩ := hD
  unfold f_e_pass_x9 at ex
  unfold f_m_pass at em
  rw [et3, et4] at ex
  by_cases c1 : f_m_isBarge G v_ = 0
  · rw [if_pos c1] at em
    rw [if_pos ((q_barge hG _ _ _ _ _).mpr c1)] at ex
    cases ex; cases em
    exact ⟨rfl, hR0, hD0⟩
  rw [if_neg c1] at em
  rw [if_neg (fun q => c1 ((q_barge hG _ _ _ _ _).mp q))] at ex
  obtain ⟨a0, a1, a2⟩ := l_barge hG c1
  have hn := clN (n := 7) a0 a2
  have hi := clI a0
  have x20 : (20 + v_ : Int32).toNatClampNeg = 20 + v_.toNatClampNeg := sN (a := 20) (x := 20) (y := 7) rfl a0 a2 (by decide)
  have n19 : (19 : Int32).toNatClampNeg = 19 := rfl
  rw [x20, n19] at em
  rw [e_fate hS a0 a2, e_min hS] at ex
  by_cases c2 : w (20 + v_.toNatClampNeg) = 0
  · rw [if_pos c2] at ex em
    by_cases c3 : w 19 ≤ 90000
    · rw [if_pos c3] at ex em
      cases hr : f_e_remember_x2 p1 p2 fsh fn with
      | mk s1 z =>
        obtain ⟨s2, gsh⟩ := z
        cases hm : f_m_minds G w with
        | mk M u =>
          rw [hr] at ex
          rw [hm] at em
          dsimp (config := { etaStruct := .none }) only at ex em
          obtain ⟨s1', s2', gsh', M', u', r1', r2', r3, r4, gH, sn, _⟩ := DY_go (q12' := q12) (fn' := fn) hD0 hG
          rw [hr] at r1'
          rw [hm] at r2'
          cases r1'; cases r2'
          have g3 := hG.2.1.2
          obtain ⟨f_a, f_b, f_c⟩ := nD v_.toNatClampNeg (by omega)
          obtain ⟨d_a, d_b, d_c⟩ := nE v_.toNatClampNeg (by omega)
          have hfar : atF 7 ftd v_ = f11 v_.toNatClampNeg := by
            rw [at_in a0 a2]
            exact f_a
          have hdue : atF 7 fte v_ = f12 v_.toNatClampNeg := by
            rw [at_in a0 a2]
            exact d_a
          obtain ⟨b27, b34⟩ := sn.2.1.2.2.2.2.2.2.1 v_.toNatClampNeg hn (by rw [Nat.zero_add, r4 _ (by omega)]; exact c2)
          rw [Nat.zero_add] at b27 b34
          have hmin : (if 5 < (atF 7 ftd v_) then 5 else (atF 7 ftd v_)) = f11 v_.toNatClampNeg := by
            rw [hfar, if_neg]
            rw [i_lt]
            simp only [Int32.reduceToInt]
            omega
          have hT : TF M fta ftc f8 f10 := TF_of ⟨n7, nA, nF⟩ (fun k a b => r3 k (by omega))
          obtain ⟨K, w', fn', y1', y2', y3', y4', y5'⟩ := pass_loop (fta := fta) (ftc := ftc) (f8 := f8) (f10 := f10) (a1 := q1) (a2 := q2) (a3 := q10) (a4 := q12) (l0 := k0) (l1 := k1) (l2 := k2) (l3 := k3) (l4 := k4) (v0 := t0) (v1 := t1) (v2 := t2) (v3 := G 6) (v8 := p1) (v9 := p2) (fte := fte) (fn0 := fn) (fsh0 := fsh) a0 a2 hfar (by omega) 10 (((f11 v_.toNatClampNeg).toInt + 1 - (0 : Int32).toInt).toNat + 1) 0 M fn u gH hT (by rw [r3 3 (by decide)]; omega) sn.1 sn.2.1 b27 (by decide) (by rw [i_0]; omega) (by rw [i_0]; omega) (by rw [i_0]; omega)
          rw [r3 7 (by decide)] at y5'
          rw [hmin] at ex
          have o20 : (0 + 20 + v_ : Int32).toNatClampNeg = 20 + v_.toNatClampNeg := sN (a := 20) (x := 20) (y := 7) rfl a0 a2 (by decide)
          have o34 : (0 + 34 + v_ : Int32).toNatClampNeg = 34 + v_.toNatClampNeg := sN (a := 34) (x := 34) (y := 7) rfl a0 a2 (by decide)
          have o19 : (0 + 19 : Int32).toNatClampNeg = 19 := rfl
          have frG : ∀ k, 3 ≤ k → k < 32 ∨ k = 42 → K k = G k := fun k h1 h2 => (y3' k (by omega)).trans (r3 k (by omega))
          have snK : ∀ fn2 w2, ST fn2 w2 0 0 → BI K w2 0 → (∀ x, 41 ≤ x → w2 x = w' x) → DY q10 q12 s1 s2 fn2 gsh fim fis f1 K w2 := by
            intro fn2 w2 h1 h2 h3
            obtain ⟨s1', s2', gsh', M', u', r1', r2', _, _, _, _, go⟩ := DY_go (q12' := q12) (fn' := fn2) hD0 hG
            rw [hr] at r1'
            rw [hm] at r2'
            cases r1'; cases r2'
            have hMw : ∀ x, 41 ≤ x → w2 x = u x := fun x hx => by rw [h3 x hx, y4' x (by omega)]
            have := go w2 (fun x hx => hMw x (by omega)) ⟨h1, BI_of h2 (fun k _ => rfl) (y3' 3 (by decide)).symm (y3' 4 (by decide)).symm (y3' 5 (by decide)).symm (y3' 6 (by decide)).symm, by rw [hMw 41 (by decide)]; exact sn.2.2⟩
            exact DY_of this gH (fun x _ => rfl) (fun k h1 h2 => y3' k (by omega))
          rcases y5' with ⟨j, u1, u2⟩ | ⟨j, b, u1, u2⟩
          · obtain ⟨j', g0, g1, g2, g3', g4, u3⟩ := u2 k0 k1 k2 k3 k4 s1 s2 gsh
            rw [u3] at ex
            have hp : f_m_passes M u f10 f8 f11 f12 0 v_ = (if (f12 v_.toNatClampNeg) < (w' 19) then (K, upd (upd w' (20 + v_.toNatClampNeg) 2) (34 + v_.toNatClampNeg) ((upd w' (20 + v_.toNatClampNeg) 2) 19)) else (K, upd (upd w' (20 + v_.toNatClampNeg) 1) (34 + v_.toNatClampNeg) ((upd w' (20 + v_.toNatClampNeg) 1) 19))) := by
              unfold f_m_passes
              rw [u1]
              dsimp (config := { etaStruct := .none }) only
              rw [if_neg (by decide), o20, o34, o19]
              by_cases z : f12 v_.toNatClampNeg < w' 19
              · rw [if_pos z, if_pos z, if_neg (by decide)]
              · rw [if_neg z, if_neg z, if_neg (by decide)]
            rw [hp] at em
            dsimp (config := { etaStruct := .none }) only at ex
            rw [hdue, e_min y1'] at ex
            have fin : ∀ x : Int32, x ≠ 0 → (rx, x0, x1, x2, x3, x4, x5, x6, x7, x8) = (f_e_minutes (f_e_letThrough fn' v_ x), g0, g1, g2, g3', g4, f_e_letThrough fn' v_ x, s1, s2, gsh) → (ry, y0, y1) = ((upd (upd w' (20 + v_.toNatClampNeg) x) (34 + v_.toNatClampNeg) ((upd w' (20 + v_.toNatClampNeg) x) 19)) 19, K, upd (upd w' (20 + v_.toNatClampNeg) x) (34 + v_.toNatClampNeg) ((upd w' (20 + v_.toNatClampNeg) x) 19)) → rx = ry ∧ RS q1 q2 ftx f13 t0 t1 t2 t3 t4 fta ftb ftc ftd fte f8 f9 f10 f11 f12 b0 fba fbb f43 f44 y0 ∧ DY q10 q12 x6 x7 x5 x8 fim fis f1 y0 y1 := by
              intro x hx ex em
              have sa := w_fate (x := x) y1' a0 a2
              have sb : ST (f_e_letThrough fn' v_ x) (upd (upd w' (20 + v_.toNatClampNeg) x) (34 + v_.toNatClampNeg) ((upd w' (20 + v_.toNatClampNeg) x) 19)) 0 0 := by
                unfold f_e_letThrough
                rw [e_min sa]
                exact w_when sa a0 a2
              have bb : BI K (upd (upd w' (20 + v_.toNatClampNeg) x) (34 + v_.toNatClampNeg) ((upd w' (20 + v_.toNatClampNeg) x) 19)) 0 := by
                have := BI_v (y := w' (27 + v_.toNatClampNeg)) (z := (upd w' (20 + v_.toNatClampNeg) x) 19) y2' hn (by rw [y3' 6 (by decide), r3 6 (by decide)]; omega) hx
                rw [rl_self] at this
                exact this
              rw [e_min sb] at ex
              have dd := snK _ _ sb bb (fun x hx => by rw [pk_un (by omega), pk_un (by omega)])
              cases ex; cases em
              exact ⟨rfl, RS_of hR0 frG, dd⟩
            by_cases z : f12 v_.toNatClampNeg < w' 19
            · rw [if_pos z] at ex em
              exact fin 2 (by decide) ex em
            · rw [if_neg z] at ex em
              exact fin 1 (by decide) ex em
          · obtain ⟨g0, g1, g2, g3', g4, u3⟩ := u2 k0 k1 k2 k3 k4 s1 s2 gsh
            rw [u3] at ex
            have hp : f_m_passes M u f10 f8 f11 f12 0 v_ = (K, upd (upd (upd w' (27 + v_.toNatClampNeg) b) (20 + v_.toNatClampNeg) 3) (34 + v_.toNatClampNeg) (-1)) := by
              unfold f_m_passes
              rw [u1]
              dsimp (config := { etaStruct := .none }) only
              rw [if_pos rfl, if_pos rfl, o20, o34]
            rw [hp] at em
            dsimp (config := { etaStruct := .none }) only at ex em
            have h34 : (upd (upd w' (27 + v_.toNatClampNeg) b) (20 + v_.toNatClampNeg) 3) (34 + v_.toNatClampNeg) = -1 := by
              rw [pk_un (by omega), pk_un (by omega), y4' _ (by omega)]
              exact b34
            have bb : BI K (upd (upd (upd w' (27 + v_.toNatClampNeg) b) (20 + v_.toNatClampNeg) 3) (34 + v_.toNatClampNeg) (-1)) 0 := BI_v y2' hn (by rw [y3' 6 (by decide), r3 6 (by decide)]; omega) (by decide)
            rw [rl_eq h34] at em bb
            have sb : ST (f_e_lay fn' v_ b) (upd (upd w' (27 + v_.toNatClampNeg) b) (20 + v_.toNatClampNeg) 3) 0 0 := by
              rw [rl_sw (by omega)]
              exact w_berth (w_fate y1' a0 a2) a0 a2
            rw [e_min sb] at ex
            have dd := snK _ _ sb bb (fun x hx => by rw [pk_un (by omega), pk_un (by omega)])
            cases ex; cases em
            exact ⟨rfl, RS_of hR0 frG, dd⟩
    · rw [if_neg c3] at ex em
      cases ex; cases em
      exact ⟨rfl, hR0, hD0⟩
  · rw [if_neg c2] at ex em
    cases ex; cases em
    exact ⟨rfl, hR0, hD0⟩
end
