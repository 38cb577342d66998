/-! draws and drifts, side by side -/
theorem rl_eq {f : Nat → Int32} {k : Nat} {x : Int32} (h : f k = x) : upd f k x = f := by
  rw [← h]
  exact rl_self
theorem mask31 {x : Int64} (h0 : 0 ≤ x.toInt) : x &&& 2147483647 = x - x / 2147483648 * 2147483648 := by
  have hlt := Int64.toInt_lt x
  have hx : (x.toBitVec.toNat : Int) = x.toInt := by
    have e : x.toInt = x.toBitVec.toInt := rfl
    rw [e] at h0 ⊢
    rw [BitVec.toInt_eq_toNat_cond] at h0 ⊢
    have := x.toBitVec.isLt
    split at h0 <;> split <;> omega
  apply Int64.toInt_inj.mp
  have d : (x / 2147483648).toInt = x.toInt / 2147483648 := by
    rw [Int64.toInt_div_of_ne_right _ _ (by decide), Int.tdiv_eq_ediv_of_nonneg h0]
    rfl
  have m : (x / 2147483648 * 2147483648).toInt = x.toInt / 2147483648 * 2147483648 := by
    rw [Int64.toInt_mul, d]
    have e31 : (2147483648 : Int64).toInt = 2147483648 := rfl
    rw [e31, bm64 (by omega) (by omega)]
  rw [Int64.toInt_sub, m, bm64 (by omega) (by omega)]
  have e : (x &&& 2147483647).toInt = (x.toBitVec &&& 2147483647#64).toInt := rfl
  have n : (x.toBitVec &&& 2147483647#64).toNat = x.toBitVec.toNat % 2147483648 := by
    rw [BitVec.toNat_and]
    exact Nat.and_two_pow_sub_one_eq_mod x.toBitVec.toNat 31
  rw [e, BitVec.toInt_eq_toNat_cond, n, if_pos (by omega)]
  omega
theorem draw_eq {w : Nat → Int32} {n q : Int32} (hq : q = w 41) (h0 : 0 ≤ q.toInt) (hn : 0 < n.toInt) : ∃ (r s : Int32), (∀ a b c, f_e_draw_x9 a b c q n = (r, s)) ∧ f_m_draw w n = (r, upd w 41 s) := by
  subst hq
  have hl := Int32.toInt_lt (w 41)
  have hx : 0 ≤ ((w 41).toInt64 * 1103515245 + 12345).toInt := by
    have e1 : (1103515245 : Int64).toInt = 1103515245 := rfl
    have e2 : (12345 : Int64).toInt = 12345 := rfl
    have m : ((w 41).toInt64 * 1103515245).toInt = (w 41).toInt * 1103515245 := by
      rw [Int64.toInt_mul, Int32.toInt_toInt64, e1, bm64 (by omega) (by omega)]
    rw [Int64.toInt_add, m, e2, bm64 (by omega) (by omega)]
    omega
  have k := mask31 hx
  have n41 : (41 : Int32).toNatClampNeg = 41 := rfl
  unfold f_m_draw
  rw [n41, ← k, pk_us]
  refine ⟨_, _, fun a b c => ?_, rfl⟩
  unfold f_e_draw_x9
  rw [if_pos (by rw [i_lt, i_0]; exact hn)]
theorem WI_s {w : Nat → Int32} (h : WI w) : 0 ≤ (w 41).toInt := (h 41).2 rfl
section
variable {q1 q2 q10 q12 t0 t1 t2 t3 t4 p1 p2 b0 : Int32} {ftx fta ftb ftc ftd fte fn fsh fim fis fba fbb G w f1 f8 f9 f10 f11 f12 f13 f43 f44 : Nat → Int32}
theorem drift_loop {n_ : Int32} {u1 u2 u10 u12 v0 v1 v3 v4 : Int32} {fn0 fsh0 : Nat → Int32} {v7 v8 : Int32} : ∀ (n : Nat) (i s : Int32) (fn G w : Nat → Int32), GI G → 0 < (G 5).toInt → WI w → SN s fn G w → ∃ (j j' s' : Int32) (fn' w' : Nat → Int32), (∀ p1 p2 fsh, f_e_drift_x9_55 u1 u2 u10 u12 v0 v1 (G 5) v3 v4 fn0 v7 v8 fsh0 n_ n i s fn p1 p2 fsh = (j, s', fn', p1, p2, fsh)) ∧ f_m_drift_46 n_ n i G w = (j', G, w') ∧ SN s' fn' G w' ∧ (∀ x, 42 ≤ x → w' x = w x) := by
  intro n
  induction n with
  | zero => intro i s fn G w hG h5 hW hS; exact ⟨i, i, s, fn, w, fun p1 p2 fsh => rfl, rfl, hS, fun x _ => rfl⟩
  | succ n ih =>
    intro i s fn G w hG h5 hW hS
    have g6 := hG.2.2.2.1.2
    by_cases c : n_ ≤ i
    · refine ⟨i, i, s, fn, w, fun p1 p2 fsh => ?_, ?_, hS, fun x _ => rfl⟩
      · rw [f_e_drift_x9_55_s, if_pos c]
      · rw [f_m_drift_46_s, if_pos c]
    · have hS0 := hS
      obtain ⟨hT, hB, hq⟩ := hS
      obtain ⟨r1, s1, d1, d2⟩ := draw_eq (n := G 5) hq (by rw [hq]; exact WI_s hW) h5
      obtain ⟨a0, a1, hW1⟩ := p_draw hW h5 r1 _ d2
      obtain ⟨r2, s2, d3, d4⟩ := draw_eq (w := upd w 41 s1) (n := 10) (q := s1) pk_us.symm (by have := WI_s hW1; rw [pk_us] at this; exact this) (by decide)
      obtain ⟨b0, b1, hW2⟩ := p_draw hW1 (by decide) r2 _ d4
      have x10 : (10 : Int32).toInt = 10 := rfl
      rw [x10] at b1
      rw [rl_tw] at d4 hW2
      have a2 : r1.toInt < 6 := by omega
      have hn := clN (n := 6) a0 a2
      have t2 : ST fn (upd w 41 s2) 0 0 := ST_off hT (by decide)
      have B2 : BI G (upd w 41 s2) 0 := BI_m hB (Or.inr (by decide))
      have u41 : (upd w 41 s2) 41 = s2 := pk_us
      have uo : ∀ x, 42 ≤ x → (upd w 41 s2) x = w x := fun x hx => pk_un (by omega)
      have st : ∀ p1 p2 fsh, f_e_drift_x9_55 u1 u2 u10 u12 v0 v1 (G 5) v3 v4 fn0 v7 v8 fsh0 n_ (n + 1) i s fn p1 p2 fsh = (if (f_e_isReconciled fn r1) = 0 then (f_e_drift_x9_55 u1 u2 u10 u12 v0 v1 (G 5) v3 v4 fn0 v7 v8 fsh0 n_ n (i + 1) s2 (f_e_spendMinutes (f_e_embitter fn r1 r2) 1) p1 p2 fsh) else (f_e_drift_x9_55 u1 u2 u10 u12 v0 v1 (G 5) v3 v4 fn0 v7 v8 fsh0 n_ n (i + 1) s2 (f_e_spendMinutes fn 1) p1 p2 fsh)) := by
        intro p1 p2 fsh
        rw [f_e_drift_x9_55_s, if_neg c, d1]
        dsimp (config := { etaStruct := .none }) only
        rw [d3]
      have sm' : f_m_drift_46 n_ (n + 1) i G w = f_m_drift_46 n_ n (i + 1) G (upd (f_m_grieves (upd w 41 s2) r1 r2) 19 (((f_m_grieves (upd w 41 s2) r1 r2) 19) + 1)) := by
        rw [f_m_drift_46_s, if_neg c, d2]
        dsimp (config := { etaStruct := .none }) only
        rw [d4]
        rfl
      have dn := e_done t2 r1
      have hW3 := p_grieves (m_ := r2) hW2 a0 a2
      generalize upd w 41 s2 = W at t2 B2 u41 uo sm' dn hW2 hW3
      by_cases c2 : f_m_isDone W r1 = 0
      · have g1 := B2.1 r1.toNatClampNeg hn
        rw [Nat.zero_add] at g1
        have ea := i_add (a := W r1.toNatClampNeg) (b := r2) (by omega) (by omega)
        have egr : f_m_grieves W r1 r2 = upd W r1.toNatClampNeg (if W r1.toNatClampNeg + r2 ≤ 99 then W r1.toNatClampNeg + r2 else 99) := by
          unfold f_m_grieves
          rw [if_pos c2, ix0]
          by_cases z : W r1.toNatClampNeg + r2 ≤ 99
          · rw [if_pos z, if_pos z]
          · rw [if_neg z, if_neg z]
        have een : f_e_embitter fn r1 r2 = f_e_leave fn r1 (if W r1.toNatClampNeg + r2 ≤ 99 then W r1.toNatClampNeg + r2 else 99) := by
          unfold f_e_embitter
          rw [e_g t2 a0 a2, emb]
        have bx : 0 ≤ (if W r1.toNatClampNeg + r2 ≤ 99 then W r1.toNatClampNeg + r2 else 99).toInt ∧ (if W r1.toNatClampNeg + r2 ≤ 99 then W r1.toNatClampNeg + r2 else 99).toInt ≤ 99 := by
          by_cases z : W r1.toNatClampNeg + r2 ≤ 99
          · rw [if_pos z]
            rw [i_le] at z
            simp only [Int32.reduceToInt] at z
            omega
          · rw [if_neg z]
            decide
        rw [egr] at hW3 sm'
        rw [een] at st
        generalize (if W r1.toNatClampNeg + r2 ≤ 99 then W r1.toNatClampNeg + r2 else 99) = X at hW3 sm' st bx
        have t3 := w_min (v := 1) (w_g (x := X) t2 a0 a2)
        have B3 : BI G (upd (upd W r1.toNatClampNeg X) 19 ((upd W r1.toNatClampNeg X) 19 + 1)) 0 := BI_m (BI_g B2 a0 a2 a1 bx.1 bx.2 (fun hh => absurd c2 hh)) (Or.inl rfl)
        have W4 : WI (upd (upd W r1.toNatClampNeg X) 19 ((upd W r1.toNatClampNeg X) 19 + 1)) := WI_upd hW3 (OKv.out (by decide))
        obtain ⟨j, j', s', fn', w', y1, y2, y3, y4⟩ := ih (i + 1) s2 _ G _ hG h5 W4 ⟨t3, B3, by rw [pk_un (by decide), pk_un (by omega)]; exact u41.symm⟩
        refine ⟨j, j', s', fn', w', fun p1 p2 fsh => ?_, ?_, y3, fun x hx => ?_⟩
        · rw [st, dn, if_pos c2, y1]
        · rw [sm', y2]
        · rw [y4 x hx, pk_un (by omega), pk_un (by omega), uo x hx]
      · have egr : f_m_grieves W r1 r2 = W := by
          unfold f_m_grieves
          rw [if_neg c2, ix0]
          refine rl_eq ?_
          have := B2.2.2.2.2.2.1 r1 a0 a2 c2
          rw [Nat.zero_add] at this
          exact this
        rw [egr] at sm'
        have t3 := w_min (v := 1) t2
        have B3 : BI G (upd W 19 (W 19 + 1)) 0 := BI_m B2 (Or.inl rfl)
        have W4 : WI (upd W 19 (W 19 + 1)) := WI_upd hW2 (OKv.out (by decide))
        obtain ⟨j, j', s', fn', w', y1, y2, y3, y4⟩ := ih (i + 1) s2 _ G _ hG h5 W4 ⟨t3, B3, by rw [pk_un (by decide)]; exact u41.symm⟩
        refine ⟨j, j', s', fn', w', fun p1 p2 fsh => ?_, ?_, y3, fun x hx => ?_⟩
        · rw [st, dn, if_neg c2, y1]
        · rw [sm', y2]
        · rw [y4 x hx, pk_un (by omega), uo x hx]
theorem R_drift {n_ rx x0 x2 x3 ry : Int32} {x1 x4 y0 y1 : Nat → Int32} (hG : GI G) (hW : WI w) (hR : RS q1 q2 ftx f13 t0 t1 t2 t3 t4 fta ftb ftc ftd fte f8 f9 f10 f11 f12 b0 fba fbb f43 f44 G) (hD : DY q10 q12 p1 p2 fn fsh fim fis f1 G w) (ex : (rx, x0, x1, x2, x3, x4) = f_e_drift_x9 q1 q2 q10 q12 t0 t1 t2 t3 t4 fn p1 p2 fsh n_) (em : (ry, y0, y1) = f_m_drift G w n_) : rx = ry ∧ RS q1 q2 ftx f13 t0 t1 t2 t3 t4 fta ftb ftc ftd fte f8 f9 f10 f11 f12 b0 fba fbb f43 f44 y0 ∧ DY q10 x0 x2 x3 x1 x4 fim fis f1 y0 y1 := by
  have hR0 := hR
  have hD0 := hD
  obtain ⟨hX, ⟨rfl, rfl, rfl, _⟩, hK⟩ := hR
  obtain ⟨⟨hS, hB, hq⟩, hU, hI⟩ := hD
  unfold f_e_drift_x9 at ex
  unfold f_m_drift at em
  have n19 : (19 : Int32).toNatClampNeg = 19 := rfl
  rw [n19] at em
  by_cases c2 : f_m_in n_.toInt64 1 99 = 0
  · rw [if_pos c2] at em
    rw [i_in, Int32.toInt_toInt64] at c2
    simp only [Int64.reduceToInt] at c2
    by_cases c3 : n_ < 1
    · rw [if_pos c3] at ex
      cases ex; cases em
      exact ⟨rfl, hR0, hD0⟩
    · rw [if_neg c3] at ex
      have c4 : ¬ n_ ≤ 99 := by
        simp only [i_lt, i_le, Int32.reduceToInt] at c3 ⊢
        omega
      rw [if_neg c4] at ex
      cases ex; cases em
      exact ⟨rfl, hR0, hD0⟩
  rw [if_neg c2] at em
  rw [i_in, Int32.toInt_toInt64] at c2
  simp only [Int64.reduceToInt] at c2
  have c3 : ¬ n_ < 1 := by
    simp only [i_lt, Int32.reduceToInt]
    omega
  have c4 : n_ ≤ 99 := by
    simp only [i_le, Int32.reduceToInt]
    omega
  rw [if_neg c3, if_pos c4, e_min hS] at ex
  by_cases c5 : G 5 = 0
  · rw [if_pos c5] at ex em
    cases ex; cases em
    exact ⟨rfl, hR0, hD0⟩
  rw [if_neg c5] at ex em
  have h5 : 0 < (G 5).toInt := by
    have := hG.2.2.2.1.1
    rw [i_eq, i_0] at c5
    omega
  by_cases c6 : w 19 ≤ 90000
  · rw [if_pos c6] at ex em
    cases hr : f_e_remember_x2 p1 p2 fsh fn with
    | mk s1 z =>
      obtain ⟨s2, gsh⟩ := z
      cases hm : f_m_minds G w with
      | mk H u =>
        rw [hr] at ex
        rw [hm] at em
        dsimp (config := { etaStruct := .none }) only at ex em
        obtain ⟨gH0, uW, _⟩ := p_minds hG hW H u hm
        obtain ⟨s1', s2', gsh', H', u', r1', r2', r3, r4, gH, sn, _⟩ := DY_go (q12' := q12) (fn' := fn) hD0 hG
        rw [hr] at r1'
        rw [hm] at r2'
        cases r1'; cases r2'
        obtain ⟨j, j', s', fn', w', y1, y2, y3, y4⟩ := drift_loop (n_ := n_) (u1 := q1) (u2 := q2) (u10 := q10) (u12 := q12) (v0 := G 3) (v1 := G 4) (v3 := t3) (v4 := t4) (fn0 := fn) (fsh0 := fsh) (v7 := p1) (v8 := p2) ((n_.toInt - (0 : Int32).toInt).toNat + 1) 0 q12 fn H u gH (by rw [r3 5 (by decide)]; exact h5) uW sn
        rw [r3 5 (by decide)] at y1
        rw [y1] at ex
        rw [y2] at em
        dsimp (config := { etaStruct := .none }) only at ex em
        rw [e_min y3.1] at ex
        obtain ⟨s1', s2', gsh', H', u', r1', r2', _, _, _, _, go⟩ := DY_go (q12' := s') (fn' := fn') hD0 hG
        rw [hr] at r1'
        rw [hm] at r2'
        cases r1'; cases r2'
        cases ex; cases em
        exact ⟨rfl, RS_of hR0 (fun k h _ => r3 k (by omega)), go _ y4 y3⟩
  · rw [if_neg c6] at ex em
    cases ex; cases em
    exact ⟨rfl, hR0, hD0⟩
end
