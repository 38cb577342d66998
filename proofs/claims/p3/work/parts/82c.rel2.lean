/-! couples, barges, themes, snow, side by side -/
theorem i_mul5 {c t : Int32} (h0 : 0 ≤ c.toInt) (h1 : c.toInt ≤ 5) (h2 : 0 ≤ t.toInt) (h3 : t.toInt ≤ 4) : (5 * c + t).toInt = 5 * c.toInt + t.toInt ∧ (c * 5 + t).toInt = 5 * c.toInt + t.toInt := by
  have e5 : (5 : Int32).toInt = 5 := rfl
  have e1 : (5 * c).toInt = 5 * c.toInt := by
    rw [i_mul (by rw [e5]; omega) (by rw [e5]; omega), e5]
  have e2 : (c * 5).toInt = 5 * c.toInt := by
    rw [Int32.mul_comm]
    exact e1
  constructor
  · rw [i_add (by omega) (by omega), e1]
  · rw [i_add (by omega) (by omega), e2]
theorem cp_off {r0 r1 r3 r4 r5 r6 t0 t1 t2 t3 t4 : Int32} {f fb fc : Nat → Int32} : ∀ (m : Nat) (t a b p m3 : Int32) (m4 m5 : Nat → Int32), a ≠ 0 → ∃ (j p' : Int32) (ga : Nat → Int32), f_e_readCouple_x5_22 r0 r1 r3 r4 r5 r6 f t0 t1 t2 t3 t4 fb fc m t a b p m3 m4 m5 = (j, a, b, p', m3, m4, ga) := by
  intro m
  induction m with
  | zero => intro t a b p m3 m4 m5 ha; exact ⟨t, p, m5, rfl⟩
  | succ m ih =>
    intro t a b p m3 m4 m5 ha
    rw [f_e_readCouple_x5_22_s]
    by_cases c : t1 ≤ t
    · exact ⟨t, p, m5, if_pos c⟩
    · rw [if_neg c]
      by_cases c2 : t ≤ 0
      · rw [if_pos c2, number_off ha]
        exact ih _ _ _ _ _ _ _ ha
      · rw [if_neg c2, expect_off ha]
        dsimp only
        rw [number_off ha]
        exact ih _ _ _ _ _ _ _ ha
/-- what a couple's clause has read of forces so far -/
def CF (f g : Nat → Int32) (c t : Int) : Prop := ∀ i : Nat, 5 * c ≤ i → (i : Int) < 5 * c + t → f i = g i ∧ 0 ≤ (g i).toInt ∧ (g i).toInt ≤ 9
theorem CF_snoc {f g : Nat → Int32} {x t v : Int32} {c : Int} (h : CF f g c t.toInt) (hx : x.toInt = 5 * c + t.toInt) (h0 : 0 ≤ x.toInt) (v0 : 0 ≤ v.toInt) (v1 : v.toInt ≤ 9) : CF (upd f x.toNatClampNeg v) (upd g x.toNatClampNeg v) c (t.toInt + 1) := by
  intro i h1 h2
  by_cases q : i = x.toNatClampNeg
  · subst q
    rw [pk_us, pk_us]
    exact ⟨rfl, v0, v1⟩
  · rw [pk_un q, pk_un q]
    refine h i h1 ?_
    rw [i_clamp] at q
    omega
theorem cp_loop {f : Nat → Int32} {c : Int32} (hc0 : 0 ≤ c.toInt) (hc5 : c.toInt ≤ 5) : ∀ (n m : Nat) (t : Int32) (G f28 arr brr : Nat → Int32), PS G → G 23 = c → 0 ≤ t.toInt → t.toInt ≤ (G 21).toInt → (G 21).toInt ≤ 5 → (G 21).toInt - t.toInt < n → (G 21).toInt - t.toInt < m → CF brr arr c.toInt t.toInt → ∃ (a b p j : Int32) (H ga har : Nat → Int32), (∀ r0 r1 r4 r5 r6 t0 t3 t4 fb fc m3 m4, ∃ p' ga', f_e_readCouple_x5_22 r0 r1 (G 14) r4 r5 r6 f t0 (G 21) c t3 t4 fb fc m t 0 (G 19) (G 15) m3 m4 brr = (p', a, b, ga'.1, m3, m4, ga'.2) ∧ (a = 0 → ga' = (p, ga))) ∧ PQ G H ∧ a = H 18 ∧ b = H 19 ∧ ((f_m_takesCouple_27 f n t G f28 arr = Sum.inl (j, H, f28, har) ∧ a = 0 ∧ b = G 19 ∧ p = H 15 ∧ (G 15).toInt ≤ p.toInt ∧ p.toInt ≤ (G 14).toInt ∧ CF ga har c.toInt (G 21).toInt ∧ (∀ i : Nat, (i : Int) < 5 * c.toInt → ga i = brr i ∧ har i = arr i)) ∨ (f_m_takesCouple_27 f n t G f28 arr = Sum.inr (0, H, f28, har) ∧ a ≠ 0)) := by
  intro n
  induction n with
  | zero => intro m t G f28 arr brr hp hc h0 h1 h2 h3; omega
  | succ n ih =>
    intro m t G f28 arr brr hp hc h0 h1 h2 h3 h4 hA
    cases m with
    | zero => omega
    | succ m =>
      have hp0 := hp
      obtain ⟨p0, p1, p2, p3⟩ := hp
      by_cases c1 : G 21 ≤ t
      · refine ⟨0, G 19, G 15, t, G, brr, arr, fun r0 r1 r4 r5 r6 t0 t3 t4 fb fc m3 m4 => ⟨t, (G 15, brr), ?_, fun _ => rfl⟩, PQ.refl G, p3.symm, rfl, Or.inl ⟨?_, rfl, rfl, rfl, by omega, p1, ?_, fun i hi => ⟨rfl, rfl⟩⟩⟩
        · rw [f_e_readCouple_x5_22_s, if_pos c1]
        · rw [f_m_takesCouple_27_s, if_pos c1]
        · rw [i_le] at c1
          have : t.toInt = (G 21).toInt := by omega
          rw [← this]
          exact hA
      · have d1 : t.toInt < (G 21).toInt := by
          rw [i_le] at c1
          omega
        have et := i_a1 (a := t) (by omega) (by omega)
        obtain ⟨x1, x2⟩ := i_mul5 (c := c) (t := t) hc0 hc5 h0 (by omega)
        have ex : (5 * c + t).toNatClampNeg = (c * 5 + t).toNatClampNeg := by rw [i_clamp, i_clamp, x1, x2]
        -- what follows a number that was read from state G1 (place p0')
        have key : ∀ (G1 : Nat → Int32), PS G1 → PQ G G1 → G1 19 = G 19 → (G 15).toInt ≤ (G1 15).toInt → ∃ (r v a0 b0 p0 : Int32) (u : Nat → Int32) (a b p j : Int32) (H ga har : Nat → Int32), f_m_takesNumber G1 f 0 9 = (r, u) ∧ (∀ r5 r6, f_e_number_x5 0 (G 19) (G 14) (G1 15) r5 r6 f 0 9 = (v, a0, b0, p0)) ∧ (∀ r0 r1 r4 r5 r6 t0 t3 t4 fb fc m3 m4, ∃ p' ga', f_e_readCouple_x5_22 r0 r1 (G 14) r4 r5 r6 f t0 (G 21) c t3 t4 fb fc m (t + 1) a0 b0 p0 m3 m4 (putF 30 brr ((c * 5) + t) v) = (p', a, b, ga'.1, m3, m4, ga'.2) ∧ (a = 0 → ga' = (p, ga))) ∧ PQ G H ∧ a = H 18 ∧ b = H 19 ∧ (((if r = 0 then (Sum.inr (0, u, f28, arr)) else (f_m_takesCouple_27 f n (t + 1) u f28 (upd arr (((5 * (u 23)) + t) : Int32).toNatClampNeg (u 17)))) = Sum.inl (j, H, f28, har) ∧ a = 0 ∧ b = G 19 ∧ p = H 15 ∧ (G 15).toInt ≤ p.toInt ∧ p.toInt ≤ (G 14).toInt ∧ CF ga har c.toInt (G 21).toInt ∧ (∀ i : Nat, (i : Int) < 5 * c.toInt → ga i = brr i ∧ har i = arr i)) ∨ ((if r = 0 then (Sum.inr (0, u, f28, arr)) else (f_m_takesCouple_27 f n (t + 1) u f28 (upd arr (((5 * (u 23)) + t) : Int32).toNatClampNeg (u 17)))) = Sum.inr (0, H, f28, har) ∧ a ≠ 0)) := by
          intro G1 hp1 hq1 h19 h15
          obtain ⟨r, v, a, b, p, H, n1, n2, n3, n4, n5, n6⟩ := number_eq (f := f) (lo := 0) (hi := 9) hp1
          have g14 : G1 14 = G 14 := hq1 14 (by decide)
          rw [g14, h19] at n2
          rcases n6 with ⟨rfl, rfl, rfl, rfl, rfl, l1, l2, l3, l4⟩ | ⟨rfl, ha⟩
          · have g23 : H 23 = c := (n3 23 (by decide)).trans ((hq1 23 (by decide)).trans hc)
            have g21 : H 21 = G 21 := (n3 21 (by decide)).trans (hq1 21 (by decide))
            have k14 : H 14 = G 14 := (n3 14 (by decide)).trans g14
            have k19 : H 19 = G 19 := by rw [← n5]; exact h19
            have hput : putF 30 brr ((c * 5) + t) (H 17) = upd brr (5 * c + t).toNatClampNeg (H 17) := by
              rw [put_in (by omega) (by omega), ex]
            obtain ⟨a, b, p, j, K, ga, har, m1, m2, m3, m4, m5⟩ := ih m (t + 1) H f28 (upd arr (5 * c + t).toNatClampNeg (H 17)) (upd brr (5 * c + t).toNatClampNeg (H 17)) ⟨by rw [g14] at l4; omega, by rw [k14]; rw [g14] at l4; exact l4, by rw [k14]; exact p2, n4.symm⟩ g23 (by omega) (by rw [g21]; omega) (by rw [g21]; omega) (by rw [g21]; omega) (by rw [g21]; omega) (by rw [et]; exact CF_snoc hA x1 (by omega) l1 l2)
            refine ⟨1, H 17, 0, G1 19, H 15, H, a, b, p, j, K, ga, har, n1, n2, fun r0 r1 r4 r5 r6 t0 t3 t4 fb fc m3' m4' => ?_, hq1.trans (n3.trans m2), m3, m4, ?_⟩
            · obtain ⟨p', ga', y1, y2⟩ := m1 r0 r1 r4 r5 r6 t0 t3 t4 fb fc m3' m4'
              rw [k14, g21, k19] at y1
              refine ⟨p', ga', ?_, y2⟩
              rw [hput, h19, y1]
            · rw [if_neg (by decide), g23]
              rcases m5 with ⟨y1, y2, y3, y4, y5, y6, y7, y8⟩ | q
              · rw [k19] at y3
                rw [k14] at y6
                rw [g21] at y7
                refine Or.inl ⟨y1, y2, y3, y4, by omega, y6, y7, fun i hi => ?_⟩
                obtain ⟨z1, z2⟩ := y8 i hi
                rw [pk_un (by rw [i_clamp]; omega)] at z1 z2
                exact ⟨z1, z2⟩
              · exact Or.inr q
          · refine ⟨0, v, a, b, p, H, a, b, p, 0, H, brr, arr, n1, n2, fun r0 r1 r4 r5 r6 t0 t3 t4 fb fc m3' m4' => ?_, hq1.trans n3, n4, n5, Or.inr ⟨if_pos rfl, ha⟩⟩
            obtain ⟨j, p', ga', y⟩ := cp_off (r0 := r0) (r1 := r1) (r3 := G 14) (r4 := r4) (r5 := r5) (r6 := r6) (t0 := t0) (t1 := G 21) (t2 := c) (t3 := t3) (t4 := t4) (f := f) (fb := fb) (fc := fc) m (t + 1) a b p m3' m4' (putF 30 brr ((c * 5) + t) v) ha
            exact ⟨j, (p', ga'), y, fun q => absurd q ha⟩
        by_cases c2 : t ≤ 0
        · obtain ⟨r, v, a0, b0, p0, u, a, b, p, j, H, ga, har, k1, k2, m1, m2, m3, m4, m5⟩ := key G hp0 (PQ.refl G) rfl (by omega)
          refine ⟨a, b, p, j, H, ga, har, fun r0 r1 r4 r5 r6 t0 t3 t4 fb fc m3' m4' => ?_, m2, m3, m4, ?_⟩
          · rw [f_e_readCouple_x5_22_s, if_neg c1, if_pos c2, k2]
            exact m1 r0 r1 r4 r5 r6 t0 t3 t4 fb fc m3' m4'
          · rw [f_m_takesCouple_27_s, if_neg c1, if_pos c2, k1]
            exact m5
        · obtain ⟨r, a, b, z, H, x1, x2, x3, x4, x5, x6⟩ := expect_eq (G := G) (f := f) (c := 44) (p := G 15) hp0 (by decide) (Or.inl rfl)
          rw [f_m_takesCouple_27_s, if_neg c1, if_neg c2, x1]
          dsimp only
          rcases x6 with ⟨rfl, rfl, rfl, rfl, w5, w6⟩ | ⟨rfl, ha⟩
          · rw [if_neg (by decide)]
            have k14 : H 14 = G 14 := x3 14 (by decide)
            obtain ⟨r, v, a0, b0, p0, u, a, b, p, j, K, ga, har, k1, k2, m1, m2, m3, m4, m5⟩ := key H ⟨by omega, by rw [k14]; exact w6, by rw [k14]; exact p2, x4.symm⟩ x3 x5.symm (by omega)
            rw [k1]
            dsimp only
            refine ⟨a, b, p, j, K, ga, har, fun r0 r1 r4 r5 r6 t0 t3 t4 fb fc m3' m4' => ?_, m2, m3, m4, m5⟩
            rw [f_e_readCouple_x5_22_s, if_neg c1, if_neg c2, x2]
            dsimp only
            rw [k2]
            exact m1 r0 r1 r4 r5 r6 t0 t3 t4 fb fc m3' m4'
          · rw [if_pos rfl]
            refine ⟨a, b, z, 0, H, brr, arr, fun r0 r1 r4 r5 r6 t0 t3 t4 fb fc m3' m4' => ?_, x3, x4, x5, Or.inr ⟨rfl, ha⟩⟩
            rw [f_e_readCouple_x5_22_s, if_neg c1, if_neg c2, x2]
            dsimp only
            rw [number_off ha]
            dsimp only
            obtain ⟨j, p', ga', y⟩ := cp_off (r0 := r0) (r1 := r1) (r3 := G 14) (r4 := r4) (r5 := r5) (r6 := r6) (t0 := t0) (t1 := G 21) (t2 := c) (t3 := t3) (t4 := t4) (f := f) (fb := fb) (fc := fc) m (t + 1) a b z m3' m4' (putF 30 brr ((c * 5) + t) 0) ha
            exact ⟨j, (p', ga'), y, fun q => absurd q ha⟩
/-- the sign behind a clause -/
theorem finish_eq {f H : Nat → Int32} {L a1 b1 z1 r : Int32} (hL : H 14 = L) (ha : a1 = H 18) (hb : b1 = H 19) (h : (r = 1 ∧ a1 = 0 ∧ z1 = H 15 ∧ 0 ≤ z1.toInt ∧ z1.toInt ≤ L.toInt ∧ L.toInt ≤ 240) ∨ (r = 0 ∧ a1 ≠ 0)) : ∃ (r' a b z : Int32) (K : Nat → Int32), thenS f r H = (r', K) ∧ (∀ r5 r6, f_e_expect_x5 a1 b1 L z1 r5 r6 f 59 = (a, b, z)) ∧ PQ H K ∧ a = K 18 ∧ b = K 19 ∧ ((r' = 1 ∧ a = 0 ∧ a1 = 0 ∧ b = b1 ∧ r = 1 ∧ z = K 15 ∧ (H 15).toInt < z.toInt ∧ z.toInt ≤ L.toInt) ∨ (r' = 0 ∧ a ≠ 0)) := by
  rcases h with ⟨rfl, h1, h2, h3, h4, h5⟩ | ⟨rfl, h1⟩
  · obtain ⟨r, a, b, z, K, x1, x2, x3, x4, x5, x6⟩ := expect_eq (G := H) (f := f) (c := 59) (p := z1) ⟨by rw [← h2]; exact h3, by rw [← h2, hL]; exact h4, by rw [hL]; exact h5, by rw [← ha]; exact h1⟩ (by decide) (Or.inl h2)
    rw [hL, ← hb] at x2
    refine ⟨r, a, b, z, K, thenS_1 x1 ?_, fun r5 r6 => by rw [h1]; exact x2 r5 r6, x3, x4, x5, ?_⟩
    · rcases x6 with q | q
      · exact Or.inl q.1
      · exact Or.inr q.1
    · rcases x6 with ⟨w1, w2, w3, w4, w5, w6⟩ | q
      · rw [hL] at w6
        exact Or.inl ⟨w1, w2, h1, w3.trans hb.symm, rfl, w4, w5, w6⟩
      · exact Or.inr q
  · exact ⟨0, a1, b1, z1, H, thenS_0, fun r5 r6 => expect_off h1, PQ.refl H, ha, hb, Or.inr ⟨rfl, h1⟩⟩
