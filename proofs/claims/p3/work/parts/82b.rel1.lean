/-! the clauses, side by side -/
def AG (f g : Nat → Int32) (n lo hi : Int) : Prop := ∀ k : Nat, (k : Int) < n → f k = g k ∧ lo ≤ (g k).toInt ∧ (g k).toInt ≤ hi
def AF (f g : Nat → Int32) (n m : Int) : Prop := ∀ c t : Nat, (c : Int) < n → (t : Int) < m → f (5 * c + t) = g (5 * c + t) ∧ 0 ≤ (g (5 * c + t)).toInt ∧ (g (5 * c + t)).toInt ≤ 9
theorem put_in {n : Nat} {f : Nat → Int32} {i x : Int32} (h0 : 0 ≤ i.toInt) (h1 : i.toInt < n) : putF n f i x = upd f i.toNatClampNeg x := by
  unfold putF
  rw [if_neg]
  rw [i_lt, i_0, i_clamp]
  omega
theorem at_in {n : Nat} {f : Nat → Int32} {i : Int32} (h0 : 0 ≤ i.toInt) (h1 : i.toInt < n) : atF n f i = f i.toNatClampNeg := by
  unfold atF
  rw [if_neg]
  rw [i_lt, i_0, i_clamp]
  omega
theorem AG_snoc {f g : Nat → Int32} {i v : Int32} {lo hi : Int} {m : Nat} (h : AG f g i.toInt lo hi) (h0 : 0 ≤ i.toInt) (h1 : i.toInt < m) (hlo : lo ≤ v.toInt) (hhi : v.toInt ≤ hi) : AG (putF m f i v) (upd g i.toNatClampNeg v) (i.toInt + 1) lo hi := by
  intro k hk
  rw [put_in h0 h1]
  by_cases c : k = i.toNatClampNeg
  · subst c
    rw [pk_us, pk_us]
    exact ⟨rfl, hlo, hhi⟩
  · rw [pk_un c, pk_un c]
    refine h k ?_
    rw [i_clamp] at c
    omega
noncomputable def thenS (f : Nat → Int32) (r : Int32) (H : Nat → Int32) : Int32 × (Nat → Int32) := if r = 0 then (0, H) else (match f_m_takes H f 59 with | (r', H') => (if r' = 0 then (0, H') else (1, H')))
theorem thenS_0 {f H : Nat → Int32} : thenS f 0 H = (0, H) := if_pos rfl
theorem thenS_1 {f H H' : Nat → Int32} {r : Int32} (h : f_m_takes H f 59 = (r, H')) (hr : r = 1 ∨ r = 0) : thenS f 1 H = (r, H') := by
  unfold thenS
  rw [if_neg (by decide), h]
  dsimp only
  rcases hr with rfl | rfl
  · rw [if_neg (by decide)]
  · rw [if_pos rfl]
/-- but for at .. readBridges -/
def BQ (G H : Nat → Int32) : Prop := ∀ j, j < 15 ∨ 21 ≤ j → H j = G j
theorem br_loop {f : Nat → Int32} : ∀ (n m : Nat) (G arr brr : Nat → Int32), PS G → 1 ≤ (G 20).toInt → (G 20).toInt ≤ 6 → 7 - (G 20).toInt ≤ n → 6 - (G 20).toInt < m → AG brr arr (G 20).toInt 1 60 → ∃ (r rb a b z a1 b1 z1 u0 j : Int32) (Hb H h27 ga : Nat → Int32), (match (match f_m_here G f with | (r_11, u_10) => (if r_11 = 44 then f_m_takesBridges_2 f n 1 (upd u_10 15 ((u_10 15) + 1)) arr else f_m_takesBridges_2 f n 0 (upd u_10 15 ((u_10 15) + 0)) arr)) with | Sum.inl (_, w0, w1) => ((1 : Int32), w0, w1) | Sum.inr o => o) = (rb, Hb, h27) ∧ thenS f rb Hb = (r, H) ∧ (∀ q0 q1 q4 r5 r6 t0 t1 t2 t3 t4 fta, f_e_readBridges_x5_22 q0 q1 (G 14) q4 r5 r6 f t0 t1 t2 t3 t4 fta m (G 20) 0 (G 19) (G 15) (G 20) brr = (j, a1, b1, z1, u0, ga)) ∧ (∀ r5 r6, f_e_expect_x5 a1 b1 (G 14) z1 r5 r6 f 59 = (a, b, z)) ∧ BQ G H ∧ a = H 18 ∧ b = H 19 ∧ ((r = 1 ∧ a = 0 ∧ b = G 19 ∧ z = H 15 ∧ (G 15).toInt < z.toInt ∧ z.toInt ≤ (G 14).toInt ∧ u0 = H 20 ∧ 1 ≤ u0.toInt ∧ u0.toInt ≤ 6 ∧ AG ga h27 u0.toInt 1 60) ∨ (r = 0 ∧ a ≠ 0)) := by
  intro n
  induction n with
  | zero => intro m G arr brr hp h1 h2 h3; omega
  | succ n ih =>
    intro m G arr brr hp h1 h2 h3 h4 hA
    cases m with
    | zero => omega
    | succ m =>
      have hp0 := hp
      obtain ⟨p0, p1, p2, p3⟩ := hp
      obtain ⟨k, k0, k1, k2, km, ke⟩ := here_spec (f := f) p0 p1 p2
      rw [km]
      dsimp only
      have u15 : (upd (upd G 15 k) 16 k) 15 = k := by rw [pk_un (by decide), pk_us]
      rw [u15]
      by_cases c : ltr (G 14) f k = 44
      · rw [if_pos c]
        have hlt := ltr_lt c (by decide)
        have e1 := i_a1 (a := k) (by omega) (by omega)
        have g14 : (upd (upd (upd G 15 k) 16 k) 15 (k + 1)) 14 = G 14 := by rw [pk_un (by decide), pk_un (by decide), pk_un (by decide)]
        have g15 : (upd (upd (upd G 15 k) 16 k) 15 (k + 1)) 15 = k + 1 := by rw [pk_us]
        have g16 : (upd (upd (upd G 15 k) 16 k) 15 (k + 1)) 16 = k := by rw [pk_un (by decide), pk_us]
        have g18 : (upd (upd (upd G 15 k) 16 k) 15 (k + 1)) 18 = 0 := by rw [pk_un (by decide), pk_un (by decide), pk_un (by decide)]; exact p3
        have g19 : (upd (upd (upd G 15 k) 16 k) 15 (k + 1)) 19 = G 19 := by rw [pk_un (by decide), pk_un (by decide), pk_un (by decide)]
        have g20 : (upd (upd (upd G 15 k) 16 k) 15 (k + 1)) 20 = G 20 := by rw [pk_un (by decide), pk_un (by decide), pk_un (by decide)]
        have gq : PQ G (upd (upd (upd G 15 k) 16 k) 15 (k + 1)) := PQ_upd (PQ_upd (PQ_upd (PQ.refl G) (by decide) (by decide)) (by decide) (by decide)) (by decide) (by decide)
        generalize upd (upd (upd G 15 k) 16 k) 15 (k + 1) = G1 at g14 g15 g16 g18 g19 g20 gq ⊢
        rw [f_m_takesBridges_2_s, if_neg (by decide), g20]
        by_cases c6 : G 20 = 6
        · rw [if_pos c6, g16]
          unfold f_m_fails
          dsimp only
          refine ⟨0, 0, 1, k, k, 0, G 19, G 15, G 20, G 20, _, _, _, brr, rfl, thenS_0, fun q0 q1 q4 r5 r6 t0 t1 t2 t3 t4 fta => ?_, fun r5 r6 => ?_, ?_, ?_, ?_, Or.inr ⟨rfl, by decide⟩⟩
          · rw [f_e_readBridges_x5_22_s, if_pos (by rw [c6]; decide)]
          · unfold f_e_expect_x5
            rw [if_pos rfl, ke]
            dsimp only
            rw [if_neg (by rw [c]; decide)]
            rfl
          · exact fun j hj => (pk_un (by omega)).trans ((pk_un (by omega)).trans (gq j (by omega)))
          · rw [pk_un (by decide), pk_us]
          · rw [pk_us]
        · have d6 : (G 20).toInt < 6 := by
            rw [i_eq] at c6
            simp only [Int32.reduceToInt] at c6
            omega
          rw [if_neg c6]
          obtain ⟨r, v, a, b, p, H, n1, n2, n3, n4, n5, n6⟩ := number_eq (G := G1) (f := f) (lo := 1) (hi := 60) ⟨by rw [g15]; omega, by rw [g14, g15]; omega, by rw [g14]; exact p2, g18⟩
          rw [g14, g15, g19] at n2
          rw [n1]
          dsimp only
          have st : ∀ q0 q1 q4 r5 r6 t0 t1 t2 t3 t4 fta, f_e_readBridges_x5_22 q0 q1 (G 14) q4 r5 r6 f t0 t1 t2 t3 t4 fta (m + 1) (G 20) 0 (G 19) (G 15) (G 20) brr = f_e_readBridges_x5_22 q0 q1 (G 14) q4 r5 r6 f t0 t1 t2 t3 t4 fta m (G 20 + 1) a b p (G 20 + 1) (putF 6 brr (G 20) v) := by
            intro q0 q1 q4 r5 r6 t0 t1 t2 t3 t4 fta
            rw [f_e_readBridges_x5_22_s, if_neg (by rw [i_le]; simp only [Int32.reduceToInt]; omega), if_pos rfl, ke]
            dsimp only
            rw [if_pos c, n2]
          rcases n6 with ⟨rfl, rfl, rfl, rfl, rfl, l1, l2, l3, l4⟩ | ⟨rfl, ha⟩
          · rw [if_neg (by decide)]
            have h20 : H 20 = G 20 := (n3 20 (by decide)).trans g20
            have h14 : H 14 = G 14 := (n3 14 (by decide)).trans g14
            have e2 := i_a1 (a := G 20) (by omega) (by omega)
            have a14 : (upd H 20 (G 20 + 1)) 14 = G 14 := by rw [pk_un (by decide)]; exact h14
            have a15 : (upd H 20 (G 20 + 1)) 15 = H 15 := by rw [pk_un (by decide)]
            have a18 : (upd H 20 (G 20 + 1)) 18 = 0 := by rw [pk_un (by decide)]; exact n4.symm
            have a19 : (upd H 20 (G 20 + 1)) 19 = G 19 := by rw [pk_un (by decide), ← n5]; exact g19
            have a20 : (upd H 20 (G 20 + 1)) 20 = G 20 + 1 := by rw [pk_us]
            obtain ⟨r, rb, a, b, z, a1, b1, z1, u0, j, Hb, K, h27, ga, m1, m2, m3, m4, m5, m6, m7, m8⟩ := ih m (upd H 20 (G 20 + 1)) (upd arr (G 20).toNatClampNeg (H 17)) (putF 6 brr (G 20) (H 17)) ⟨by rw [a15]; rw [g15] at l3; omega, by rw [a15, a14]; rw [g14] at l4; exact l4, by rw [a14]; exact p2, a18⟩ (by rw [a20]; omega) (by rw [a20]; omega) (by rw [a20]; omega) (by rw [a20]; omega) (by rw [a20, e2]; exact AG_snoc hA (by omega) (by omega) l1 l2)
            rw [h20]
            refine ⟨r, rb, a, b, z, a1, b1, z1, u0, j, Hb, K, h27, ga, m1, m2, fun q0 q1 q4 r5 r6 t0 t1 t2 t3 t4 fta => ?_, ?_, ?_, m6, m7, ?_⟩
            · have := m3 q0 q1 q4 r5 r6 t0 t1 t2 t3 t4 fta
              rw [a14, a15, a19, a20] at this
              rw [st, g19]
              exact this
            · rw [a14] at m4
              exact m4
            · exact fun j hj => (m5 j hj).trans ((pk_un (by omega)).trans ((n3 j (by omega)).trans (gq j (by omega))))
            · rcases m8 with ⟨x1, x2, x3, x4, x5, x6, x7⟩ | q
              · rw [a19] at x3
                rw [a15] at x5
                rw [a14] at x6
                rw [g15] at l3
                exact Or.inl ⟨x1, x2, x3, x4, by omega, x6, x7⟩
              · exact Or.inr q
          · rw [if_pos rfl]
            refine ⟨0, 0, a, b, p, a, b, p, G 20 + 1, G 20 + 1, H, H, arr, putF 6 brr (G 20) v, rfl, thenS_0, fun q0 q1 q4 r5 r6 t0 t1 t2 t3 t4 fta => ?_, fun r5 r6 => expect_off ha, ?_, n4, n5, Or.inr ⟨rfl, ha⟩⟩
            · rw [st]
              cases m with
              | zero => omega
              | succ m =>
                rw [f_e_readBridges_x5_22_s]
                by_cases q : 6 ≤ G 20 + 1
                · rw [if_pos q]
                · rw [if_neg q, if_neg ha]
            · exact fun j hj => (n3 j (by omega)).trans (gq j (by omega))
      · rw [if_neg c, f_m_takesBridges_2_s, if_pos rfl]
        dsimp only
        rw [Int32.add_zero]
        have g14 : (upd (upd (upd G 15 k) 16 k) 15 k) 14 = G 14 := by rw [pk_un (by decide), pk_un (by decide), pk_un (by decide)]
        have g15 : (upd (upd (upd G 15 k) 16 k) 15 k) 15 = k := by rw [pk_us]
        have g18 : (upd (upd (upd G 15 k) 16 k) 15 k) 18 = 0 := by rw [pk_un (by decide), pk_un (by decide), pk_un (by decide)]; exact p3
        have g19 : (upd (upd (upd G 15 k) 16 k) 15 k) 19 = G 19 := by rw [pk_un (by decide), pk_un (by decide), pk_un (by decide)]
        have g20 : (upd (upd (upd G 15 k) 16 k) 15 k) 20 = G 20 := by rw [pk_un (by decide), pk_un (by decide), pk_un (by decide)]
        have gq : PQ G (upd (upd (upd G 15 k) 16 k) 15 k) := PQ_upd (PQ_upd (PQ_upd (PQ.refl G) (by decide) (by decide)) (by decide) (by decide)) (by decide) (by decide)
        generalize upd (upd (upd G 15 k) 16 k) 15 k = G1 at g14 g15 g18 g19 g20 gq ⊢
        have ex : ∃ z1 : Int32, (∀ q0 q1 q4 r5 r6 t0 t1 t2 t3 t4 fta, f_e_readBridges_x5_22 q0 q1 (G 14) q4 r5 r6 f t0 t1 t2 t3 t4 fta (m + 1) (G 20) 0 (G 19) (G 15) (G 20) brr = (G 20, 0, G 19, z1, G 20, brr)) ∧ (z1 = G1 15 ∨ ∃ k, (∀ r0 r1 r5 r6, f_e_next_x5 r0 r1 (G1 14) z1 r5 r6 f = (ltr (G1 14) f k, k)) ∧ G1 15 = k ∧ ltr (G1 14) f k ≠ 32) := by
          by_cases q : 6 ≤ G 20
          · refine ⟨G 15, fun q0 q1 q4 r5 r6 t0 t1 t2 t3 t4 fta => ?_, Or.inr ⟨k, ?_, g15, ?_⟩⟩
            · rw [f_e_readBridges_x5_22_s, if_pos q]
            · rw [g14]
              exact ke
            · rw [g14]
              exact k2
          · refine ⟨k, fun q0 q1 q4 r5 r6 t0 t1 t2 t3 t4 fta => ?_, Or.inl g15.symm⟩
            rw [f_e_readBridges_x5_22_s, if_neg q, if_pos rfl, ke]
            dsimp only
            rw [if_neg c]
        obtain ⟨z1, y1, y2⟩ := ex
        obtain ⟨r, a, b, z, H, x1, x2, x3, x4, x5, x6⟩ := expect_eq (G := G1) (f := f) (c := 59) (p := z1) ⟨by rw [g15]; omega, by rw [g14, g15]; exact k1, by rw [g14]; exact p2, g18⟩ (by decide) y2
        rw [g14, g19] at x2
        refine ⟨r, 1, a, b, z, 0, G 19, z1, G 20, G 20, G1, H, arr, brr, rfl, thenS_1 x1 ?_, y1, x2, ?_, x4, x5, ?_⟩
        · rcases x6 with q | q
          · exact Or.inl q.1
          · exact Or.inr q.1
        · exact fun j hj => (x3 j (by omega)).trans (gq j (by omega))
        · rcases x6 with ⟨w1, w2, w3, w4, w5, w6⟩ | q
          · rw [g19] at w3
            rw [g15] at w5
            rw [g14] at w6
            have h20 : H 20 = G 20 := (x3 20 (by decide)).trans g20
            exact Or.inl ⟨w1, w2, w3, w4, by omega, w6, h20.symm, h1, h2, hA⟩
          · exact Or.inr q
theorem bridges_eq {G f arr brr : Nat → Int32} (hp : PS G) (h20 : G 20 = 0) : ∃ (r rb a b z a1 b1 z1 u0 : Int32) (Hb H h27 ga : Nat → Int32), f_m_takesBridges G f arr = (rb, Hb, h27) ∧ thenS f rb Hb = (r, H) ∧ (∀ r5 r6 t0 t1 t2 t3 t4, f_e_readBridges_x5 0 (G 19) (G 14) (G 15) r5 r6 f t0 t1 t2 t3 t4 brr = (a1, b1, z1, u0, ga)) ∧ (∀ r5 r6, f_e_expect_x5 a1 b1 (G 14) z1 r5 r6 f 59 = (a, b, z)) ∧ BQ G H ∧ a = H 18 ∧ b = H 19 ∧ ((r = 1 ∧ a = 0 ∧ b = G 19 ∧ z = H 15 ∧ (G 15).toInt < z.toInt ∧ z.toInt ≤ (G 14).toInt ∧ u0 = H 20 ∧ 1 ≤ u0.toInt ∧ u0.toInt ≤ 6 ∧ AG ga h27 u0.toInt 1 60) ∨ (r = 0 ∧ a ≠ 0)) := by
  obtain ⟨r, v, a, b, p, H, n1, n2, n3, n4, n5, n6⟩ := number_eq (f := f) (lo := 1) (hi := 60) hp
  obtain ⟨p0, p1, p2, p3⟩ := hp
  have hb : f_m_takesBridges G f arr = (match (f_m_takesBridges_2 f 10 1 G arr) with | Sum.inl (_, w0, w1) => ((1 : Int32), w0, w1) | Sum.inr o => o) := rfl
  have st : ∀ r5 r6 t0 t1 t2 t3 t4, f_e_readBridges_x5 0 (G 19) (G 14) (G 15) r5 r6 f t0 t1 t2 t3 t4 brr = (match (f_e_readBridges_x5_22 0 (G 19) (G 14) (G 15) r5 r6 f t0 t1 t2 t3 t4 brr 6 1 a b p 1 (putF 6 brr 0 v)) with | (w_8l2, w_8m0, w_8m1, w_8m2, w_8m3, w_8m4) => (w_8m0, w_8m1, w_8m2, w_8m3, w_8m4)) := by
    intro r5 r6 t0 t1 t2 t3 t4
    unfold f_e_readBridges_x5
    rw [n2]
    rfl
  rw [hb, f_m_takesBridges_2_s, if_neg (by decide), if_neg (by rw [h20]; decide), n1]
  dsimp only
  rcases n6 with ⟨rfl, rfl, rfl, rfl, rfl, l1, l2, l3, l4⟩ | ⟨rfl, ha⟩
  · rw [if_neg (by decide)]
    have g20 : H 20 = 0 := (n3 20 (by decide)).trans h20
    have g14 : H 14 = G 14 := n3 14 (by decide)
    rw [g20]
    have e1 : (0 + 1 : Int32) = 1 := rfl
    rw [e1]
    have a14 : (upd H 20 1) 14 = G 14 := by rw [pk_un (by decide)]; exact g14
    have a15 : (upd H 20 1) 15 = H 15 := by rw [pk_un (by decide)]
    have a18 : (upd H 20 1) 18 = 0 := by rw [pk_un (by decide)]; exact n4.symm
    have a19 : (upd H 20 1) 19 = G 19 := by rw [pk_un (by decide), ← n5]
    have a20 : (upd H 20 1) 20 = 1 := by rw [pk_us]
    have hA : AG (putF 6 brr 0 (H 17)) (upd arr (0 : Int32).toNatClampNeg (H 17)) ((0 : Int32).toInt + 1) 1 60 := AG_snoc (fun k hk => absurd hk (by rw [i_0]; omega)) (by decide) (by decide) l1 l2
    obtain ⟨r, rb, a, b, z, a1, b1, z1, u0, j, Hb, K, h27, ga, m1, m2, m3, m4, m5, m6, m7, m8⟩ := br_loop (f := f) 9 6 (upd H 20 1) (upd arr (0 : Int32).toNatClampNeg (H 17)) (putF 6 brr 0 (H 17)) ⟨by rw [a15]; omega, by rw [a15, a14]; exact l4, by rw [a14]; exact p2, a18⟩ (by rw [a20]; decide) (by rw [a20]; decide) (by rw [a20]; decide) (by rw [a20]; decide) (by rw [a20]; exact hA)
    refine ⟨r, rb, a, b, z, a1, b1, z1, u0, Hb, K, h27, ga, m1, m2, fun r5 r6 t0 t1 t2 t3 t4 => ?_, ?_, ?_, m6, m7, ?_⟩
    · have := m3 0 (G 19) (G 15) r5 r6 t0 t1 t2 t3 t4 brr
      rw [a14, a15, a19, a20] at this
      rw [st, this]
    · rw [a14] at m4
      exact m4
    · exact fun j hj => (m5 j hj).trans ((pk_un (by omega)).trans (n3 j (by omega)))
    · rcases m8 with ⟨x1, x2, x3, x4, x5, x6, x7⟩ | q
      · rw [a19] at x3
        rw [a15] at x5
        rw [a14] at x6
        exact Or.inl ⟨x1, x2, x3, x4, by omega, x6, x7⟩
      · exact Or.inr q
  · rw [if_pos rfl]
    refine ⟨0, 0, a, b, p, a, b, p, 1, H, H, arr, putF 6 brr 0 v, rfl, thenS_0, fun r5 r6 t0 t1 t2 t3 t4 => ?_, fun r5 r6 => expect_off ha, ?_, n4, n5, Or.inr ⟨rfl, ha⟩⟩
    · rw [st, f_e_readBridges_x5_22_s, if_neg (by decide), if_neg ha]
    · exact fun j hj => n3 j (by omega)
