/-! one clause, side by side -/
theorem thenS_x {α : Type} {X : α} {f H K : Nat → Int32} {r r' : Int32} (h : thenS f r H = (r', K)) : (if r = 0 then ((0 : Int32), H, X) else (match f_m_takes H f 59 with | (r_17, u_16) => (if r_17 = 0 then ((0 : Int32), u_16, X) else ((1 : Int32), u_16, X)))) = (r', K, X) := by
  unfold thenS at h
  by_cases c : r = 0
  · rw [if_pos c] at h ⊢
    cases h
    rfl
  · rw [if_neg c] at h ⊢
    cases q : f_m_takes H f 59 with
    | mk x y =>
      rw [q] at h
      dsimp only at h ⊢
      by_cases d : x = 0
      · rw [if_pos d] at h ⊢
        cases h
        rfl
      · rw [if_neg d] at h ⊢
        cases h
        rfl
theorem couple_eq {G f f28 f29 ftb ftc : Nat → Int32} (r5 r6 t0 t3 t4 : Int32) (hp : PS G) (hc0 : 0 ≤ (G 23).toInt) (hc5 : (G 23).toInt ≤ 5) (ht0 : 0 ≤ (G 21).toInt) (ht5 : (G 21).toInt ≤ 5) (hb : AG ftb f28 (G 23).toInt 0 99) (hf : AF ftc f29 (G 23).toInt (G 21).toInt) : ∃ (r a1 b1 z1 u2 : Int32) (H h28 h29 gb gc : Nat → Int32), f_m_takesCouple G f f28 f29 = (r, H, h28, h29) ∧ f_e_readCouple_x5 0 (G 19) (G 14) (G 15) r5 r6 f t0 (G 21) (G 23) t3 t4 ftb ftc = (a1, b1, z1, u2, gb, gc) ∧ (∀ j, j < 15 ∨ 20 ≤ j → j ≠ 23 → H j = G j) ∧ a1 = H 18 ∧ b1 = H 19 ∧ ((r = 1 ∧ a1 = 0 ∧ b1 = G 19 ∧ z1 = H 15 ∧ (G 15).toInt < z1.toInt ∧ z1.toInt ≤ (G 14).toInt ∧ u2 = H 23 ∧ (H 23).toInt = (G 23).toInt + 1 ∧ AG gb h28 ((G 23).toInt + 1) 0 99 ∧ AF gc h29 ((G 23).toInt + 1) (G 21).toInt) ∨ (r = 0 ∧ a1 ≠ 0)) := by
  obtain ⟨r, v, a, b, p, H, n1, n2, n3, n4, n5, n6⟩ := number_eq (f := f) (lo := 0) (hi := 99) hp
  obtain ⟨p0, p1, p2, p3⟩ := hp
  have st : f_e_readCouple_x5 0 (G 19) (G 14) (G 15) r5 r6 f t0 (G 21) (G 23) t3 t4 ftb ftc = (match (f_e_readCouple_x5_22 0 (G 19) (G 14) (G 15) r5 r6 f t0 (G 21) (G 23) t3 t4 ftb ftc (((G 21).toInt - (0 : Int32).toInt).toNat + 1) 0 a b p (G 23) (putF 6 ftb (G 23) v) ftc) with | (w_8l3, w_8m0, w_8m1, w_8m2, w_8m3, w_8m4, w_8m5) => (w_8m0, w_8m1, w_8m2, ((G 23) + 1), w_8m4, w_8m5)) := by
    unfold f_e_readCouple_x5
    rw [n2]
  rw [st]
  unfold f_m_takesCouple
  rw [n1]
  dsimp (config := { etaStruct := .none }) only
  rcases n6 with ⟨rfl, rfl, rfl, rfl, rfl, l1, l2, l3, l4⟩ | ⟨rfl, ha⟩
  · rw [if_neg (by decide)]
    have g23 : H 23 = G 23 := n3 23 (by decide)
    have g21 : H 21 = G 21 := n3 21 (by decide)
    have g14 : H 14 = G 14 := n3 14 (by decide)
    have e23 := i_a1 (a := G 23) (by omega) (by omega)
    rw [g23]
    obtain ⟨a, b, p, j, K, ga, har, m1, m2, m3, m4, m5⟩ := cp_loop (f := f) hc0 hc5 10 (((G 21).toInt - (0 : Int32).toInt).toNat + 1) 0 H (upd f28 (G 23).toNatClampNeg (H 17)) f29 ftc ⟨by omega, by rw [g14]; exact l4, by rw [g14]; exact p2, n4.symm⟩ g23 (by decide) (by rw [g21]; exact ht0) (by rw [g21]; exact ht5) (by rw [g21, i_0]; omega) (by rw [g21, i_0]; omega) (fun i x y => by rw [i_0] at y; omega)
    obtain ⟨p', ga', y1, y2⟩ := m1 0 (G 19) (G 15) r5 r6 t0 t3 t4 ftb ftc (G 23) (putF 6 ftb (G 23) (H 17))
    rw [g14, g21, ← n5] at y1
    rw [y1]
    dsimp (config := { etaStruct := .none }) only
    have kq : ∀ j, j < 15 ∨ 20 ≤ j → j ≠ 23 → K j = G j := fun j hj _ => (m2 j hj).trans (n3 j hj)
    rcases m5 with ⟨x1, x2, x3, x4, x5, x6, x7, x8⟩ | ⟨x1, x2⟩
    · have hga := y2 x2
      rw [x1]
      dsimp (config := { etaStruct := .none }) only
      have k23 : K 23 = G 23 := (m2 23 (by decide)).trans g23
      rw [k23]
      refine ⟨1, a, b, ga'.1, G 23 + 1, upd K 23 (G 23 + 1), _, har, putF 6 ftb (G 23) (H 17), ga'.2, rfl, rfl, fun j hj hn => (pk_un hn).trans (kq j hj hn), ?_, ?_, Or.inl ⟨rfl, x2, ?_, ?_, ?_, ?_, ?_, ?_, ?_, ?_⟩⟩
      · rw [pk_un (by decide)]
        exact m3
      · rw [pk_un (by decide)]
        exact m4
      · rw [x3, ← n5]
      · rw [hga, pk_un (by decide)]
        exact x4
      · rw [hga]
        dsimp (config := { etaStruct := .none }) only
        omega
      · rw [hga]
        dsimp (config := { etaStruct := .none }) only
        rw [g14] at x6
        exact x6
      · rw [pk_us]
      · rw [pk_us, e23]
      · exact AG_snoc hb hc0 (by omega) l1 l2
      · rw [hga]
        dsimp (config := { etaStruct := .none }) only
        intro c t h1 h2
        rw [g21] at x7
        by_cases q : (c : Int) < (G 23).toInt
        · obtain ⟨z1, z2⟩ := x8 (5 * c + t) (by omega)
          rw [z1, z2]
          exact hf c t q h2
        · exact x7 (5 * c + t) (by omega) (by omega)
    · rw [x1]
      dsimp (config := { etaStruct := .none }) only
      exact ⟨0, a, b, ga'.1, G 23 + 1, K, _, har, putF 6 ftb (G 23) (H 17), ga'.2, rfl, rfl, kq, m3, m4, Or.inr ⟨rfl, x2⟩⟩
  · rw [if_pos rfl]
    obtain ⟨j, p', ga', y⟩ := cp_off (r0 := 0) (r1 := G 19) (r3 := G 14) (r4 := G 15) (r5 := r5) (r6 := r6) (t0 := t0) (t1 := G 21) (t2 := G 23) (t3 := t3) (t4 := t4) (f := f) (fb := ftb) (fc := ftc) (((G 21).toInt - (0 : Int32).toInt).toNat + 1) 0 a b p (G 23) (putF 6 ftb (G 23) v) ftc ha
    rw [y]
    dsimp (config := { etaStruct := .none }) only
    exact ⟨0, a, b, p', G 23 + 1, H, f28, f29, _, ga', rfl, rfl, fun j hj _ => n3 j hj, n4, n5, Or.inr ⟨rfl, ha⟩⟩
theorem barge_eq {G f f30 f31 ftd fte : Nat → Int32} (r5 r6 t1 t2 t4 : Int32) (hp : PS G) (hc0 : 0 ≤ (G 24).toInt) (hc5 : (G 24).toInt ≤ 6) (h20 : 1 ≤ (G 20).toInt) (h26 : (G 20).toInt ≤ 6) (hb : AG ftd f30 (G 24).toInt 0 ((G 20).toInt - 1)) (hf : AG fte f31 (G 24).toInt 1 300) : ∃ (r a1 b1 z1 u3 : Int32) (H h30 h31 gd ge : Nat → Int32), f_m_takesBarge G f f30 f31 = (r, H, h30, h31) ∧ f_e_readBarge_x5 0 (G 19) (G 14) (G 15) r5 r6 f (G 20) t1 t2 (G 24) t4 ftd fte = (a1, b1, z1, u3, gd, ge) ∧ (∀ j, j < 15 ∨ 20 ≤ j → j ≠ 24 → H j = G j) ∧ a1 = H 18 ∧ b1 = H 19 ∧ ((r = 1 ∧ a1 = 0 ∧ b1 = G 19 ∧ z1 = H 15 ∧ (G 15).toInt < z1.toInt ∧ z1.toInt ≤ (G 14).toInt ∧ u3 = H 24 ∧ (H 24).toInt = (G 24).toInt + 1 ∧ AG gd h30 ((G 24).toInt + 1) 0 ((G 20).toInt - 1) ∧ AG ge h31 ((G 24).toInt + 1) 1 300) ∨ (r = 0 ∧ a1 ≠ 0)) := by
  obtain ⟨r, v, a, b, p, H, n1, n2, n3, n4, n5, n6⟩ := number_eq (f := f) (lo := 0) (hi := G 20 - 1) hp
  obtain ⟨p0, p1, p2, p3⟩ := hp
  have es := i_sub (a := G 20) (b := 1) (by rw [i_1]; omega) (by rw [i_1]; omega)
  rw [i_1] at es
  unfold f_e_readBarge_x5 f_m_takesBarge
  rw [n1, n2]
  dsimp (config := { etaStruct := .none }) only
  rcases n6 with ⟨rfl, rfl, rfl, rfl, rfl, l1, l2, l3, l4⟩ | ⟨rfl, ha⟩
  · rw [if_neg (by decide)]
    have g24 : H 24 = G 24 := n3 24 (by decide)
    have g14 : H 14 = G 14 := n3 14 (by decide)
    have e24 := i_a1 (a := G 24) (by omega) (by omega)
    obtain ⟨r, v, a, b, p, K, m1, m2, m3, m4, m5, m6⟩ := number_eq (G := H) (f := f) (lo := 1) (hi := 300) ⟨by omega, by rw [g14]; exact l4, by rw [g14]; exact p2, n4.symm⟩
    rw [g14, ← n5] at m2
    rw [m1, m2]
    dsimp (config := { etaStruct := .none }) only
    have k24 : K 24 = G 24 := (m3 24 (by decide)).trans g24
    have kq : ∀ j, j < 15 ∨ 20 ≤ j → j ≠ 24 → K j = G j := fun j hj _ => (m3 j hj).trans (n3 j hj)
    rcases m6 with ⟨rfl, rfl, rfl, rfl, rfl, y1, y2, y3, y4⟩ | ⟨rfl, ha⟩
    · rw [if_neg (by decide), k24, g24]
      refine ⟨1, 0, H 19, K 15, G 24 + 1, upd K 24 (G 24 + 1), _, _, _, _, rfl, rfl, fun j hj hn => (pk_un hn).trans (kq j hj hn), ?_, ?_, Or.inl ⟨rfl, rfl, n5.symm, ?_, by omega, by rw [g14] at y4; exact y4, ?_, ?_, ?_, ?_⟩⟩
      · rw [pk_un (by decide)]
        exact m4
      · rw [pk_un (by decide)]
        exact m5
      · rw [pk_un (by decide)]
      · rw [pk_us]
      · rw [pk_us, e24]
      · exact AG_snoc hb hc0 (by omega) l1 (by rw [es] at l2; exact l2)
      · exact AG_snoc hf hc0 (by omega) y1 y2
    · rw [if_pos rfl]
      exact ⟨0, a, b, p, G 24 + 1, K, _, _, _, _, rfl, rfl, kq, m4, m5, Or.inr ⟨rfl, ha⟩⟩
  · rw [if_pos rfl, number_off ha]
    dsimp (config := { etaStruct := .none }) only
    exact ⟨0, a, b, p, G 24 + 1, H, _, _, _, _, rfl, rfl, fun j hj _ => n3 j hj, n4, n5, Or.inr ⟨rfl, ha⟩⟩
/-- what has been read, alike -/
def PB (G fta ftb ftc ftd fte f27 f28 f29 f30 f31 : Nat → Int32) : Prop := (0 ≤ (G 20).toInt ∧ (G 20).toInt ≤ 6) ∧ (1 ≤ (G 21).toInt ∧ (G 21).toInt ≤ 5) ∧ (0 ≤ (G 23).toInt ∧ (G 23).toInt ≤ 6) ∧ (0 ≤ (G 24).toInt ∧ (G 24).toInt ≤ 7) ∧ (0 ≤ (G 25).toInt ∧ (G 25).toInt ≤ 1) ∧ ((G 20).toInt = 0 → (G 23).toInt = 0 ∧ (G 24).toInt = 0) ∧ AG fta f27 (G 20).toInt 1 60 ∧ AG ftb f28 (G 23).toInt 0 99 ∧ AF ftc f29 (G 23).toInt (G 21).toInt ∧ AG ftd f30 (G 24).toInt 0 ((G 20).toInt - 1) ∧ AG fte f31 (G 24).toInt 1 300
def CQ (G H : Nat → Int32) : Prop := ∀ j, j < 15 ∨ 27 ≤ j → H j = G j
def CLQ (G f fta ftb ftc ftd fte f27 f28 f29 f30 f31 : Nat → Int32) : Prop := ∃ (r a b z s5 s6 u0 u1 u2 u3 u4 : Int32) (H h27 h28 h29 h30 h31 ga gb gc gd ge : Nat → Int32), f_m_takesClause G f f27 f28 f29 f30 f31 = (r, H, h27, h28, h29, h30, h31) ∧ f_e_readClause_x5 0 (G 19) (G 14) (G 15) (G 22) (G 26) f (G 20) (G 21) (G 23) (G 24) (G 25) fta ftb ftc ftd fte = (a, b, z, s5, s6, u0, u1, u2, u3, u4, ga, gb, gc, gd, ge) ∧ CQ G H ∧ a = H 18 ∧ b = H 19 ∧ ((r = 1 ∧ a = 0 ∧ b = G 19 ∧ z = H 15 ∧ (G 15).toInt < z.toInt ∧ z.toInt ≤ (G 14).toInt ∧ s5 = H 22 ∧ s6 = H 26 ∧ u0 = H 20 ∧ u1 = H 21 ∧ u2 = H 23 ∧ u3 = H 24 ∧ u4 = H 25 ∧ PB H ga gb gc gd ge h27 h28 h29 h30 h31) ∨ (r = 0 ∧ a ≠ 0))
set_option maxHeartbeats 20000000 in
theorem clause_eq {G f fta ftb ftc ftd fte f27 f28 f29 f30 f31 : Nat → Int32} (hp : PS G) (hB : PB G fta ftb ftc ftd fte f27 f28 f29 f30 f31) : CLQ G f fta ftb ftc ftd fte f27 f28 f29 f30 f31 := by
  obtain ⟨p0, p1, p2, p3⟩ := hp
  obtain ⟨k, k0, k1, k2, km, ke⟩ := here_spec (f := f) p0 p1 p2
  have u15 : (upd (upd G 15 k) 16 k) 15 = k := by rw [pk_un (by decide), pk_us]
  have u16 : (upd (upd G 15 k) 16 k) 16 = k := by rw [pk_us]
  have uq : PQ G (upd (upd G 15 k) 16 k) := PQ_upd (PQ_upd (PQ.refl G) (by decide) (by decide)) (by decide) (by decide)
  have u18 : (upd (upd G 15 k) 16 k) 18 = 0 := by rw [pk_un (by decide), pk_un (by decide)]; exact p3
  have u19 : (upd (upd G 15 k) 16 k) 19 = G 19 := by rw [pk_un (by decide), pk_un (by decide)]
  generalize upd (upd G 15 k) 16 k = U at km u15 u16 uq u18 u19
  have u14 := uq 14 (by decide)
  have u20 := uq 20 (by decide)
  have u21 := uq 21 (by decide)
  have u22 := uq 22 (by decide)
  have u23 := uq 23 (by decide)
  have u24 := uq 24 (by decide)
  have u25 := uq 25 (by decide)
  have u26 := uq 26 (by decide)
  have bad : ∀ w : Int32, w ≠ 0 → f_m_takesClause G f f27 f28 f29 f30 f31 = (0, upd (upd U 18 w) 19 k, f27, f28, f29, f30, f31) → f_e_readClause_x5 0 (G 19) (G 14) (G 15) (G 22) (G 26) f (G 20) (G 21) (G 23) (G 24) (G 25) fta ftb ftc ftd fte = (w, k, k, G 22, G 26, G 20, G 21, G 23, G 24, G 25, fta, ftb, ftc, ftd, fte) → CLQ G f fta ftb ftc ftd fte f27 f28 f29 f30 f31 := by
    intro w hw e1 e2
    refine ⟨0, w, k, k, _, _, _, _, _, _, _, _, _, _, _, _, _, _, _, _, _, _, e1, e2, ?_, ?_, ?_, Or.inr ⟨rfl, hw⟩⟩
    · exact fun j hj => (pk_un (by omega)).trans ((pk_un (by omega)).trans (uq j (by omega)))
    · rw [pk_un (by decide), pk_us]
    · rw [pk_us]
  obtain ⟨⟨b1, b2⟩, ⟨b3, b4⟩, ⟨b5, b6⟩, ⟨b7, b8⟩, ⟨b9, b10⟩, b11, b12, b13, b14, b15, b16⟩ := hB
  have l0 : G 20 ≤ 0 ↔ G 20 = 0 := by
    rw [i_le, i_eq, i_0]
    omega
  -- the reader behind the word
  have word : ∀ c : Int32, c ≠ -1 → ltr (G 14) f k = c → PS (upd U 15 (k + 1)) ∧ (upd U 15 (k + 1)) 15 = k + 1 ∧ (k + 1).toInt = k.toInt + 1 ∧ PQ G (upd U 15 (k + 1)) ∧ (upd U 15 (k + 1)) 19 = G 19 := by
    intro c hc e
    have hlt := ltr_lt e hc
    have e1 := i_a1 (a := k) (by omega) (by omega)
    refine ⟨⟨by rw [pk_us]; omega, by rw [pk_us, pk_un (by decide), u14]; omega, by rw [pk_un (by decide), u14]; exact p2, by rw [pk_un (by decide)]; exact u18⟩, pk_us, e1, PQ_upd uq (by decide) (by decide), ?_⟩
    rw [pk_un (by decide)]
    exact u19
  by_cases c98 : ltr (G 14) f k = 98
  · by_cases z20 : G 20 = 0
    · obtain ⟨w1, w2, w3, w4, w5⟩ := word 98 (by decide) c98
      have w14 := w4 14 (by decide)
      have w20 : (upd U 15 (k + 1)) 20 = 0 := (w4 20 (by decide)).trans z20
      generalize hW : upd U 15 (k + 1) = W at w1 w2 w4 w5 w14 w20
      obtain ⟨r, rb, a, b, z, a1, b1, z1, v0, Hb, H, h27, ga, m1, m2, m3, m4, m5, m6, m7, m8⟩ := bridges_eq (f := f) (arr := f27) (brr := fta) w1 w20
      rw [w14, w2, w5] at m3
      rw [w14] at m4
      have hm : f_m_takesClause G f f27 f28 f29 f30 f31 = (r, H, h27, f28, f29, f30, f31) := by
        unfold f_m_takesClause
        rw [km]
        dsimp (config := { etaStruct := .none }) only
        rw [if_pos c98, u20, if_pos (l0.mpr z20), u15, hW, m1]
        exact thenS_x m2
      have he : f_e_readClause_x5 0 (G 19) (G 14) (G 15) (G 22) (G 26) f (G 20) (G 21) (G 23) (G 24) (G 25) fta ftb ftc ftd fte = (a, b, z, G 22, G 26, v0, G 21, G 23, G 24, G 25, ga, ftb, ftc, ftd, fte) := by
        have t1 : f_e_isTooOften_x5 0 (G 19) (G 14) k (G 22) (G 26) (G 20) (G 21) (G 23) (G 24) (G 25) 98 = 0 := by
          unfold f_e_isTooOften_x5
          rw [if_pos rfl, if_pos (l0.mpr z20)]
        unfold f_e_readClause_x5
        rw [ke]
        dsimp (config := { etaStruct := .none }) only
        rw [if_pos c98, if_pos z20, if_pos t1, m3]
        dsimp (config := { etaStruct := .none }) only
        rw [m4]
      have hq : CQ G H := fun j hj => (m5 j (by omega)).trans (w4 j (by omega))
      refine ⟨r, a, b, z, _, _, _, _, _, _, _, H, _, _, _, _, _, _, _, _, _, _, hm, he, hq, m6, m7, ?_⟩
      rcases m8 with ⟨x1, x2, x3, x4, x5, x6, x7, x8, x9, x10⟩ | q
      · have q21 : H 21 = G 21 := (m5 21 (by decide)).trans (w4 21 (by decide))
        have q22 : H 22 = G 22 := (m5 22 (by decide)).trans (w4 22 (by decide))
        have q23 : H 23 = G 23 := (m5 23 (by decide)).trans (w4 23 (by decide))
        have q24 : H 24 = G 24 := (m5 24 (by decide)).trans (w4 24 (by decide))
        have q25 : H 25 = G 25 := (m5 25 (by decide)).trans (w4 25 (by decide))
        have q26 : H 26 = G 26 := (m5 26 (by decide)).trans (w4 26 (by decide))
        have z0 := b11 (by rw [z20, i_0])
        rw [w5] at x3
        rw [w2] at x5
        rw [w14] at x6
        refine Or.inl ⟨x1, x2, x3, x4, by omega, x6, q22.symm, q26.symm, x7, q21.symm, q23.symm, q24.symm, q25.symm, ?_⟩
        unfold PB
        rw [← x7, q21, q23, q24, q25]
        exact ⟨⟨by omega, x9⟩, ⟨b3, b4⟩, ⟨b5, b6⟩, ⟨b7, b8⟩, ⟨b9, b10⟩, fun _ => z0, x10, b13, b14, fun j hj => by rw [z0.2] at hj; omega, b16⟩
      · exact Or.inr q
    · refine bad 3 (by decide) ?_ ?_
      · unfold f_m_takesClause
        rw [km]
        dsimp (config := { etaStruct := .none }) only
        rw [if_pos c98, u20, if_neg (fun q => z20 (l0.mp q)), u16]
        rfl
      · have t1 : ¬ f_e_isTooOften_x5 0 (G 19) (G 14) k (G 22) (G 26) (G 20) (G 21) (G 23) (G 24) (G 25) 98 = 0 := by
          unfold f_e_isTooOften_x5
          rw [if_pos rfl, if_neg (fun q => z20 (l0.mp q))]
          decide
        unfold f_e_readClause_x5
        rw [ke]
        dsimp (config := { etaStruct := .none }) only
        rw [if_pos c98, if_neg z20, if_neg t1]
        rfl
  · by_cases z20 : G 20 = 0
    · refine bad 1 (by decide) ?_ ?_
      · unfold f_m_takesClause
        rw [km]
        dsimp (config := { etaStruct := .none }) only
        rw [if_neg c98, u20, if_pos (l0.mpr z20), u16]
        rfl
      · unfold f_e_readClause_x5
        rw [ke]
        dsimp (config := { etaStruct := .none }) only
        rw [if_neg c98]
        by_cases c116 : ltr (G 14) f k = 116
        · rw [if_pos c116, if_pos z20]
          rfl
        · rw [if_neg c116]
          by_cases c99 : ltr (G 14) f k = 99
          · rw [if_pos c99, if_pos z20]
            rfl
          · rw [if_neg c99]
            by_cases c118 : ltr (G 14) f k = 118
            · rw [if_pos c118, if_pos z20]
              rfl
            · rw [if_neg c118]
              by_cases c115 : ltr (G 14) f k = 115
              · rw [if_pos c115, if_pos z20]
                rfl
              · rw [if_neg c115]
                rfl
    · have n20 : ¬ U 20 ≤ 0 := by
        rw [u20]
        exact fun q => z20 (l0.mp q)
      have one20 : 1 ≤ (G 20).toInt := by
        rw [i_eq, i_0] at z20
        omega
      have b15' := b15
      by_cases c116 : ltr (G 14) f k = 116
      · have t0 : f_e_isTooOften_x5 0 (G 19) (G 14) k (G 22) (G 26) (G 20) (G 21) (G 23) (G 24) (G 25) 116 = (if G 22 = 0 then (if G 23 ≤ 0 then 0 else 1) else 1) := by
          unfold f_e_isTooOften_x5
          rw [if_neg (by decide), if_neg (by decide), if_pos rfl]
        by_cases z22 : G 22 = 0
        · by_cases z23 : G 23 ≤ 0
          · obtain ⟨w1, w2, w3, w4, w5⟩ := word 116 (by decide) c116
            have w14 := w4 14 (by decide)
            generalize hW : upd U 15 (k + 1) = W at w1 w2 w4 w5 w14
            have w1' : PS (upd W 22 1) := ⟨by rw [pk_un (by decide)]; exact w1.1, by rw [pk_un (by decide), pk_un (by decide)]; exact w1.2.1, by rw [pk_un (by decide)]; exact w1.2.2.1, by rw [pk_un (by decide)]; exact w1.2.2.2⟩
            have v14 : (upd W 22 1) 14 = G 14 := by rw [pk_un (by decide)]; exact w14
            have v15 : (upd W 22 1) 15 = k + 1 := by rw [pk_un (by decide)]; exact w2
            have v19 : (upd W 22 1) 19 = G 19 := by rw [pk_un (by decide)]; exact w5
            have v22 : (upd W 22 1) 22 = 1 := pk_us
            have vq : ∀ j, j < 15 ∨ 20 ≤ j → j ≠ 22 → (upd W 22 1) j = G j := fun j hj hn => (pk_un hn).trans (w4 j hj)
            generalize hV : upd W 22 1 = V at w1' v14 v15 v19 v22 vq
            obtain ⟨r, v, a, b, p, H, n1, n2, n3, n4, n5, n6⟩ := number_eq (f := f) (lo := 1) (hi := 5) w1'
            rw [v14, v15, v19] at n2
            have tm : ∃ rt K, f_m_takesThemes W f = (rt, K) ∧ ((rt = 1 ∧ r = 1 ∧ K = upd H 21 (H 17)) ∨ (rt = 0 ∧ r = 0 ∧ K = H)) := by
              unfold f_m_takesThemes
              rw [hV, n1]
              dsimp (config := { etaStruct := .none }) only
              rcases n6 with q | q
              · rw [if_neg (by rw [q.1]; decide)]
                exact ⟨1, _, rfl, Or.inl ⟨rfl, q.1, rfl⟩⟩
              · rw [if_pos q.1]
                exact ⟨0, _, rfl, Or.inr ⟨rfl, q.1, rfl⟩⟩
            obtain ⟨rt, K, y1, y2⟩ := tm
            have fk : K 14 = G 14 ∧ K 18 = H 18 ∧ K 19 = H 19 ∧ K 15 = H 15 := by
              have hh14 : H 14 = G 14 := (n3 14 (by decide)).trans v14
              rcases y2 with ⟨_, _, rfl⟩ | ⟨_, _, rfl⟩
              · exact ⟨by rw [pk_un (by decide)]; exact hh14, by rw [pk_un (by decide)], by rw [pk_un (by decide)], by rw [pk_un (by decide)]⟩
              · exact ⟨hh14, rfl, rfl, rfl⟩
            obtain ⟨r', a', b', z', K', g1, g2, g3, g4, g5, g6⟩ := finish_eq (f := f) (H := K) (L := G 14) (a1 := a) (b1 := b) (z1 := p) (r := rt) fk.1 (by rw [fk.2.1]; exact n4) (by rw [fk.2.2.1]; exact n5) (by
              rcases n6 with ⟨q1, q2, q3, q4, q5, q6, q7, q8, q9⟩ | ⟨q1, q2⟩
              · rcases y2 with ⟨e1, e2, e3⟩ | ⟨e1, e2, e3⟩
                · rw [v15] at q8
                  rw [v14] at q9
                  exact Or.inl ⟨e1, q2, by rw [fk.2.2.2]; exact q4, by omega, q9, p2⟩
                · rw [q1] at e2
                  exact absurd e2 (by decide)
              · rcases y2 with ⟨e1, e2, e3⟩ | ⟨e1, e2, e3⟩
                · rw [q1] at e2
                  exact absurd e2 (by decide)
                · exact Or.inr ⟨e1, q2⟩)
            have hm : f_m_takesClause G f f27 f28 f29 f30 f31 = (r', K', f27, f28, f29, f30, f31) := by
              unfold f_m_takesClause
              rw [km]
              dsimp (config := { etaStruct := .none }) only
              rw [if_neg c98, if_neg n20, if_pos c116, u22, if_pos z22, u23, if_pos z23, u15, hW, y1]
              exact thenS_x g1
            have he : f_e_readClause_x5 0 (G 19) (G 14) (G 15) (G 22) (G 26) f (G 20) (G 21) (G 23) (G 24) (G 25) fta ftb ftc ftd fte = (a', b', z', 1, G 26, G 20, v, G 23, G 24, G 25, fta, ftb, ftc, ftd, fte) := by
              unfold f_e_readClause_x5
              rw [ke]
              dsimp (config := { etaStruct := .none }) only
              rw [if_neg c98, if_pos c116, if_neg z20, t0, if_pos z22, if_pos z23, if_pos rfl, n2]
              dsimp (config := { etaStruct := .none }) only
              rw [g2]
            have kq : ∀ j, j < 15 ∨ 20 ≤ j → j ≠ 21 → j ≠ 22 → K' j = G j := by
              intro j hj h1 h2
              rw [g3 j hj]
              rcases y2 with ⟨_, _, rfl⟩ | ⟨_, _, rfl⟩
              · rw [pk_un h1, n3 j hj, vq j hj h2]
              · rw [n3 j hj, vq j hj h2]
            refine ⟨r', a', b', z', _, _, _, _, _, _, _, K', _, _, _, _, _, _, _, _, _, _, hm, he, fun j hj => kq j (by omega) (by omega) (by omega), g4, g5, ?_⟩
            rcases g6 with ⟨x1, x2, x3, x4, x5, x6, x7, x8⟩ | q
            · rcases n6 with ⟨q1, q2, q3, q4, q5, q6, q7, q8, q9⟩ | ⟨q1, q2⟩
              · rcases y2 with ⟨e1, e2, e3⟩ | ⟨e1, e2, e3⟩
                · have k21 : K' 21 = v := by rw [g3 21 (by decide), e3, pk_us, q5]
                  have k22 : K' 22 = 1 := by rw [g3 22 (by decide), e3, pk_un (by decide), n3 22 (by decide), v22]
                  have k20 := kq 20 (by decide) (by decide) (by decide)
                  have k23 := kq 23 (by decide) (by decide) (by decide)
                  have k24 := kq 24 (by decide) (by decide) (by decide)
                  have k25 := kq 25 (by decide) (by decide) (by decide)
                  have k26 := kq 26 (by decide) (by decide) (by decide)
                  rw [v15] at q8
                  rw [fk.2.2.2, ← q4] at x7
                  rw [i_le, i_0] at z23
                  refine Or.inl ⟨x1, x2, by rw [x4, q3, v19], x6, by omega, x8, k22.symm, k26.symm, k20.symm, k21.symm, k23.symm, k24.symm, k25.symm, ?_⟩
                  unfold PB
                  rw [k20, k21, k23, k24, k25]
                  exact ⟨⟨b1, b2⟩, ⟨q6, q7⟩, ⟨b5, b6⟩, ⟨b7, b8⟩, ⟨b9, b10⟩, b11, b12, b13, fun c t hc _ => by omega, b15, b16⟩
                · rw [q1] at e2
                  exact absurd e2 (by decide)
              · exact absurd x3 q2
            · exact Or.inr q
          · refine bad 3 (by decide) ?_ ?_
            · unfold f_m_takesClause
              rw [km]
              dsimp (config := { etaStruct := .none }) only
              rw [if_neg c98, if_neg n20, if_pos c116, u22, if_pos z22, u23, if_neg z23, u16]
              rfl
            · unfold f_e_readClause_x5
              rw [ke]
              dsimp (config := { etaStruct := .none }) only
              rw [if_neg c98, if_pos c116, if_neg z20, t0, if_pos z22, if_neg z23, if_neg (by decide)]
              rfl
        · refine bad 3 (by decide) ?_ ?_
          · unfold f_m_takesClause
            rw [km]
            dsimp (config := { etaStruct := .none }) only
            rw [if_neg c98, if_neg n20, if_pos c116, u22, if_neg z22, u16]
            rfl
          · unfold f_e_readClause_x5
            rw [ke]
            dsimp (config := { etaStruct := .none }) only
            rw [if_neg c98, if_pos c116, if_neg z20, t0, if_neg z22, if_neg (by decide)]
            rfl
      · by_cases c99 : ltr (G 14) f k = 99
        · have t0 : f_e_isTooOften_x5 0 (G 19) (G 14) k (G 22) (G 26) (G 20) (G 21) (G 23) (G 24) (G 25) 99 = (if G 23 < 6 then 0 else 1) := by
            unfold f_e_isTooOften_x5
            rw [if_neg (by decide), if_pos rfl]
          by_cases z23 : G 23 = 6
          · have z23' : ¬ G 23 < 6 := by rw [z23]; decide
            refine bad 3 (by decide) ?_ ?_
            · unfold f_m_takesClause
              rw [km]
              dsimp (config := { etaStruct := .none }) only
              rw [if_neg c98, if_neg n20, if_neg c116, if_pos c99, u23, if_pos z23, u16]
              rfl
            · unfold f_e_readClause_x5
              rw [ke]
              dsimp (config := { etaStruct := .none }) only
              rw [if_neg c98, if_neg c116, if_pos c99, if_neg z20, t0, if_neg z23', if_neg (by decide)]
              rfl
          · have z23' : G 23 < 6 := by
              rw [i_eq] at z23
              rw [i_lt]
              simp only [Int32.reduceToInt] at z23 ⊢
              omega
            have z23i : (G 23).toInt ≤ 5 := by
              rw [i_lt] at z23'
              simp only [Int32.reduceToInt] at z23'
              omega
            obtain ⟨w1, w2, w3, w4, w5⟩ := word 99 (by decide) c99
            have w14 := w4 14 (by decide)
            have w21 := w4 21 (by decide)
            have w23 := w4 23 (by decide)
            generalize hW : upd U 15 (k + 1) = W at w1 w2 w4 w5 w14 w21 w23
            obtain ⟨r, a1, b1', z1, v2, H, h28, h29, gb, gc, y1, y2, y3, y4, y5, y6⟩ := couple_eq (f := f) (f28 := f28) (f29 := f29) (ftb := ftb) (ftc := ftc) (G 22) (G 26) (G 20) (G 24) (G 25) w1 (by rw [w23]; exact b5) (by rw [w23]; exact z23i) (by rw [w21]; omega) (by rw [w21]; exact b4) (by rw [w23]; exact b13) (by rw [w23, w21]; exact b14)
            rw [w14, w2, w5, w21, w23] at y2
            have h14 : H 14 = G 14 := (y3 14 (by decide) (by decide)).trans w14
            obtain ⟨r', a', b', z', K', g1, g2, g3, g4, g5, g6⟩ := finish_eq (f := f) (H := H) (L := G 14) (a1 := a1) (b1 := b1') (z1 := z1) (r := r) h14 y4 y5 (by
              rcases y6 with ⟨q1, q2, q3, q4, q5, q6, q7⟩ | q
              · rw [w2] at q5
                rw [w14] at q6
                exact Or.inl ⟨q1, q2, q4, by omega, q6, p2⟩
              · exact Or.inr q)
            have hm : f_m_takesClause G f f27 f28 f29 f30 f31 = (r', K', f27, h28, h29, f30, f31) := by
              unfold f_m_takesClause
              rw [km]
              dsimp (config := { etaStruct := .none }) only
              rw [if_neg c98, if_neg n20, if_neg c116, if_pos c99, u23, if_neg z23, u15, hW, y1]
              exact thenS_x g1
            have he : f_e_readClause_x5 0 (G 19) (G 14) (G 15) (G 22) (G 26) f (G 20) (G 21) (G 23) (G 24) (G 25) fta ftb ftc ftd fte = (a', b', z', G 22, G 26, G 20, G 21, v2, G 24, G 25, fta, gb, gc, ftd, fte) := by
              unfold f_e_readClause_x5
              rw [ke]
              dsimp (config := { etaStruct := .none }) only
              rw [if_neg c98, if_neg c116, if_pos c99, if_neg z20, t0, if_pos z23', if_pos rfl, y2]
              dsimp (config := { etaStruct := .none }) only
              rw [g2]
            have kq : ∀ j, j < 15 ∨ 20 ≤ j → j ≠ 23 → K' j = G j := fun j hj hn => (g3 j hj).trans ((y3 j hj hn).trans (w4 j hj))
            refine ⟨r', a', b', z', _, _, _, _, _, _, _, K', _, _, _, _, _, _, _, _, _, _, hm, he, fun j hj => kq j (by omega) (by omega), g4, g5, ?_⟩
            rcases g6 with ⟨x1, x2, x3, x4, x5, x6, x7, x8⟩ | q
            · rcases y6 with ⟨q1, q2, q3, q4, q5, q6, q7, q8, q9, q10⟩ | ⟨q1, q2⟩
              · have k23 : K' 23 = H 23 := g3 23 (by decide)
                have k20 := kq 20 (by decide) (by decide)
                have k21 := kq 21 (by decide) (by decide)
                have k22 := kq 22 (by decide) (by decide)
                have k24 := kq 24 (by decide) (by decide)
                have k25 := kq 25 (by decide) (by decide)
                have k26 := kq 26 (by decide) (by decide)
                rw [w2] at q5
                rw [← q4] at x7
                refine Or.inl ⟨x1, x2, by rw [x4, q3, w5], x6, by omega, x8, k22.symm, k26.symm, k20.symm, k21.symm, by rw [k23]; exact q7, k24.symm, k25.symm, ?_⟩
                rw [w23] at q8 q9 q10
                rw [w21] at q10
                unfold PB
                rw [k20, k21, k23, k24, k25, q8]
                exact ⟨⟨b1, b2⟩, ⟨b3, b4⟩, ⟨by omega, by omega⟩, ⟨b7, b8⟩, ⟨b9, b10⟩, fun q => by omega, b12, q9, q10, b15, b16⟩
              · exact absurd x3 q2
            · exact Or.inr q
        · by_cases c118 : ltr (G 14) f k = 118
          · have t0 : f_e_isTooOften_x5 0 (G 19) (G 14) k (G 22) (G 26) (G 20) (G 21) (G 23) (G 24) (G 25) 118 = (if G 24 < 7 then 0 else 1) := by
              unfold f_e_isTooOften_x5
              rw [if_neg (by decide), if_neg (by decide), if_neg (by decide), if_pos rfl]
            by_cases z24 : G 24 = 7
            · have z24' : ¬ G 24 < 7 := by rw [z24]; decide
              refine bad 3 (by decide) ?_ ?_
              · unfold f_m_takesClause
                rw [km]
                dsimp (config := { etaStruct := .none }) only
                rw [if_neg c98, if_neg n20, if_neg c116, if_neg c99, if_pos c118, u24, if_pos z24, u16]
                rfl
              · unfold f_e_readClause_x5
                rw [ke]
                dsimp (config := { etaStruct := .none }) only
                rw [if_neg c98, if_neg c116, if_neg c99, if_pos c118, if_neg z20, t0, if_neg z24', if_neg (by decide)]
                rfl
            · have z24' : G 24 < 7 := by
                rw [i_eq] at z24
                rw [i_lt]
                simp only [Int32.reduceToInt] at z24 ⊢
                omega
              have z24i : (G 24).toInt ≤ 6 := by
                rw [i_lt] at z24'
                simp only [Int32.reduceToInt] at z24'
                omega
              obtain ⟨w1, w2, w3, w4, w5⟩ := word 118 (by decide) c118
              have w14 := w4 14 (by decide)
              have w20 := w4 20 (by decide)
              have w24 := w4 24 (by decide)
              generalize hW : upd U 15 (k + 1) = W at w1 w2 w4 w5 w14 w20 w24
              obtain ⟨r, a1, b1', z1, v3, H, h30, h31, gd, ge, y1, y2, y3, y4, y5, y6⟩ := barge_eq (f := f) (f30 := f30) (f31 := f31) (ftd := ftd) (fte := fte) (G 22) (G 26) (G 21) (G 23) (G 25) w1 (by rw [w24]; exact b7) (by rw [w24]; exact z24i) (by rw [w20]; exact one20) (by rw [w20]; exact b2) (by rw [w24, w20]; exact b15) (by rw [w24]; exact b16)
              rw [w14, w2, w5, w20, w24] at y2
              have h14 : H 14 = G 14 := (y3 14 (by decide) (by decide)).trans w14
              obtain ⟨r', a', b', z', K', g1, g2, g3, g4, g5, g6⟩ := finish_eq (f := f) (H := H) (L := G 14) (a1 := a1) (b1 := b1') (z1 := z1) (r := r) h14 y4 y5 (by
                rcases y6 with ⟨q1, q2, q3, q4, q5, q6, q7⟩ | q
                · rw [w2] at q5
                  rw [w14] at q6
                  exact Or.inl ⟨q1, q2, q4, by omega, q6, p2⟩
                · exact Or.inr q)
              have hm : f_m_takesClause G f f27 f28 f29 f30 f31 = (r', K', f27, f28, f29, h30, h31) := by
                unfold f_m_takesClause
                rw [km]
                dsimp (config := { etaStruct := .none }) only
                rw [if_neg c98, if_neg n20, if_neg c116, if_neg c99, if_pos c118, u24, if_neg z24, u15, hW, y1]
                exact thenS_x g1
              have he : f_e_readClause_x5 0 (G 19) (G 14) (G 15) (G 22) (G 26) f (G 20) (G 21) (G 23) (G 24) (G 25) fta ftb ftc ftd fte = (a', b', z', G 22, G 26, G 20, G 21, G 23, v3, G 25, fta, ftb, ftc, gd, ge) := by
                unfold f_e_readClause_x5
                rw [ke]
                dsimp (config := { etaStruct := .none }) only
                rw [if_neg c98, if_neg c116, if_neg c99, if_pos c118, if_neg z20, t0, if_pos z24', if_pos rfl, y2]
                dsimp (config := { etaStruct := .none }) only
                rw [g2]
              have kq : ∀ j, j < 15 ∨ 20 ≤ j → j ≠ 24 → K' j = G j := fun j hj hn => (g3 j hj).trans ((y3 j hj hn).trans (w4 j hj))
              refine ⟨r', a', b', z', _, _, _, _, _, _, _, K', _, _, _, _, _, _, _, _, _, _, hm, he, fun j hj => kq j (by omega) (by omega), g4, g5, ?_⟩
              rcases g6 with ⟨x1, x2, x3, x4, x5, x6, x7, x8⟩ | q
              · rcases y6 with ⟨q1, q2, q3, q4, q5, q6, q7, q8, q9, q10⟩ | ⟨q1, q2⟩
                · have k24 : K' 24 = H 24 := g3 24 (by decide)
                  have k20 := kq 20 (by decide) (by decide)
                  have k21 := kq 21 (by decide) (by decide)
                  have k22 := kq 22 (by decide) (by decide)
                  have k23 := kq 23 (by decide) (by decide)
                  have k25 := kq 25 (by decide) (by decide)
                  have k26 := kq 26 (by decide) (by decide)
                  rw [w2] at q5
                  rw [← q4] at x7
                  refine Or.inl ⟨x1, x2, by rw [x4, q3, w5], x6, by omega, x8, k22.symm, k26.symm, k20.symm, k21.symm, k23.symm, by rw [k24]; exact q7, k25.symm, ?_⟩
                  rw [w24] at q8 q9 q10
                  rw [w20] at q9
                  unfold PB
                  rw [k20, k21, k23, k24, k25, q8]
                  exact ⟨⟨b1, b2⟩, ⟨b3, b4⟩, ⟨b5, b6⟩, ⟨by omega, by omega⟩, ⟨b9, b10⟩, fun q => by omega, b12, b13, b14, q9, q10⟩
                · exact absurd x3 q2
              · exact Or.inr q
          · by_cases c115 : ltr (G 14) f k = 115
            · have t0 : f_e_isTooOften_x5 0 (G 19) (G 14) k (G 22) (G 26) (G 20) (G 21) (G 23) (G 24) (G 25) 115 = G 26 := by
                unfold f_e_isTooOften_x5
                rw [if_neg (by decide), if_neg (by decide), if_neg (by decide), if_neg (by decide)]
              by_cases z26 : G 26 = 0
              · obtain ⟨w1, w2, w3, w4, w5⟩ := word 115 (by decide) c115
                have w14 := w4 14 (by decide)
                generalize hW : upd U 15 (k + 1) = W at w1 w2 w4 w5 w14
                have w1' : PS (upd W 26 1) := ⟨by rw [pk_un (by decide)]; exact w1.1, by rw [pk_un (by decide), pk_un (by decide)]; exact w1.2.1, by rw [pk_un (by decide)]; exact w1.2.2.1, by rw [pk_un (by decide)]; exact w1.2.2.2⟩
                have v14 : (upd W 26 1) 14 = G 14 := by rw [pk_un (by decide)]; exact w14
                have v15 : (upd W 26 1) 15 = k + 1 := by rw [pk_un (by decide)]; exact w2
                have v19 : (upd W 26 1) 19 = G 19 := by rw [pk_un (by decide)]; exact w5
                have v26 : (upd W 26 1) 26 = 1 := pk_us
                have vq : ∀ j, j < 15 ∨ 20 ≤ j → j ≠ 26 → (upd W 26 1) j = G j := fun j hj hn => (pk_un hn).trans (w4 j hj)
                generalize hV : upd W 26 1 = V at w1' v14 v15 v19 v26 vq
                obtain ⟨r, v, a, b, p, H, n1, n2, n3, n4, n5, n6⟩ := number_eq (f := f) (lo := 0) (hi := 1) w1'
                rw [v14, v15, v19] at n2
                have tm : ∃ rt K, f_m_takesSnow W f = (rt, K) ∧ ((rt = 1 ∧ r = 1 ∧ K = upd H 25 (H 17)) ∨ (rt = 0 ∧ r = 0 ∧ K = H)) := by
                  unfold f_m_takesSnow
                  rw [hV, n1]
                  dsimp (config := { etaStruct := .none }) only
                  rcases n6 with q | q
                  · rw [if_neg (by rw [q.1]; decide)]
                    exact ⟨1, _, rfl, Or.inl ⟨rfl, q.1, rfl⟩⟩
                  · rw [if_pos q.1]
                    exact ⟨0, _, rfl, Or.inr ⟨rfl, q.1, rfl⟩⟩
                obtain ⟨rt, K, y1, y2⟩ := tm
                have fk : K 14 = G 14 ∧ K 18 = H 18 ∧ K 19 = H 19 ∧ K 15 = H 15 := by
                  have hh14 : H 14 = G 14 := (n3 14 (by decide)).trans v14
                  rcases y2 with ⟨_, _, rfl⟩ | ⟨_, _, rfl⟩
                  · exact ⟨by rw [pk_un (by decide)]; exact hh14, by rw [pk_un (by decide)], by rw [pk_un (by decide)], by rw [pk_un (by decide)]⟩
                  · exact ⟨hh14, rfl, rfl, rfl⟩
                obtain ⟨r', a', b', z', K', g1, g2, g3, g4, g5, g6⟩ := finish_eq (f := f) (H := K) (L := G 14) (a1 := a) (b1 := b) (z1 := p) (r := rt) fk.1 (by rw [fk.2.1]; exact n4) (by rw [fk.2.2.1]; exact n5) (by
                  rcases n6 with ⟨q1, q2, q3, q4, q5, q6, q7, q8, q9⟩ | ⟨q1, q2⟩
                  · rcases y2 with ⟨e1, e2, e3⟩ | ⟨e1, e2, e3⟩
                    · rw [v15] at q8
                      rw [v14] at q9
                      exact Or.inl ⟨e1, q2, by rw [fk.2.2.2]; exact q4, by omega, q9, p2⟩
                    · rw [q1] at e2
                      exact absurd e2 (by decide)
                  · rcases y2 with ⟨e1, e2, e3⟩ | ⟨e1, e2, e3⟩
                    · rw [q1] at e2
                      exact absurd e2 (by decide)
                    · exact Or.inr ⟨e1, q2⟩)
                have hm : f_m_takesClause G f f27 f28 f29 f30 f31 = (r', K', f27, f28, f29, f30, f31) := by
                  unfold f_m_takesClause
                  rw [km]
                  dsimp (config := { etaStruct := .none }) only
                  rw [if_neg c98, if_neg n20, if_neg c116, if_neg c99, if_neg c118, if_pos c115, u26, if_pos z26, u15, hW, y1]
                  exact thenS_x g1
                have he : f_e_readClause_x5 0 (G 19) (G 14) (G 15) (G 22) (G 26) f (G 20) (G 21) (G 23) (G 24) (G 25) fta ftb ftc ftd fte = (a', b', z', G 22, 1, G 20, G 21, G 23, G 24, v, fta, ftb, ftc, ftd, fte) := by
                  unfold f_e_readClause_x5
                  rw [ke]
                  dsimp (config := { etaStruct := .none }) only
                  rw [if_neg c98, if_neg c116, if_neg c99, if_neg c118, if_pos c115, if_neg z20, t0, if_pos z26, n2]
                  dsimp (config := { etaStruct := .none }) only
                  rw [g2]
                have kq : ∀ j, j < 15 ∨ 20 ≤ j → j ≠ 25 → j ≠ 26 → K' j = G j := by
                  intro j hj h1 h2
                  rw [g3 j hj]
                  rcases y2 with ⟨_, _, rfl⟩ | ⟨_, _, rfl⟩
                  · rw [pk_un h1, n3 j hj, vq j hj h2]
                  · rw [n3 j hj, vq j hj h2]
                refine ⟨r', a', b', z', _, _, _, _, _, _, _, K', _, _, _, _, _, _, _, _, _, _, hm, he, fun j hj => kq j (by omega) (by omega) (by omega), g4, g5, ?_⟩
                rcases g6 with ⟨x1, x2, x3, x4, x5, x6, x7, x8⟩ | q
                · rcases n6 with ⟨q1, q2, q3, q4, q5, q6, q7, q8, q9⟩ | ⟨q1, q2⟩
                  · rcases y2 with ⟨e1, e2, e3⟩ | ⟨e1, e2, e3⟩
                    · have k25 : K' 25 = v := by rw [g3 25 (by decide), e3, pk_us, q5]
                      have k26 : K' 26 = 1 := by rw [g3 26 (by decide), e3, pk_un (by decide), n3 26 (by decide), v26]
                      have k20 := kq 20 (by decide) (by decide) (by decide)
                      have k21 := kq 21 (by decide) (by decide) (by decide)
                      have k22 := kq 22 (by decide) (by decide) (by decide)
                      have k23 := kq 23 (by decide) (by decide) (by decide)
                      have k24 := kq 24 (by decide) (by decide) (by decide)
                      rw [v15] at q8
                      rw [fk.2.2.2, ← q4] at x7
                      refine Or.inl ⟨x1, x2, by rw [x4, q3, v19], x6, by omega, x8, k22.symm, k26.symm, k20.symm, k21.symm, k23.symm, k24.symm, k25.symm, ?_⟩
                      unfold PB
                      rw [k20, k21, k23, k24, k25]
                      exact ⟨⟨b1, b2⟩, ⟨b3, b4⟩, ⟨b5, b6⟩, ⟨b7, b8⟩, ⟨q6, q7⟩, b11, b12, b13, b14, b15, b16⟩
                    · rw [q1] at e2
                      exact absurd e2 (by decide)
                  · exact absurd x3 q2
                · exact Or.inr q
              · refine bad 3 (by decide) ?_ ?_
                · unfold f_m_takesClause
                  rw [km]
                  dsimp (config := { etaStruct := .none }) only
                  rw [if_neg c98, if_neg n20, if_neg c116, if_neg c99, if_neg c118, if_pos c115, u26, if_neg z26, u16]
                  rfl
                · unfold f_e_readClause_x5
                  rw [ke]
                  dsimp (config := { etaStruct := .none }) only
                  rw [if_neg c98, if_neg c116, if_neg c99, if_neg c118, if_pos c115, if_neg z20, t0, if_neg z26]
                  rfl
            · refine bad 1 (by decide) ?_ ?_
              · unfold f_m_takesClause
                rw [km]
                dsimp (config := { etaStruct := .none }) only
                rw [if_neg c98, if_neg n20, if_neg c116, if_neg c99, if_neg c118, if_neg c115, u16]
                rfl
              · unfold f_e_readClause_x5
                rw [ke]
                dsimp (config := { etaStruct := .none }) only
                rw [if_neg c98, if_neg c116, if_neg c99, if_neg c118, if_neg c115]
                rfl
