/-! town, side by side -/
theorem IR_0 {G w fim fis f1 : Nat → Int32} (h0 : f1 0 = 0) (h1 : f1 1 = 0) : IR G 0 fim fis f1 w := by
  refine ⟨Or.inl rfl, fun i hi => ?_⟩
  have hz : f1 i.toNatClampNeg = 0 := by
    rcases hi with rfl | rfl
    · exact h0
    · exact h1
  refine ⟨⟨fun _ => hz, fun _ => ?_⟩, fun hk => absurd hz hk⟩
  rcases hi with rfl | rfl <;> decide
section
variable {q1 q2 q10 q12 t0 t1 t2 t3 t4 p1 p2 b0 : Int32} {ftx fta ftb ftc ftd fte fn fsh fim fis fba fbb G w f1 f8 f9 f10 f11 f12 f13 f43 f44 : Nat → Int32}
set_option maxHeartbeats 1000000 in
theorem R_town {t d : Nat} {r0 r1 r3 r4 r5 r6 d0 d1 d2 d3 d4 : Int32} {fda fdb fdc fdd fde f27 f28 f29 f30 f31 : Nat → Int32} {rx x0 x1 x4 x5 x6 x7 x8 x9 x10 x11 x12 x13 x14 x15 x22 x23 ry : Int32} {x2 x3 : Nat} {x16 x17 x18 x19 x20 x21 y0 y1 y2 y3 y4 y5 y6 y7 y8 y9 y10 y11 y12 : Nat → Int32} (hG : GI G) (hR : RS q1 q2 ftx f13 t0 t1 t2 t3 t4 fta ftb ftc ftd fte f8 f9 f10 f11 f12 b0 fba fbb f43 f44 G) (hD : DY q10 q12 p1 p2 fn fsh fim fis f1 G w) (ex : (rx, x0, x1, x2, x3, x4, x5, x6, x7, x8, x9, x10, x11, x12, x13, x14, x15, x16, x17, x18, x19, x20, x21, x22, x23) = f_e_town_x9 t d q1 q2 q10 q12 r0 r1 r3 r4 r5 r6 ftx d0 d1 d2 d3 d4 fda fdb fdc fdd fde fn p1 p2 b0) (em : (ry, y0, y1, y2, y3, y4, y5, y6, y7, y8, y9, y10, y11, y12) = f_m_town G w f1 f8 f9 f10 f11 f12 f13 f27 f28 f29 f30 f31) : rx = ry ∧ ((d = x2 ∧ t = x3 ∧ RS x0 x1 ftx f13 x11 x12 x13 x14 x15 x16 x17 x18 x19 x20 y3 y4 y5 y6 y7 x23 fba fbb f43 f44 y0 ∧ DY x4 q12 p1 x22 x21 fsh fim fis y2 y0 y1) ∨ (t = x2 ∧ d = x3 ∧ RS x0 x1 ftx f13 t0 t1 t2 t3 t4 fta ftb ftc ftd fte y3 y4 y5 y6 y7 x23 fba fbb f43 f44 y0 ∧ DY x4 q12 p1 x22 x21 fsh fim fis y2 y0 y1)) := by
  have hR0 := hR
  have hD0 := hD
  obtain ⟨⟨rfl, rfl, hq2⟩, hN, hK⟩ := hR
  obtain ⟨⟨hS, hB, hq⟩, hU, hI⟩ := hD
  have g14 := hG.2.2.2.2.2.1
  obtain ⟨rg, a, b, z, s5, s6, u0, u1, u2, u3, u4, H, h27, h28, h29, h30, h31, ga, gb, gc, gd, ge, m1, m2, m3, m4, m5, m6⟩ := read_eq (f := ftx) (fta := fda) (ftb := fdb) (ftc := fdc) (ftd := fdd) (fte := fde) w f1 f8 f9 f10 f11 f12 f27 f28 f29 f30 f31 g14.1 g14.2
  unfold f_e_town_x9 at ex
  rw [m2] at ex
  unfold G0r at m1
  unfold f_m_town at em
  rw [m1] at em
  have em' := em
  clear em
  dsimp (config := { etaStruct := .none }) only at ex em'
  have c14 := m3 14 (by decide)
  rcases m6 with ⟨rfl, k2, k3, k4, k5, k6, k7, k8, hP⟩ | ⟨rfl, ha⟩
  · rw [if_pos k2] at ex
    rw [if_neg (by decide)] at em'
    obtain ⟨⟨n1, n2⟩, ⟨n3, n4⟩, ⟨n5, n6⟩, ⟨n7, n8⟩, ⟨n9, n10⟩, n11, n12, n13, n14, n15, n16⟩ := hP
    have z3 : (upd (upd (upd (upd (upd (upd H 14 0) 3 (H 20)) 4 (H 21)) 5 (H 23)) 6 (H 24)) 7 (H 25)) 3 = H 20 := by rw [pk_un (by decide), pk_un (by decide), pk_un (by decide), pk_un (by decide), pk_us]
    have z4 : (upd (upd (upd (upd (upd (upd H 14 0) 3 (H 20)) 4 (H 21)) 5 (H 23)) 6 (H 24)) 7 (H 25)) 4 = H 21 := by rw [pk_un (by decide), pk_un (by decide), pk_un (by decide), pk_us]
    have z5 : (upd (upd (upd (upd (upd (upd H 14 0) 3 (H 20)) 4 (H 21)) 5 (H 23)) 6 (H 24)) 7 (H 25)) 5 = H 23 := by rw [pk_un (by decide), pk_un (by decide), pk_us]
    have z6 : (upd (upd (upd (upd (upd (upd H 14 0) 3 (H 20)) 4 (H 21)) 5 (H 23)) 6 (H 24)) 7 (H 25)) 6 = H 24 := by rw [pk_un (by decide), pk_us]
    have z7 : (upd (upd (upd (upd (upd (upd H 14 0) 3 (H 20)) 4 (H 21)) 5 (H 23)) 6 (H 24)) 7 (H 25)) 7 = H 25 := by rw [pk_us]
    have z14 : (upd (upd (upd (upd (upd (upd H 14 0) 3 (H 20)) 4 (H 21)) 5 (H 23)) 6 (H 24)) 7 (H 25)) 14 = 0 := by rw [pk_un (by decide), pk_un (by decide), pk_un (by decide), pk_un (by decide), pk_un (by decide), pk_us]
    have zo : ∀ k, k = 2 ∨ k = 19 ∨ k = 42 → (upd (upd (upd (upd (upd (upd H 14 0) 3 (H 20)) 4 (H 21)) 5 (H 23)) 6 (H 24)) 7 (H 25)) k = H k := fun k hk => by rw [pk_un (by omega), pk_un (by omega), pk_un (by omega), pk_un (by omega), pk_un (by omega), pk_un (by omega)]
    generalize upd (upd (upd (upd (upd (upd H 14 0) 3 (H 20)) 4 (H 21)) 5 (H 23)) 6 (H 24)) 7 (H 25) = Z at em' z3 z4 z5 z6 z7 z14 zo
    obtain ⟨j1, g3, g4, e1, e1'⟩ := cp131 7 0 Z w f1 f8 f9 f10 f11 f12 h27 h28 h29 h30 h31 (by decide) (by decide) (by decide) (fun k hk => absurd hk (by rw [i_0]; omega))
    obtain ⟨j2, g5, e2, e2'⟩ := cp169 31 0 Z w f1 g3 g4 f10 f11 f12 h27 h28 h29 h30 h31 (by decide) (by decide) (by decide) (fun k hk => absurd hk (by rw [i_0]; omega))
    obtain ⟨j3, g6, g7, e3, e3'⟩ := cp195 8 0 Z w f1 g3 g4 g5 f11 f12 h27 h28 h29 h30 h31 (by decide) (by decide) (by decide) (fun k hk => absurd hk (by rw [i_0]; omega))
    have l7 : ((6 : Int32).toInt - (0 : Int32).toInt).toNat + 1 = 7 := rfl
    have l31 : ((30 : Int32).toInt - (0 : Int32).toInt).toNat + 1 = 31 := rfl
    have l8 : ((7 : Int32).toInt - (0 : Int32).toInt).toNat + 1 = 8 := rfl
    rw [l7, e1] at em'
    dsimp (config := { etaStruct := .none }) only at em'
    rw [l31, e2] at em'
    dsimp (config := { etaStruct := .none }) only at em'
    rw [l8, e3] at em'
    dsimp (config := { etaStruct := .none }) only at em'
    have gZ : GI Z := by
      unfold GI
      rw [zo 2 (by decide), z3, z4, z5, z6, z14, zo 42 (by decide), m3 2 (by decide), m3 42 (by decide), i_0]
      exact ⟨hG.1, ⟨n1, n2⟩, ⟨by omega, n4⟩, ⟨n5, n6⟩, ⟨n7, n8⟩, ⟨by decide, by decide⟩, hG.2.2.2.2.2.2⟩
    have hA9 : AG gb g4 (Z 5).toInt 0 99 := by
      intro k hk
      rw [z5] at hk
      rw [(e1' k (by omega)).2]
      exact n13 k hk
    have bg := begin_eq (fn := fn) (w := w) (t0 := H 20) (t1 := H 21) (t3 := H 24) (t4 := H 25) gZ (by rw [z4]; exact n3) hA9
    rw [z5] at bg
    subst k4 k5 k6 k7 k8
    simp only [Prod.mk.injEq] at ex em'
    obtain ⟨rfl, rfl, rfl, rfl, rfl, rfl, rfl, rfl, rfl, rfl, rfl, rfl, rfl, rfl, rfl, rfl, rfl, rfl, rfl, rfl, rfl, rfl, rfl, rfl, rfl⟩ := ex
    obtain ⟨rfl, rfl, rfl, rfl, rfl, rfl, rfl, rfl, rfl, rfl, rfl, rfl, rfl, rfl⟩ := em'
    have v : ∀ k, k ≠ 42 → k ≠ 2 → (upd (upd Z 42 0) 2 0) k = Z k := fun k a b => by rw [pk_un b, pk_un a]
    have v3 := (v 3 (by decide) (by decide)).trans z3
    have v4 := (v 4 (by decide) (by decide)).trans z4
    have v5 := (v 5 (by decide) (by decide)).trans z5
    have v6 := (v 6 (by decide) (by decide)).trans z6
    have v7 := (v 7 (by decide) (by decide)).trans z7
    refine ⟨z3.symm, Or.inl ⟨rfl, rfl, ⟨⟨?_, rfl, ?_⟩, ⟨v3.symm, v4.symm, v5.symm, v6.symm, v7.symm, ?_, ?_, ?_, ?_, ?_, ?_, ?_⟩, ⟨?_, hK.2.1, hK.2.2⟩⟩, ⟨bg.1, BI_of bg.2.1 (fun k hk => rfl) (v 3 (by decide) (by decide)) (v 4 (by decide) (by decide)) (v 5 (by decide) (by decide)) (v 6 (by decide) (by decide)), by rw [bg.2.2.1]; exact hq⟩, UR_nil (G := G) hU.2.1 hU.2.2.1 pk_us, IR_0 ?_ ?_⟩⟩
    · rw [v 14 (by decide) (by decide), z14]
    · rw [v 19 (by decide) (by decide), zo 19 (by decide)]
      exact m5
    · rw [v4]
      exact n3
    · rw [v7]
      simp only [i_eq, Int32.reduceToInt]
      omega
    · rw [v3]
      intro k hk
      rw [(e1' k (by omega)).1]
      exact n12 k hk
    · rw [v5]
      intro k hk
      rw [(e1' k (by omega)).2]
      exact n13 k hk
    · rw [v5, v4]
      intro c t hc ht
      rw [e2' _ (by omega)]
      exact n14 c t hc ht
    · rw [v6, v3]
      intro k hk
      rw [(e3' k (by omega)).1]
      exact n15 k hk
    · rw [v6]
      intro k hk
      rw [(e3' k (by omega)).2]
      exact n16 k hk
    · show (0 : Int32) = _
      rw [pk_un (by decide), pk_us]
    · show upd (upd f1 0 (vp_nar .boolean 0)) 1 (vp_nar .boolean 0) 0 = 0
      rw [pk_un (by decide), pk_us]
      rfl
    · show upd (upd f1 0 (vp_nar .boolean 0)) 1 (vp_nar .boolean 0) 1 = 0
      rw [pk_us]
      rfl
  · rw [if_neg ha] at ex
    rw [if_pos rfl] at em'
    simp only [Prod.mk.injEq] at ex em'
    obtain ⟨rfl, rfl, rfl, rfl, rfl, rfl, rfl, rfl, rfl, rfl, rfl, rfl, rfl, rfl, rfl, rfl, rfl, rfl, rfl, rfl, rfl, rfl, rfl, rfl, rfl⟩ := ex
    obtain ⟨rfl, rfl, rfl, rfl, rfl, rfl, rfl, rfl, rfl, rfl, rfl, rfl, rfl, rfl⟩ := em'
    have v : ∀ k, k ≠ 14 → (upd H 14 0) k = H k := fun k a => pk_un a
    refine ⟨?_, Or.inr ⟨rfl, rfl, ⟨⟨pk_us.symm, rfl, ?_⟩, TN_of hN (fun k h1 h2 => ?_), BK_of hK ?_⟩, DY_of hD0 hG (fun x _ => rfl) (fun k h1 h2 => ?_)⟩⟩
    · rw [m4]
    · rw [v 19 (by decide)]
      exact m5
    · rw [v k (by omega), m3 k (by omega)]
    · rw [v 42 (by decide), m3 42 (by decide)]
    · rw [v k (by omega), m3 k (by omega)]
end
