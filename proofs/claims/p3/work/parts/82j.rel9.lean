/-! what the calls leave alike -/
theorem nI_cl {x : Int32} (h : 0 ≤ x.toInt) : nI x.toNatClampNeg = x := by
  have h2 := Int32.toInt_lt x
  rw [i_eq, i_clamp, nI_toInt (by omega)]
  omega
theorem has_or_all : ∀ (n : Fin 64) (a b : Fin 6), f_m_has (nI n.val ||| (1 <<< (nI a.val &&& 31))) (nI b.val) = (if b = a then 1 else f_m_has (nI n.val) (nI b.val)) ∧ 0 ≤ (nI n.val ||| (1 <<< (nI a.val &&& 31))).toInt ∧ (nI n.val ||| (1 <<< (nI a.val &&& 31))).toInt < 64 := by decide +kernel
theorem has_or {s c d : Int32} (s0 : 0 ≤ s.toInt) (s1 : s.toInt < 64) (c0 : 0 ≤ c.toInt) (c1 : c.toInt < 6) (d0 : 0 ≤ d.toInt) (d1 : d.toInt < 6) : (¬ f_m_has (s ||| (1 <<< (c &&& 31))) d = 0 → d = c ∨ ¬ f_m_has s d = 0) ∧ 0 ≤ (s ||| (1 <<< (c &&& 31))).toInt ∧ (s ||| (1 <<< (c &&& 31))).toInt < 64 := by
  have k := has_or_all ⟨s.toNatClampNeg, clN s0 s1⟩ ⟨c.toNatClampNeg, clN c0 c1⟩ ⟨d.toNatClampNeg, clN d0 d1⟩
  dsimp only at k
  rw [nI_cl s0, nI_cl c0, nI_cl d0] at k
  refine ⟨fun h => ?_, k.2⟩
  by_cases q : d.toNatClampNeg = c.toNatClampNeg
  · exact Or.inl (cl_inj d0 c0 q)
  · refine Or.inr ?_
    rw [k.1, if_neg (fun z => q (congrArg Fin.val z))] at h
    exact h
def TX (q1 q2 : Int32) (ftx G f13 : Nat → Int32) : Prop := q1 = G 14 ∧ ftx = f13 ∧ q2 = G 19
def TN (t0 t1 t2 t3 t4 : Int32) (fta ftb ftc ftd fte G f8 f9 f10 f11 f12 : Nat → Int32) : Prop := t0 = G 3 ∧ t1 = G 4 ∧ t2 = G 5 ∧ t3 = G 6 ∧ t4 = G 7 ∧ 1 ≤ (G 4).toInt ∧ (G 7 = 0 ∨ G 7 = 1) ∧ AG fta f8 (G 3).toInt 1 60 ∧ AG ftb f9 (G 5).toInt 0 99 ∧ AF ftc f10 (G 5).toInt (G 4).toInt ∧ AG ftd f11 (G 6).toInt 0 ((G 3).toInt - 1) ∧ AG fte f12 (G 6).toInt 1 300
def SN (q12 : Int32) (fn G w : Nat → Int32) : Prop := ST fn w 0 0 ∧ BI G w 0 ∧ q12 = w 41
def BK (b0 : Int32) (fba fbb G f43 f44 : Nat → Int32) : Prop := b0 = G 42 ∧ fba = f43 ∧ fbb = f44
theorem TX_of {q1 q2 : Int32} {ftx G H f13 : Nat → Int32} (h : TX q1 q2 ftx G f13) (e1 : H 14 = G 14) (e2 : H 19 = G 19) : TX q1 q2 ftx H f13 := by
  unfold TX
  rw [e1, e2]
  exact h
theorem TN_of {t0 t1 t2 t3 t4 : Int32} {fta ftb ftc ftd fte G H f8 f9 f10 f11 f12 : Nat → Int32} (h : TN t0 t1 t2 t3 t4 fta ftb ftc ftd fte G f8 f9 f10 f11 f12) (e : ∀ k, 3 ≤ k → k ≤ 7 → H k = G k) : TN t0 t1 t2 t3 t4 fta ftb ftc ftd fte H f8 f9 f10 f11 f12 := by
  unfold TN
  rw [e 3 (by decide) (by decide), e 4 (by decide) (by decide), e 5 (by decide) (by decide), e 6 (by decide) (by decide), e 7 (by decide) (by decide)]
  exact h
theorem BK_of {b0 : Int32} {fba fbb G H f43 f44 : Nat → Int32} (h : BK b0 fba fbb G f43 f44) (e : H 42 = G 42) : BK b0 fba fbb H f43 f44 := by
  unfold BK
  rw [e]
  exact h
theorem SN_of {q12 : Int32} {fn G H w u : Nat → Int32} (h : SN q12 fn G w) (e : ∀ x, x < 42 → u x = w x) (e3 : H 3 = G 3) (e4 : H 4 = G 4) (e5 : H 5 = G 5) (e6 : H 6 = G 6) : SN q12 fn H u := by
  refine ⟨ST_of h.1 (fun k hk => ?_), BI_of h.2.1 (fun k hk => ?_) e3 e4 e5 e6, by rw [e 41 (by decide)]; exact h.2.2⟩
  · rw [Nat.zero_add]
    exact e k (by omega)
  · rw [Nat.zero_add]
    exact e k (by omega)
/-- all that is alike but for the state, what can be undone and the images -/
def RS (q1 q2 : Int32) (ftx f13 : Nat → Int32) (t0 t1 t2 t3 t4 : Int32) (fta ftb ftc ftd fte f8 f9 f10 f11 f12 : Nat → Int32) (b0 : Int32) (fba fbb f43 f44 G : Nat → Int32) : Prop := TX q1 q2 ftx G f13 ∧ TN t0 t1 t2 t3 t4 fta ftb ftc ftd fte G f8 f9 f10 f11 f12 ∧ BK b0 fba fbb G f43 f44
theorem RS_of {q1 q2 : Int32} {ftx f13 : Nat → Int32} {t0 t1 t2 t3 t4 : Int32} {fta ftb ftc ftd fte f8 f9 f10 f11 f12 : Nat → Int32} {b0 : Int32} {fba fbb f43 f44 G H : Nat → Int32} (h : RS q1 q2 ftx f13 t0 t1 t2 t3 t4 fta ftb ftc ftd fte f8 f9 f10 f11 f12 b0 fba fbb f43 f44 G) (e : ∀ k, 3 ≤ k → k < 32 ∨ k = 42 → H k = G k) : RS q1 q2 ftx f13 t0 t1 t2 t3 t4 fta ftb ftc ftd fte f8 f9 f10 f11 f12 b0 fba fbb f43 f44 H :=
  ⟨TX_of h.1 (e 14 (by decide) (by decide)) (e 19 (by decide) (by decide)), TN_of h.2.1 (fun k a b => e k a (by omega)), BK_of h.2.2 (e 42 (by decide) (by decide))⟩
/-- the state, what can be undone, the images -/
def DY (q10 q12 p1 p2 : Int32) (fn fsh fim fis f1 G w : Nat → Int32) : Prop := SN q12 fn G w ∧ UR G p1 p2 fsh w ∧ IR G q10 fim fis f1 w
theorem DY_of {q10 q12 p1 p2 : Int32} {fn fsh fim fis f1 G H w u : Nat → Int32} (h : DY q10 q12 p1 p2 fn fsh fim fis f1 G w) (hG : GI G) (e : ∀ x, x < 42 ∨ 378 ≤ x → u x = w x) (eG : ∀ k, 2 ≤ k → k ≤ 6 → H k = G k) : DY q10 q12 p1 p2 fn fsh fim fis f1 H u := by
  have e2 := eG 2 (by decide) (by decide)
  have e3 := eG 3 (by decide) (by decide)
  have e4 := eG 4 (by decide) (by decide)
  have e5 := eG 5 (by decide) (by decide)
  have e6 := eG 6 (by decide) (by decide)
  exact ⟨SN_of h.1 (fun x hx => e x (by omega)) e3 e4 e5 e6, UR_of h.2.1 hG (fun x hx _ => e x (by omega)) e2 e3 e4 e5 e6, IR_of h.2.2 (fun x hx _ => e x (by omega)) e3 e4 e5 e6⟩
/-- a call that is remembered, then changes the state alone -/
theorem DY_go {q10 q12 q12' p1 p2 : Int32} {fn fn' fsh fim fis f1 G w : Nat → Int32} (h : DY q10 q12 p1 p2 fn fsh fim fis f1 G w) (hG : GI G) : ∃ (q1 q2 : Int32) (gsh H u : Nat → Int32), f_e_remember_x2 p1 p2 fsh fn = (q1, q2, gsh) ∧ f_m_minds G w = (H, u) ∧ (∀ k, k ≠ 2 → H k = G k) ∧ (∀ x, x < 462 → u x = w x) ∧ GI H ∧ SN q12 fn H u ∧ ∀ v : Nat → Int32, (∀ x, 42 ≤ x → v x = u x) → SN q12' fn' H v → DY q10 q12' q1 q2 fn' gsh fim fis f1 H v := by
  obtain ⟨⟨hS, hB, hq⟩, hU, hI⟩ := h
  obtain ⟨q1, q2, gsh, H, u, a1, a2, a3, a4, a5⟩ := remember_eq hG hU hS hB
  have e3 := a4 3 (by decide)
  have e4 := a4 4 (by decide)
  have e5 := a4 5 (by decide)
  have e6 := a4 6 (by decide)
  have gH : GI H := by
    obtain ⟨_, _, hh, _, _, m4⟩ := minds_spec (w := w) hG
    rw [hh] at a2
    obtain ⟨g1, g2⟩ := hG
    have q20 : (20 : Int32).toInt = 20 := rfl
    cases a2
    refine ⟨?_, by rw [e3, e4, e5, e6, a4 14 (by decide), a4 42 (by decide)]; exact g2⟩
    rcases m4 with ⟨_, z, _⟩ | ⟨z1, z, _⟩
    · rw [z, q20]
      omega
    · rw [z, i_a1 (by omega) (by omega)]
      omega
  refine ⟨q1, q2, gsh, H, u, a1, a2, a4, a5, gH, SN_of ⟨hS, hB, hq⟩ (fun x hx => a5 x (by omega)) e3 e4 e5 e6, fun v hv hs => ⟨hs, UR_of a3 gH (fun x hx _ => hv x (by omega)) rfl rfl rfl rfl rfl, IR_of hI (fun x h1 h2 => ?_) e3 e4 e5 e6⟩⟩
  rw [hv x (by omega), a5 x (by omega)]
