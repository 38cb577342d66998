/-! what order leaves alone -/
def FZ (X w : Nat → Int32) : Prop := ∀ x, x < 42 ∨ 378 ≤ x → w x = X x
theorem FZ_copy {X w : Nat → Int32} {fr to : Int32} (h : FZ X w) (a0 : 0 ≤ fr.toInt) (a1 : fr.toInt ≤ 1260) (b0 : 42 ≤ to.toInt) (b1 : to.toInt ≤ 336) (hd : fr.toInt + 42 ≤ to.toInt) : FZ X (f_m_copy w fr to) := by
  have cs := copy_spec w a0 a1 (to := to) (by omega) (by omega) (Or.inl hd)
  exact fun x hx => (cs.2 x (by omega)).trans (h x hx)
theorem passF_loop {f10 f8 f11 : Nat → Int32} {h v : Int32} (h0 : 0 ≤ h.toInt) (h1 : h.toInt ≤ 1260) (v0 : 0 ≤ v.toInt) (v1 : v.toInt < 7) : ∀ (n : Nat) (i on : Int32) (G w : Nat → Int32), GI G → ∀ x : Nat, ¬ (h.toInt ≤ x ∧ (x : Int) < h.toInt + 42) → (f_m_passes_5 f10 f8 f11 h v n i on G w).2.2.2 x = w x := by
  have eh := clI h0
  have ev := clI v0
  have ax : ∀ (a : Int32) (m : Nat), a.toInt = (m : Int) → m < 42 → ∀ c : Int32, 0 ≤ c.toInt → c.toInt < 7 → (h + a + c).toNatClampNeg = h.toNatClampNeg + m + c.toNatClampNeg := by
    intro a m ha hm c c0 c1
    have e1 := i_add (a := h) (b := a) (by omega) (by omega)
    rw [ixn (by omega) c0 (by omega), ixn h0 (by omega) (by omega), i_clamp a, ha]
    rfl
  have ay : ∀ (a : Int32) (m : Nat), a.toInt = (m : Int) → m < 42 → (h + a).toNatClampNeg = h.toNatClampNeg + m := by
    intro a m ha hm
    rw [ixn h0 (by omega) (by omega), i_clamp a, ha]
    rfl
  intro n
  induction n with
  | zero => intro i on G w hG x hx; rfl
  | succ n ih =>
    intro i on G w hG x hx
    rw [f_m_passes_5_s]
    by_cases c1 : f11 v.toNatClampNeg < i
    · rw [if_pos c1]
    · rw [if_neg c1]
      by_cases c2 : on = 0
      · rw [if_pos c2]
      · rw [if_neg c2, ax 27 27 rfl (by decide) v v0 v1]
        obtain ⟨w0, w1⟩ := p_whoIsAt (f0 := w) (b_ := i) hG h0 h1
        have g5 := hG.2.2.2.1.2
        generalize f_m_whoIsAt G w h i = c at w0 w1 ⊢
        by_cases c3 : c = -1
        · rw [if_pos c3, ih _ _ _ _ hG x hx, pk_un (by omega)]
        · have c0 : 0 ≤ c.toInt := by
            rw [i_eq, i_m1] at c3
            omega
          have ec := clI c0
          have hq : GI (f_m_quarrels G f10 c (w (h + 12 + c).toNatClampNeg) (w (h + 0 + c).toNatClampNeg) (f8 i.toNatClampNeg)) := GI.of p_quarrels hG
          generalize f_m_quarrels G f10 c (w (h + 12 + c).toNatClampNeg) (w (h + 0 + c).toNatClampNeg) (f8 i.toNatClampNeg) = H at hq ⊢
          rw [if_neg c3, ax 0 0 rfl (by decide) c c0 (by omega), ax 6 6 rfl (by decide) c c0 (by omega), ay 19 19 rfl (by decide), ay 18 18 rfl (by decide)]
          by_cases d1 : H 33 = 0
          · rw [if_pos d1]
            by_cases d2 : H 32 ≤ 0
            · rw [if_pos d2]
              by_cases d3 : H 34 = 0
              · rw [if_pos d3, ih _ _ _ _ hq x hx, pk_un (by omega), pk_un (by omega), pk_un (by omega)]
              · rw [if_neg d3, ih _ _ _ _ hq x hx, pk_un (by omega), pk_un (by omega), pk_un (by omega)]
            · rw [if_neg d2]
              by_cases d3 : H 34 = 0
              · rw [if_pos d3, ih _ _ _ _ hq x hx, pk_un (by omega), pk_un (by omega), pk_un (by omega), pk_un (by omega), pk_un (by omega)]
              · rw [if_neg d3, ih _ _ _ _ hq x hx, pk_un (by omega), pk_un (by omega), pk_un (by omega), pk_un (by omega), pk_un (by omega)]
          · rw [if_neg d1]
            by_cases d3 : H 34 = 0
            · rw [if_pos d3, ih _ _ _ _ hq x hx, pk_un (by omega), pk_un (by omega), pk_un (by omega)]
            · rw [if_neg d3, ih _ _ _ _ hq x hx, pk_un (by omega), pk_un (by omega), pk_un (by omega)]
theorem FZ_pass {X G w f10 f8 f11 f12 u1 u2 : Nat → Int32} {h v : Int32} (hG : GI G) (hz : FZ X w) (h0 : 42 ≤ h.toInt) (h1 : h.toInt ≤ 336) (v0 : 0 ≤ v.toInt) (v1 : v.toInt < 7) (e : f_m_passes G w f10 f8 f11 f12 h v = (u1, u2)) : FZ X u2 := by
  intro x hx
  have eh := clI (c := h) (by omega)
  have ev := clI v0
  have k := passF_loop (f10 := f10) (f8 := f8) (f11 := f11) (h := h) (v := v) (by omega) (by omega) v0 v1 10 0 1 G w hG x (by omega)
  unfold f_m_passes at e
  have i20 : (20 : Int32).toInt = 20 := rfl
  have i34 : (34 : Int32).toInt = 34 := rfl
  have s20 := i_add (a := h) (b := 20) (by omega) (by omega)
  have s34 := i_add (a := h) (b := 34) (by omega) (by omega)
  have e20 : (h + 20 + v).toNatClampNeg = h.toNatClampNeg + 20 + v.toNatClampNeg := by
    rw [ixn (by omega) v0 (by omega), ixn (by omega) (by decide) (by omega)]
    rfl
  have e34 : (h + 34 + v).toNatClampNeg = h.toNatClampNeg + 34 + v.toNatClampNeg := by
    rw [ixn (by omega) v0 (by omega), ixn (by omega) (by decide) (by omega)]
    rfl
  rw [e20, e34] at e
  generalize f_m_passes_5 f10 f8 f11 h v 10 0 1 G w = z at e k
  obtain ⟨z1, z2, z3, z4⟩ := z
  dsimp (config := { etaStruct := .none }) only at e k
  have fin : ∀ (a b : Int32) (y : Nat → Int32), (z3, upd (upd z4 (h.toNatClampNeg + 20 + v.toNatClampNeg) a) (h.toNatClampNeg + 34 + v.toNatClampNeg) b) = (u1, u2) → u2 x = X x := by
    intro a b y e
    cases e
    rw [pk_un (by omega), pk_un (by omega), k]
    exact hz x hx
  by_cases c1 : z2 = 0
  · rw [if_pos c1, if_pos c1] at e
    exact fin _ _ w e
  · rw [if_neg c1] at e
    by_cases c2 : f12 v.toNatClampNeg < z4 (h + 19).toNatClampNeg
    · rw [if_pos c2, if_neg c1] at e
      exact fin _ _ w e
    · rw [if_neg c2, if_neg c1] at e
      exact fin _ _ w e
theorem b253 {l : Int32} : ∀ (n : Nat) (i : Int32) (m0 m1 m2 m3 : Nat → Int32) (r0 : Int32) (r1 r2 r3 r4 : Nat → Int32), f_m_findOrder_253 l n i m0 m1 m2 m3 = (r0, r1, r2, r3, r4) → r2 = m1 := by
  intro n
  induction n with
  | zero =>
    intro i m0 m1 m2 m3 r0 r1 r2 r3 r4 e
    replace e : (i, m0, m1, m2, m3) = (r0, r1, r2, r3, r4) := e
    cases e
    rfl
  | succ n ih =>
    intro i m0 m1 m2 m3 r0 r1 r2 r3 r4 e
    rw [f_m_findOrder_253_s] at e
    by_cases c : (l + 1) ≤ i
    · rw [if_pos c] at e
      cases e
      rfl
    · rw [if_neg c] at e
      exact ih _ _ _ _ _ _ _ _ _ _ e
