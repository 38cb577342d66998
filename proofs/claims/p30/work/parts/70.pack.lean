section
theorem bm32 {z : Int} (h1 : -2147483648 ≤ z) (h2 : z < 2147483648) : z.bmod (2 ^ 32) = z := by
  rw [Int.bmod_eq_of_le] <;> omega
theorem i_lt (a b : Int32) : a < b ↔ a.toInt < b.toInt := Int32.lt_iff_toInt_lt
theorem i_le (a b : Int32) : a ≤ b ↔ a.toInt ≤ b.toInt := Int32.le_iff_toInt_le
theorem i_eq (a b : Int32) : a = b ↔ a.toInt = b.toInt := Int32.toInt_inj.symm
theorem i_clamp (a : Int32) : a.toNatClampNeg = a.toInt.toNat := rfl
theorem i_m1 : (-1 : Int32).toInt = -1 := by decide
theorem i_upd (f : Nat → Int32) (k j : Nat) (x : Int32) : upd f k x j = if j = k then x else f j := rfl
theorem i_in (x y z : Int64) : f_m_in x y z = 0 ↔ ¬ (y.toInt ≤ x.toInt ∧ x.toInt ≤ z.toInt) := by
  unfold f_m_in
  rw [← Int64.le_iff_toInt_le, ← Int64.le_iff_toInt_le]
  by_cases h : lg_cmp x y < 0
  · rw [if_pos h]
    have h2 := (lg_cmp_lt x y).mp h
    refine ⟨fun _ q => ?_, fun _ => rfl⟩
    exact absurd q.1 (Int64.not_le.mpr h2)
  · rw [if_neg h]
    have h2 : y ≤ x := Int64.not_lt.mp (fun q => h ((lg_cmp_lt x y).mpr q))
    by_cases h3 : 0 < lg_cmp x z
    · rw [if_pos h3]
      have h4 := (lg_cmp_gt x z).mp h3
      exact ⟨fun _ q => absurd q.2 (Int64.not_le.mpr h4), fun _ => rfl⟩
    · rw [if_neg h3]
      have h4 : x ≤ z := Int64.not_lt.mp (fun q => h3 ((lg_cmp_gt x z).mpr q))
      exact ⟨fun q => absurd q (by decide), fun q => absurd ⟨h2, h4⟩ q⟩
theorem i_isCouple (G : Nat → Int32) (v : Int32) : f_m_isCouple G v = 0 ↔ ¬ (0 ≤ v.toInt ∧ v.toInt ≤ (G 5 - 1).toInt) := by
  unfold f_m_isCouple
  rw [i_in, Int32.toInt_toInt64, Int32.toInt_toInt64]
  exact Iff.rfl
theorem i_isBridge (G : Nat → Int32) (v : Int32) : f_m_isBridge G v = 0 ↔ ¬ (0 ≤ v.toInt ∧ v.toInt ≤ (G 3 - 1).toInt) := by
  unfold f_m_isBridge
  rw [i_in, Int32.toInt_toInt64, Int32.toInt_toInt64]
  exact Iff.rfl
theorem i_isTheme (G : Nat → Int32) (v : Int32) : f_m_isTheme G v = 0 ↔ ¬ (0 ≤ v.toInt ∧ v.toInt ≤ (G 4 - 1).toInt) := by
  unfold f_m_isTheme
  rw [i_in, Int32.toInt_toInt64, Int32.toInt_toInt64]
  exact Iff.rfl
theorem i_isBarge (G : Nat → Int32) (v : Int32) : f_m_isBarge G v = 0 ↔ ¬ (0 ≤ v.toInt ∧ v.toInt ≤ (G 6 - 1).toInt) := by
  unfold f_m_isBarge
  rw [i_in, Int32.toInt_toInt64, Int32.toInt_toInt64]
  exact Iff.rfl
def QG (G H : Nat → Int32) : Prop := ∀ k, k < 32 ∨ 36 ≤ k → H k = G k
theorem QG.refl (G : Nat → Int32) : QG G G := fun _ _ => rfl
theorem QG.trans {A B C : Nat → Int32} (h : QG A B) (q : QG B C) : QG A C := fun k hk => (q k hk).trans (h k hk)
theorem QG_upd {A B : Nat → Int32} {k : Nat} {x : Int32} (h : QG A B) (h1 : 32 ≤ k) (h2 : k < 36) : QG A (upd B k x) := fun j hj => (pk_un (by omega)).trans (h j hj)
theorem QGs {G H : Nat → Int32} (h : QG G H) : H 2 = G 2 ∧ H 3 = G 3 ∧ H 4 = G 4 ∧ H 5 = G 5 ∧ H 6 = G 6 ∧ H 14 = G 14 ∧ H 42 = G 42 := ⟨h 2 (by decide), h 3 (by decide), h 4 (by decide), h 5 (by decide), h 6 (by decide), h 14 (by decide), h 42 (by decide)⟩
def GI (G : Nat → Int32) : Prop := (0 ≤ (G 2).toInt ∧ (G 2).toInt ≤ 20) ∧ (0 ≤ (G 3).toInt ∧ (G 3).toInt ≤ 6) ∧ (0 ≤ (G 4).toInt ∧ (G 4).toInt ≤ 5) ∧ (0 ≤ (G 5).toInt ∧ (G 5).toInt ≤ 6) ∧ (0 ≤ (G 6).toInt ∧ (G 6).toInt ≤ 7) ∧ (0 ≤ (G 14).toInt ∧ (G 14).toInt ≤ 240) ∧ (0 ≤ (G 42).toInt ∧ (G 42).toInt ≤ 15)
theorem GI.of {G H : Nat → Int32} (q : QG G H) (h : GI G) : GI H := by
  obtain ⟨a, b, c, d, e, f, g⟩ := QGs q
  unfold GI
  rw [a, b, c, d, e, f, g]
  exact h
def QF (G H : Nat → Int32) : Prop := ∀ k, k < 32 ∨ k = 42 → H k = G k
theorem QG.w {G H : Nat → Int32} (h : QG G H) : QF G H := fun k hk => h k (by omega)
theorem QF.refl (G : Nat → Int32) : QF G G := fun _ _ => rfl
theorem QF.trans {A B C : Nat → Int32} (h : QF A B) (q : QF B C) : QF A C := fun k hk => (q k hk).trans (h k hk)
theorem QF_upd {A B : Nat → Int32} {k : Nat} {x : Int32} (h : QF A B) (h1 : 32 ≤ k) (h2 : k ≠ 42) : QF A (upd B k x) := fun j hj => (pk_un (by omega)).trans (h j hj)
theorem QFs {G H : Nat → Int32} (h : QF G H) : H 2 = G 2 ∧ H 3 = G 3 ∧ H 4 = G 4 ∧ H 5 = G 5 ∧ H 6 = G 6 ∧ H 14 = G 14 ∧ H 42 = G 42 := ⟨h 2 (by decide), h 3 (by decide), h 4 (by decide), h 5 (by decide), h 6 (by decide), h 14 (by decide), h 42 (by decide)⟩
theorem GI.off {G H : Nat → Int32} (q : QF G H) (h : GI G) : GI H := by
  obtain ⟨a, b, c, d, e, f, g⟩ := QFs q
  unfold GI
  rw [a, b, c, d, e, f, g]
  exact h
theorem GI_upd {G : Nat → Int32} {k : Nat} {x : Int32} (h : GI G) (hk : k ≠ 2 ∧ k ≠ 3 ∧ k ≠ 4 ∧ k ≠ 5 ∧ k ≠ 6 ∧ k ≠ 14 ∧ k ≠ 42) : GI (upd G k x) := by
  unfold GI
  rw [pk_un (f := G) hk.1.symm, pk_un (f := G) hk.2.1.symm, pk_un (f := G) hk.2.2.1.symm, pk_un (f := G) hk.2.2.2.1.symm, pk_un (f := G) hk.2.2.2.2.1.symm, pk_un (f := G) hk.2.2.2.2.2.1.symm, pk_un (f := G) hk.2.2.2.2.2.2.symm]
  exact h
theorem GI_u2 {G : Nat → Int32} {x : Int32} (h : GI G) (h1 : 0 ≤ x.toInt) (h2 : x.toInt ≤ 20) : GI (upd G 2 x) := by
  obtain ⟨⟨a1, a2⟩, ⟨b1, b2⟩, ⟨c1, c2⟩, ⟨d1, d2⟩, ⟨e1, e2⟩, ⟨f1, f2⟩, ⟨g1, g2⟩⟩ := h
  unfold GI
  simp only [i_upd, Nat.reduceEqDiff, reduceIte]
  omega
theorem GI_u3 {G : Nat → Int32} {x : Int32} (h : GI G) (h1 : 0 ≤ x.toInt) (h2 : x.toInt ≤ 6) : GI (upd G 3 x) := by
  obtain ⟨⟨a1, a2⟩, ⟨b1, b2⟩, ⟨c1, c2⟩, ⟨d1, d2⟩, ⟨e1, e2⟩, ⟨f1, f2⟩, ⟨g1, g2⟩⟩ := h
  unfold GI
  simp only [i_upd, Nat.reduceEqDiff, reduceIte]
  omega
theorem GI_u4 {G : Nat → Int32} {x : Int32} (h : GI G) (h1 : 0 ≤ x.toInt) (h2 : x.toInt ≤ 5) : GI (upd G 4 x) := by
  obtain ⟨⟨a1, a2⟩, ⟨b1, b2⟩, ⟨c1, c2⟩, ⟨d1, d2⟩, ⟨e1, e2⟩, ⟨f1, f2⟩, ⟨g1, g2⟩⟩ := h
  unfold GI
  simp only [i_upd, Nat.reduceEqDiff, reduceIte]
  omega
theorem GI_u5 {G : Nat → Int32} {x : Int32} (h : GI G) (h1 : 0 ≤ x.toInt) (h2 : x.toInt ≤ 6) : GI (upd G 5 x) := by
  obtain ⟨⟨a1, a2⟩, ⟨b1, b2⟩, ⟨c1, c2⟩, ⟨d1, d2⟩, ⟨e1, e2⟩, ⟨f1, f2⟩, ⟨g1, g2⟩⟩ := h
  unfold GI
  simp only [i_upd, Nat.reduceEqDiff, reduceIte]
  omega
theorem GI_u6 {G : Nat → Int32} {x : Int32} (h : GI G) (h1 : 0 ≤ x.toInt) (h2 : x.toInt ≤ 7) : GI (upd G 6 x) := by
  obtain ⟨⟨a1, a2⟩, ⟨b1, b2⟩, ⟨c1, c2⟩, ⟨d1, d2⟩, ⟨e1, e2⟩, ⟨f1, f2⟩, ⟨g1, g2⟩⟩ := h
  unfold GI
  simp only [i_upd, Nat.reduceEqDiff, reduceIte]
  omega
theorem GI_u14 {G : Nat → Int32} {x : Int32} (h : GI G) (h1 : 0 ≤ x.toInt) (h2 : x.toInt ≤ 240) : GI (upd G 14 x) := by
  obtain ⟨⟨a1, a2⟩, ⟨b1, b2⟩, ⟨c1, c2⟩, ⟨d1, d2⟩, ⟨e1, e2⟩, ⟨f1, f2⟩, ⟨g1, g2⟩⟩ := h
  unfold GI
  simp only [i_upd, Nat.reduceEqDiff, reduceIte]
  omega
theorem GI_u42 {G : Nat → Int32} {x : Int32} (h : GI G) (h1 : 0 ≤ x.toInt) (h2 : x.toInt ≤ 15) : GI (upd G 42 x) := by
  obtain ⟨⟨a1, a2⟩, ⟨b1, b2⟩, ⟨c1, c2⟩, ⟨d1, d2⟩, ⟨e1, e2⟩, ⟨f1, f2⟩, ⟨g1, g2⟩⟩ := h
  unfold GI
  simp only [i_upd, Nat.reduceEqDiff, reduceIte]
  omega
def OKv (i : Nat) (x : Int32) : Prop := (12 ≤ i % 42 ∧ i % 42 < 18 → 0 ≤ x.toInt ∧ x.toInt ≤ 4) ∧ (i % 42 = 41 → 0 ≤ x.toInt)
theorem OKv.mk {i : Nat} {x : Int32} (h : (12 ≤ i % 42 ∧ i % 42 < 18 → 0 ≤ x.toInt ∧ x.toInt ≤ 4) ∧ (i % 42 = 41 → 0 ≤ x.toInt)) : OKv i x := h
theorem OKv.out {i : Nat} {x : Int32} (h : ¬ (12 ≤ i % 42 ∧ i % 42 < 18) ∧ ¬ i % 42 = 41) : OKv i x := ⟨fun q => absurd q h.1, fun q => absurd q h.2⟩
theorem OKv.z {i : Nat} : OKv i 0 := ⟨fun _ => by decide, fun _ => by decide⟩
theorem OKv.same {i j : Nat} {x : Int32} (e : i % 42 = j % 42) (h : OKv j x) : OKv i x := by
  unfold OKv at h ⊢
  rw [e]
  exact h
def WI (w : Nat → Int32) : Prop := ∀ i, OKv i (w i)
theorem WI_upd {w : Nat → Int32} {i : Nat} {x : Int32} (h : WI w) (hx : OKv i x) : WI (upd w i x) := by
  intro j
  by_cases q : j = i
  · subst q
    rw [pk_us]
    exact hx
  · rw [pk_un q]
    exact h j
def RI (f : Nat → Int32) : Prop := ∀ i, 0 ≤ (f i).toInt ∧ (f i).toInt ≤ 5
theorem RI_upd {w : Nat → Int32} {i : Nat} {x : Int32} (h : RI w) (h1 : 0 ≤ x.toInt) (h2 : x.toInt ≤ 5) : RI (upd w i x) := by
  intro j
  by_cases q : j = i
  · subst q
    rw [pk_us]
    exact ⟨h1, h2⟩
  · rw [pk_un q]
    exact h j
set_option maxHeartbeats 4000000 in
theorem s_in {x : Int64} {y : Int64} {z : Int64} : S_m_in x y z := by
  unfold S_m_in
  refine ⟨fun c_1 => ?_, fun c_1 => ?_⟩
  · exact trivial
  · skip
    try simp (disch := omega) only [↓i_in, ↓i_isCouple, ↓i_isBridge, ↓i_isTheme, ↓i_isBarge, i_lt, i_le, i_eq, i_clamp, i_upd, i_m1, Int32.toInt_toInt64, Int32.toInt_add, Int32.toInt_sub, Int32.toInt_mul, bm32, Int32.reduceToInt, Int64.reduceToInt, Nat.reduceLT, Nat.reduceEqDiff, reduceIte] at c_1
    refine ⟨fun c_2 => ?_, fun c_2 => ?_⟩
    · exact trivial
    · exact trivial
set_option maxHeartbeats 4000000 in
theorem s_has {s_ : Int32} {k_ : Int32} : S_m_has s_ k_ := by
  unfold S_m_has
  refine ⟨fun c_1 => ?_, fun c_1 => ?_⟩
  · exact trivial
  · exact trivial
set_option maxHeartbeats 4000000 in
theorem s_isBridge {G : Nat → Int32} {v_ : Int32} : S_m_isBridge G v_ := by
  unfold S_m_isBridge
  refine ⟨s_in, ?_⟩
  exact trivial
set_option maxHeartbeats 4000000 in
theorem s_isCouple {G : Nat → Int32} {v_ : Int32} : S_m_isCouple G v_ := by
  unfold S_m_isCouple
  refine ⟨s_in, ?_⟩
  exact trivial
set_option maxHeartbeats 4000000 in
theorem s_isTheme {G : Nat → Int32} {v_ : Int32} : S_m_isTheme G v_ := by
  unfold S_m_isTheme
  refine ⟨s_in, ?_⟩
  exact trivial
set_option maxHeartbeats 4000000 in
theorem s_isBarge {G : Nat → Int32} {v_ : Int32} : S_m_isBarge G v_ := by
  unfold S_m_isBarge
  refine ⟨s_in, ?_⟩
  exact trivial
set_option maxHeartbeats 4000000 in
theorem s_isDone {f0 : Nat → Int32} {c_ : Int32} : S_m_isDone f0 c_ := by
  unfold S_m_isDone
  refine ⟨s_has, ?_⟩
  exact trivial
set_option maxHeartbeats 4000000 in
theorem s_fails {G : Nat → Int32} {k_ : Int32} {p_ : Int32} : S_m_fails G k_ p_ := by
  unfold S_m_fails
  exact trivial
set_option maxHeartbeats 4000000 in
theorem s_fault {G : Nat → Int32} : S_m_fault G := by
  unfold S_m_fault
  exact trivial
set_option maxHeartbeats 4000000 in
theorem s_tear {G : Nat → Int32} : S_m_tear G := by
  unfold S_m_tear
  exact trivial
set_option maxHeartbeats 4000000 in
theorem s_seed {f0 : Nat → Int32} {v_ : Int32} : S_m_seed f0 v_ := by
  unfold S_m_seed
  refine ⟨fun c_1 => ?_, fun c_1 => ?_⟩
  · exact trivial
  · exact trivial
set_option maxHeartbeats 4000000 in
theorem sl_ones_4 {s_ : Int32} {K : Int32 → Int32 → Prop} (hK : ∀ w_1l2 w_1l1, True → K w_1l2 w_1l1) : ∀ (n : Nat) w_1l2 w_1l1, True → S_m_ones_4 s_ K n w_1l2 w_1l1 := by
  intro n
  induction n with
  | zero => intro w_1l2 w_1l1 hI; exact trivial
  | succ n ih =>
    intro w_1l2 w_1l1 hI
    rw [S_m_ones_4_s]
    have hI0 := hI
    refine ⟨fun c_1 => ?_, fun c_1 => ?_⟩
    · skip
      try simp (disch := omega) only [↓i_in, ↓i_isCouple, ↓i_isBridge, ↓i_isTheme, ↓i_isBarge, i_lt, i_le, i_eq, i_clamp, i_upd, i_m1, Int32.toInt_toInt64, Int32.toInt_add, Int32.toInt_sub, Int32.toInt_mul, bm32, Int32.reduceToInt, Int64.reduceToInt, Nat.reduceLT, Nat.reduceEqDiff, reduceIte] at c_1
      exact hK w_1l2 w_1l1 hI
    · skip
      try simp (disch := omega) only [↓i_in, ↓i_isCouple, ↓i_isBridge, ↓i_isTheme, ↓i_isBarge, i_lt, i_le, i_eq, i_clamp, i_upd, i_m1, Int32.toInt_toInt64, Int32.toInt_add, Int32.toInt_sub, Int32.toInt_mul, bm32, Int32.reduceToInt, Int64.reduceToInt, Nat.reduceLT, Nat.reduceEqDiff, reduceIte] at c_1
      exact ih (w_1l2 + 1) (w_1l1 + ((s_ >>> (w_1l2 &&& 31)) &&& 1)) trivial
set_option maxHeartbeats 4000000 in
theorem s_ones {s_ : Int32} : S_m_ones s_ := by
  unfold S_m_ones
  refine sl_ones_4 ?_ (((6 : Int32).toInt - (0 : Int32).toInt).toNat + 1) 0 0 trivial
  intro w_1l2 w_1l1 i_1
  exact trivial
set_option maxHeartbeats 4000000 in
theorem sl_copy_2 {from_ : Int32} {to_ : Int32} {K : Int32 → (Nat → Int32) → Prop} (h_0 : 0 ≤ from_.toInt) (h_1 : from_.toInt ≤ 1260) (h_2 : 0 ≤ to_.toInt) (h_3 : to_.toInt ≤ 1260) (hK : ∀ w_1l3 w_1m0, ((0 ≤ w_1l3.toInt) ∧ (w_1l3.toInt ≤ 42)) → K w_1l3 w_1m0) : ∀ (n : Nat) w_1l3 w_1m0, ((0 ≤ w_1l3.toInt) ∧ (w_1l3.toInt ≤ 42)) → S_m_copy_2 from_ to_ K n w_1l3 w_1m0 := by
  intro n
  induction n with
  | zero => intro w_1l3 w_1m0 hI; exact trivial
  | succ n ih =>
    intro w_1l3 w_1m0 hI
    rw [S_m_copy_2_s]
    have hI0 := hI
    obtain ⟨i_1, i_2⟩ := hI0
    refine ⟨fun c_3 => ?_, fun c_3 => ?_⟩
    · skip
      try simp (disch := omega) only [↓i_in, ↓i_isCouple, ↓i_isBridge, ↓i_isTheme, ↓i_isBarge, i_lt, i_le, i_eq, i_clamp, i_upd, i_m1, Int32.toInt_toInt64, Int32.toInt_add, Int32.toInt_sub, Int32.toInt_mul, bm32, Int32.reduceToInt, Int64.reduceToInt, Nat.reduceLT, Nat.reduceEqDiff, reduceIte] at c_3
      exact hK w_1l3 w_1m0 hI
    · skip
      try simp (disch := omega) only [↓i_in, ↓i_isCouple, ↓i_isBridge, ↓i_isTheme, ↓i_isBarge, i_lt, i_le, i_eq, i_clamp, i_upd, i_m1, Int32.toInt_toInt64, Int32.toInt_add, Int32.toInt_sub, Int32.toInt_mul, bm32, Int32.reduceToInt, Int64.reduceToInt, Nat.reduceLT, Nat.reduceEqDiff, reduceIte] at c_3
      refine ⟨vp_in_iff.mpr (by first | omega | (simp (disch := omega) only [↓i_in, ↓i_isCouple, ↓i_isBridge, ↓i_isTheme, ↓i_isBarge, i_lt, i_le, i_eq, i_clamp, i_upd, i_m1, Int32.toInt_toInt64, Int32.toInt_add, Int32.toInt_sub, Int32.toInt_mul, bm32, Int32.reduceToInt, Int64.reduceToInt, Nat.reduceLT, Nat.reduceEqDiff, reduceIte] <;> omega)), ?_⟩
      refine ⟨vp_in_iff.mpr (by first | omega | (simp (disch := omega) only [↓i_in, ↓i_isCouple, ↓i_isBridge, ↓i_isTheme, ↓i_isBarge, i_lt, i_le, i_eq, i_clamp, i_upd, i_m1, Int32.toInt_toInt64, Int32.toInt_add, Int32.toInt_sub, Int32.toInt_mul, bm32, Int32.reduceToInt, Int64.reduceToInt, Nat.reduceLT, Nat.reduceEqDiff, reduceIte] <;> omega)), ?_⟩
      exact ih (w_1l3 + 1) (upd w_1m0 ((to_ + w_1l3) : Int32).toNatClampNeg (w_1m0 ((from_ + w_1l3) : Int32).toNatClampNeg)) (⟨(by first | omega | (simp (disch := omega) only [↓i_in, ↓i_isCouple, ↓i_isBridge, ↓i_isTheme, ↓i_isBarge, i_lt, i_le, i_eq, i_clamp, i_upd, i_m1, Int32.toInt_toInt64, Int32.toInt_add, Int32.toInt_sub, Int32.toInt_mul, bm32, Int32.reduceToInt, Int64.reduceToInt, Nat.reduceLT, Nat.reduceEqDiff, reduceIte] <;> omega)), (by first | omega | (simp (disch := omega) only [↓i_in, ↓i_isCouple, ↓i_isBridge, ↓i_isTheme, ↓i_isBarge, i_lt, i_le, i_eq, i_clamp, i_upd, i_m1, Int32.toInt_toInt64, Int32.toInt_add, Int32.toInt_sub, Int32.toInt_mul, bm32, Int32.reduceToInt, Int64.reduceToInt, Nat.reduceLT, Nat.reduceEqDiff, reduceIte] <;> omega))⟩)
set_option maxHeartbeats 4000000 in
theorem s_copy {f0 : Nat → Int32} {from_ : Int32} {to_ : Int32} (h_0 : 0 ≤ from_.toInt) (h_1 : from_.toInt ≤ 1260) (h_2 : 0 ≤ to_.toInt) (h_3 : to_.toInt ≤ 1260) : S_m_copy f0 from_ to_ := by
  unfold S_m_copy
  refine sl_copy_2 (by first | omega | (simp (disch := omega) only [↓i_in, ↓i_isCouple, ↓i_isBridge, ↓i_isTheme, ↓i_isBarge, i_lt, i_le, i_eq, i_clamp, i_upd, i_m1, Int32.toInt_toInt64, Int32.toInt_add, Int32.toInt_sub, Int32.toInt_mul, bm32, Int32.reduceToInt, Int64.reduceToInt, Nat.reduceLT, Nat.reduceEqDiff, reduceIte] <;> omega)) (by first | omega | (simp (disch := omega) only [↓i_in, ↓i_isCouple, ↓i_isBridge, ↓i_isTheme, ↓i_isBarge, i_lt, i_le, i_eq, i_clamp, i_upd, i_m1, Int32.toInt_toInt64, Int32.toInt_add, Int32.toInt_sub, Int32.toInt_mul, bm32, Int32.reduceToInt, Int64.reduceToInt, Nat.reduceLT, Nat.reduceEqDiff, reduceIte] <;> omega)) (by first | omega | (simp (disch := omega) only [↓i_in, ↓i_isCouple, ↓i_isBridge, ↓i_isTheme, ↓i_isBarge, i_lt, i_le, i_eq, i_clamp, i_upd, i_m1, Int32.toInt_toInt64, Int32.toInt_add, Int32.toInt_sub, Int32.toInt_mul, bm32, Int32.reduceToInt, Int64.reduceToInt, Nat.reduceLT, Nat.reduceEqDiff, reduceIte] <;> omega)) (by first | omega | (simp (disch := omega) only [↓i_in, ↓i_isCouple, ↓i_isBridge, ↓i_isTheme, ↓i_isBarge, i_lt, i_le, i_eq, i_clamp, i_upd, i_m1, Int32.toInt_toInt64, Int32.toInt_add, Int32.toInt_sub, Int32.toInt_mul, bm32, Int32.reduceToInt, Int64.reduceToInt, Nat.reduceLT, Nat.reduceEqDiff, reduceIte] <;> omega)) ?_ (((42 : Int32).toInt - (0 : Int32).toInt).toNat + 1) 0 f0 (⟨(by first | omega | (simp (disch := omega) only [↓i_in, ↓i_isCouple, ↓i_isBridge, ↓i_isTheme, ↓i_isBarge, i_lt, i_le, i_eq, i_clamp, i_upd, i_m1, Int32.toInt_toInt64, Int32.toInt_add, Int32.toInt_sub, Int32.toInt_mul, bm32, Int32.reduceToInt, Int64.reduceToInt, Nat.reduceLT, Nat.reduceEqDiff, reduceIte] <;> omega)), (by first | omega | (simp (disch := omega) only [↓i_in, ↓i_isCouple, ↓i_isBridge, ↓i_isTheme, ↓i_isBarge, i_lt, i_le, i_eq, i_clamp, i_upd, i_m1, Int32.toInt_toInt64, Int32.toInt_add, Int32.toInt_sub, Int32.toInt_mul, bm32, Int32.reduceToInt, Int64.reduceToInt, Nat.reduceLT, Nat.reduceEqDiff, reduceIte] <;> omega))⟩)
  intro w_1l3 w_1m0 i_1
  obtain ⟨i_2, i_3⟩ := i_1
  exact trivial
set_option maxHeartbeats 4000000 in
theorem s_letterAt {G : Nat → Int32} {f13 : Nat → Int32} {k_ : Int32} (h_0 : (G 14).toInt ≤ 240) (h_1 : 0 ≤ k_.toInt) : S_m_letterAt G f13 k_ := by
  unfold S_m_letterAt
  refine ⟨fun c_1 => ?_, fun c_1 => ?_⟩
  · exact trivial
  · skip
    try simp (disch := omega) only [↓i_in, ↓i_isCouple, ↓i_isBridge, ↓i_isTheme, ↓i_isBarge, i_lt, i_le, i_eq, i_clamp, i_upd, i_m1, Int32.toInt_toInt64, Int32.toInt_add, Int32.toInt_sub, Int32.toInt_mul, bm32, Int32.reduceToInt, Int64.reduceToInt, Nat.reduceLT, Nat.reduceEqDiff, reduceIte] at c_1
    refine ⟨vp_in_iff.mpr (by first | omega | (simp (disch := omega) only [↓i_in, ↓i_isCouple, ↓i_isBridge, ↓i_isTheme, ↓i_isBarge, i_lt, i_le, i_eq, i_clamp, i_upd, i_m1, Int32.toInt_toInt64, Int32.toInt_add, Int32.toInt_sub, Int32.toInt_mul, bm32, Int32.reduceToInt, Int64.reduceToInt, Nat.reduceLT, Nat.reduceEqDiff, reduceIte] <;> omega)), ?_⟩
    exact trivial
end
section
theorem rem32 {a d : Int32} (ha : 0 ≤ a.toInt) (hd : 0 < d.toInt) : (a - a / d * d).toInt = a.toInt % d.toInt := by
  have hne : d ≠ -1 := by
    intro h
    rw [h] at hd
    exact absurd hd (by decide)
  have hq : (a / d).toInt = a.toInt / d.toInt := by
    rw [Int32.toInt_div_of_ne_right a d hne, Int.tdiv_eq_ediv_of_nonneg ha]
  have h1 := Int.emod_add_mul_ediv a.toInt d.toInt
  have h2 := Int.emod_nonneg a.toInt (show d.toInt ≠ 0 by omega)
  have h3 := Int.emod_lt_of_pos a.toInt hd
  have h4 := a.toInt_lt
  have h5 : 0 ≤ d.toInt * (a.toInt / d.toInt) := Int.mul_nonneg (by omega) (Int.ediv_nonneg ha (by omega))
  have hm : (a / d * d).toInt = d.toInt * (a.toInt / d.toInt) := by
    rw [Int32.toInt_mul, hq, Int.mul_comm]
    exact bm32 (by omega) (by omega)
  rw [Int32.toInt_sub, hm]
  refine (bm32 (by omega) (by omega)).trans (by omega)
theorem bm64 {z : Int} (h1 : -9223372036854775808 ≤ z) (h2 : z < 9223372036854775808) : z.bmod (2 ^ 64) = z := by
  rw [Int.bmod_eq_of_le] <;> omega
theorem rem64 {a d : Int64} (ha : 0 ≤ a.toInt) (hd : 0 < d.toInt) : (a - a / d * d).toInt = a.toInt % d.toInt := by
  have hne : d ≠ -1 := by
    intro h
    rw [h] at hd
    exact absurd hd (by decide)
  have hq : (a / d).toInt = a.toInt / d.toInt := by
    rw [Int64.toInt_div_of_ne_right a d hne, Int.tdiv_eq_ediv_of_nonneg ha]
  have h1 := Int.emod_add_mul_ediv a.toInt d.toInt
  have h2 := Int.emod_nonneg a.toInt (show d.toInt ≠ 0 by omega)
  have h3 := Int.emod_lt_of_pos a.toInt hd
  have h4 := a.toInt_lt
  have h5 : 0 ≤ d.toInt * (a.toInt / d.toInt) := Int.mul_nonneg (by omega) (Int.ediv_nonneg ha (by omega))
  have hm : (a / d * d).toInt = d.toInt * (a.toInt / d.toInt) := by
    rw [Int64.toInt_mul, hq, Int.mul_comm]
    exact bm64 (by omega) (by omega)
  rw [Int64.toInt_sub, hm]
  refine (bm64 (by omega) (by omega)).trans (by omega)
theorem nextSeed {s : Int32} (hs : 0 ≤ s.toInt) : 0 ≤ ((((s.toInt64 * 1103515245) + 12345) - ((s.toInt64 * 1103515245) + 12345) / 2147483648 * 2147483648).toInt32).toInt := by
  have h4 := s.toInt_lt
  have hm : (s.toInt64 * 1103515245).toInt = s.toInt * 1103515245 := by
    rw [Int64.toInt_mul, Int32.toInt_toInt64, show (1103515245 : Int64).toInt = 1103515245 by decide]
    exact bm64 (by omega) (by omega)
  have ha : ((s.toInt64 * 1103515245) + 12345).toInt = s.toInt * 1103515245 + 12345 := by
    rw [Int64.toInt_add, hm]
    exact bm64 (by simp only [Int64.reduceToInt]; omega) (by simp only [Int64.reduceToInt]; omega)
  have hr := rem64 (a := (s.toInt64 * 1103515245) + 12345) (d := 2147483648) (by rw [ha]; omega) (by decide)
  rw [Int64.toInt_toInt32, hr]
  have e : (2147483648 : Int64).toInt = 2147483648 := by decide
  rw [e, bm32 (by omega) (by omega)]
  omega
theorem p_draw {f0 : Nat → Int32} {n_ : Int32} (h_0 : WI f0) (h_1 : 0 < n_.toInt) : ∀ (r : Int32) (u : Nat → Int32), f_m_draw f0 n_ = (r, u) → (0 ≤ r.toInt) ∧ (r.toInt < n_.toInt) ∧ WI u := by
  intro r u e
  unfold f_m_draw at e
  have hs := nextSeed (s := f0 (41 : Int32).toNatClampNeg) ((h_0 (41 : Int32).toNatClampNeg).2 (by decide))
  rw [pk_us] at e
  generalize hx : ((((((f0 (41 : Int32).toNatClampNeg)).toInt64 * 1103515245) + 12345) - ((((f0 (41 : Int32).toNatClampNeg)).toInt64 * 1103515245) + 12345) / 2147483648 * 2147483648)).toInt32 = x at e hs
  cases e
  have hd : 0 ≤ (x / 65536).toInt := by
    rw [Int32.toInt_div_of_ne_right x 65536 (by decide), Int.tdiv_eq_ediv_of_nonneg hs]
    exact Int.ediv_nonneg hs (by decide)
  have hr := rem32 (a := x / 65536) hd h_1
  have h2 := Int.emod_nonneg (x / 65536).toInt (show n_.toInt ≠ 0 by omega)
  have h3 := Int.emod_lt_of_pos (x / 65536).toInt h_1
  rw [hr]
  refine ⟨h2, h3, WI_upd h_0 (OKv.mk ⟨fun q => absurd q (by decide), fun _ => hs⟩)⟩
set_option maxHeartbeats 4000000 in
theorem s_draw {f0 : Nat → Int32} {n_ : Int32} (h_0 : 0 < n_.toInt) : S_m_draw f0 n_ := by
  unfold S_m_draw
  refine ⟨(by first | omega | (simp (disch := omega) only [↓i_in, ↓i_isCouple, ↓i_isBridge, ↓i_isTheme, ↓i_isBarge, i_lt, i_le, i_eq, i_clamp, i_upd, i_m1, Int32.toInt_toInt64, Int32.toInt_add, Int32.toInt_sub, Int32.toInt_mul, bm32, Int32.reduceToInt, Int64.reduceToInt, Nat.reduceLT, Nat.reduceEqDiff, reduceIte] <;> omega)), ?_⟩
  exact trivial
theorem pl_copy_2 {from_ to_ : Int32} (h1 : 0 ≤ from_.toInt ∧ from_.toInt ≤ 1260) (h2 : from_.toInt % 42 = 0) (h3 : 0 ≤ to_.toInt ∧ to_.toInt ≤ 1260) (h4 : to_.toInt % 42 = 0) : ∀ (n : Nat) (l : Int32) (w : Nat → Int32), WI w → 0 ≤ l.toInt → l.toInt ≤ 42 → WI (f_m_copy_2 from_ to_ n l w).2 := by
  intro n
  induction n with
  | zero => intro l w h _ _; exact h
  | succ n ih =>
    intro l w h a b
    rw [f_m_copy_2_s]
    by_cases c : 42 ≤ l
    · rw [if_pos c]
      exact h
    · rw [if_neg c]
      simp only [i_le, Int32.reduceToInt] at c
      refine ih _ _ (WI_upd h (OKv.same ?_ (h _))) ?_ ?_
      · simp (disch := omega) only [i_clamp, Int32.toInt_add, bm32]
        omega
      · simp (disch := omega) only [Int32.toInt_add, bm32, Int32.reduceToInt]
        omega
      · simp (disch := omega) only [Int32.toInt_add, bm32, Int32.reduceToInt]
        omega
theorem p_copy {f0 : Nat → Int32} {from_ to_ : Int32} (h : WI f0) (h1 : 0 ≤ from_.toInt ∧ from_.toInt ≤ 1260) (h2 : from_.toInt % 42 = 0) (h3 : 0 ≤ to_.toInt ∧ to_.toInt ≤ 1260) (h4 : to_.toInt % 42 = 0) : WI (f_m_copy f0 from_ to_) := by
  unfold f_m_copy
  have q := pl_copy_2 h1 h2 h3 h4 (((42 : Int32).toInt - (0 : Int32).toInt).toNat + 1) 0 f0 h (by decide) (by decide)
  generalize f_m_copy_2 _ _ _ _ _ = x at q
  obtain ⟨a, b⟩ := x
  exact q
theorem p_grieves {f0 : Nat → Int32} {c_ m_ : Int32} (h : WI f0) (h1 : 0 ≤ c_.toInt) (h2 : c_.toInt < 6) : WI (f_m_grieves f0 c_ m_) := by
  have hk : ∀ x, OKv ((0 + c_) : Int32).toNatClampNeg x := fun x => OKv.out (by simp (disch := omega) only [i_clamp, Int32.toInt_add, bm32, Int32.reduceToInt]; omega)
  unfold f_m_grieves
  repeat' split
  all_goals exact WI_upd h (hk _)
set_option maxHeartbeats 4000000 in
theorem s_grieves {f0 : Nat → Int32} {c_ : Int32} {m_ : Int32} (h_0 : 0 ≤ c_.toInt) (h_1 : c_.toInt < 6) : S_m_grieves f0 c_ m_ := by
  unfold S_m_grieves
  refine ⟨vp_in_iff.mpr (by first | omega | (simp (disch := omega) only [↓i_in, ↓i_isCouple, ↓i_isBridge, ↓i_isTheme, ↓i_isBarge, i_lt, i_le, i_eq, i_clamp, i_upd, i_m1, Int32.toInt_toInt64, Int32.toInt_add, Int32.toInt_sub, Int32.toInt_mul, bm32, Int32.reduceToInt, Int64.reduceToInt, Nat.reduceLT, Nat.reduceEqDiff, reduceIte] <;> omega)), ?_⟩
  refine ⟨s_isDone, ?_⟩
  refine ⟨fun c_1 => ?_, fun c_1 => ?_⟩
  · skip
    try simp (disch := omega) only [↓i_in, ↓i_isCouple, ↓i_isBridge, ↓i_isTheme, ↓i_isBarge, i_lt, i_le, i_eq, i_clamp, i_upd, i_m1, Int32.toInt_toInt64, Int32.toInt_add, Int32.toInt_sub, Int32.toInt_mul, bm32, Int32.reduceToInt, Int64.reduceToInt, Nat.reduceLT, Nat.reduceEqDiff, reduceIte] at c_1
    refine ⟨fun c_2 => ?_, fun c_2 => ?_⟩
    · skip
      try simp (disch := omega) only [↓i_in, ↓i_isCouple, ↓i_isBridge, ↓i_isTheme, ↓i_isBarge, i_lt, i_le, i_eq, i_clamp, i_upd, i_m1, Int32.toInt_toInt64, Int32.toInt_add, Int32.toInt_sub, Int32.toInt_mul, bm32, Int32.reduceToInt, Int64.reduceToInt, Nat.reduceLT, Nat.reduceEqDiff, reduceIte] at c_2
      refine ⟨vp_in_iff.mpr (by first | omega | (simp (disch := omega) only [↓i_in, ↓i_isCouple, ↓i_isBridge, ↓i_isTheme, ↓i_isBarge, i_lt, i_le, i_eq, i_clamp, i_upd, i_m1, Int32.toInt_toInt64, Int32.toInt_add, Int32.toInt_sub, Int32.toInt_mul, bm32, Int32.reduceToInt, Int64.reduceToInt, Nat.reduceLT, Nat.reduceEqDiff, reduceIte] <;> omega)), ?_⟩
      exact trivial
    · skip
      try simp (disch := omega) only [↓i_in, ↓i_isCouple, ↓i_isBridge, ↓i_isTheme, ↓i_isBarge, i_lt, i_le, i_eq, i_clamp, i_upd, i_m1, Int32.toInt_toInt64, Int32.toInt_add, Int32.toInt_sub, Int32.toInt_mul, bm32, Int32.reduceToInt, Int64.reduceToInt, Nat.reduceLT, Nat.reduceEqDiff, reduceIte] at c_2
      refine ⟨vp_in_iff.mpr (by first | omega | (simp (disch := omega) only [↓i_in, ↓i_isCouple, ↓i_isBridge, ↓i_isTheme, ↓i_isBarge, i_lt, i_le, i_eq, i_clamp, i_upd, i_m1, Int32.toInt_toInt64, Int32.toInt_add, Int32.toInt_sub, Int32.toInt_mul, bm32, Int32.reduceToInt, Int64.reduceToInt, Nat.reduceLT, Nat.reduceEqDiff, reduceIte] <;> omega)), ?_⟩
      exact trivial
  · skip
    try simp (disch := omega) only [↓i_in, ↓i_isCouple, ↓i_isBridge, ↓i_isTheme, ↓i_isBarge, i_lt, i_le, i_eq, i_clamp, i_upd, i_m1, Int32.toInt_toInt64, Int32.toInt_add, Int32.toInt_sub, Int32.toInt_mul, bm32, Int32.reduceToInt, Int64.reduceToInt, Nat.reduceLT, Nat.reduceEqDiff, reduceIte] at c_1
    refine ⟨vp_in_iff.mpr (by first | omega | (simp (disch := omega) only [↓i_in, ↓i_isCouple, ↓i_isBridge, ↓i_isTheme, ↓i_isBarge, i_lt, i_le, i_eq, i_clamp, i_upd, i_m1, Int32.toInt_toInt64, Int32.toInt_add, Int32.toInt_sub, Int32.toInt_mul, bm32, Int32.reduceToInt, Int64.reduceToInt, Nat.reduceLT, Nat.reduceEqDiff, reduceIte] <;> omega)), ?_⟩
    exact trivial
set_option maxHeartbeats 4000000 in
theorem sl_begins_10  {K : Int32 → (Nat → Int32) → Prop} (hK : ∀ w_1l2 w_1m0, (WI w_1m0 ∧ (0 ≤ w_1l2.toInt) ∧ (w_1l2.toInt ≤ 42)) → K w_1l2 w_1m0) : ∀ (n : Nat) w_1l2 w_1m0, (WI w_1m0 ∧ (0 ≤ w_1l2.toInt) ∧ (w_1l2.toInt ≤ 42)) → S_m_begins_10  K n w_1l2 w_1m0 := by
  intro n
  induction n with
  | zero => intro w_1l2 w_1m0 hI; exact trivial
  | succ n ih =>
    intro w_1l2 w_1m0 hI
    rw [S_m_begins_10_s]
    have hI0 := hI
    obtain ⟨i_1, i_2, i_3⟩ := hI0
    refine ⟨fun c_4 => ?_, fun c_4 => ?_⟩
    · skip
      try simp (disch := omega) only [↓i_in, ↓i_isCouple, ↓i_isBridge, ↓i_isTheme, ↓i_isBarge, i_lt, i_le, i_eq, i_clamp, i_upd, i_m1, Int32.toInt_toInt64, Int32.toInt_add, Int32.toInt_sub, Int32.toInt_mul, bm32, Int32.reduceToInt, Int64.reduceToInt, Nat.reduceLT, Nat.reduceEqDiff, reduceIte] at c_4
      exact hK w_1l2 w_1m0 hI
    · skip
      try simp (disch := omega) only [↓i_in, ↓i_isCouple, ↓i_isBridge, ↓i_isTheme, ↓i_isBarge, i_lt, i_le, i_eq, i_clamp, i_upd, i_m1, Int32.toInt_toInt64, Int32.toInt_add, Int32.toInt_sub, Int32.toInt_mul, bm32, Int32.reduceToInt, Int64.reduceToInt, Nat.reduceLT, Nat.reduceEqDiff, reduceIte] at c_4
      refine ⟨vp_in_iff.mpr (by first | omega | (simp (disch := omega) only [↓i_in, ↓i_isCouple, ↓i_isBridge, ↓i_isTheme, ↓i_isBarge, i_lt, i_le, i_eq, i_clamp, i_upd, i_m1, Int32.toInt_toInt64, Int32.toInt_add, Int32.toInt_sub, Int32.toInt_mul, bm32, Int32.reduceToInt, Int64.reduceToInt, Nat.reduceLT, Nat.reduceEqDiff, reduceIte] <;> omega)), ?_⟩
      exact ih (w_1l2 + 1) (upd w_1m0 (w_1l2 : Int32).toNatClampNeg 0) (⟨(WI_upd i_1 OKv.z), (by first | omega | (simp (disch := omega) only [↓i_in, ↓i_isCouple, ↓i_isBridge, ↓i_isTheme, ↓i_isBarge, i_lt, i_le, i_eq, i_clamp, i_upd, i_m1, Int32.toInt_toInt64, Int32.toInt_add, Int32.toInt_sub, Int32.toInt_mul, bm32, Int32.reduceToInt, Int64.reduceToInt, Nat.reduceLT, Nat.reduceEqDiff, reduceIte] <;> omega)), (by first | omega | (simp (disch := omega) only [↓i_in, ↓i_isCouple, ↓i_isBridge, ↓i_isTheme, ↓i_isBarge, i_lt, i_le, i_eq, i_clamp, i_upd, i_m1, Int32.toInt_toInt64, Int32.toInt_add, Int32.toInt_sub, Int32.toInt_mul, bm32, Int32.reduceToInt, Int64.reduceToInt, Nat.reduceLT, Nat.reduceEqDiff, reduceIte] <;> omega))⟩)
set_option maxHeartbeats 4000000 in
theorem pl_begins_10  : ∀ (n : Nat) w_1l2 w_1m0, (WI w_1m0 ∧ (0 ≤ w_1l2.toInt) ∧ (w_1l2.toInt ≤ 42)) → ∀ r0 r1, f_m_begins_10  n w_1l2 w_1m0 = (r0, r1) → WI r1 ∧ (0 ≤ r0.toInt) ∧ (r0.toInt ≤ 42) := by
  intro n
  induction n with
  | zero =>
    intro w_1l2 w_1m0 hI r0 r1 e
    replace e : (w_1l2, w_1m0) = (r0, r1) := e
    cases e
    exact hI
  | succ n ih =>
    intro w_1l2 w_1m0 hI r0 r1 e
    rw [f_m_begins_10_s] at e
    have hI0 := hI
    obtain ⟨i_1, i_2, i_3⟩ := hI0
    by_cases c_4 : 42 ≤ w_1l2
    · rw [if_pos c_4] at e
      try simp (disch := omega) only [↓i_in, ↓i_isCouple, ↓i_isBridge, ↓i_isTheme, ↓i_isBarge, i_lt, i_le, i_eq, i_clamp, i_upd, i_m1, Int32.toInt_toInt64, Int32.toInt_add, Int32.toInt_sub, Int32.toInt_mul, bm32, Int32.reduceToInt, Int64.reduceToInt, Nat.reduceLT, Nat.reduceEqDiff, reduceIte] at c_4
      cases e
      exact hI
    · rw [if_neg c_4] at e
      try simp (disch := omega) only [↓i_in, ↓i_isCouple, ↓i_isBridge, ↓i_isTheme, ↓i_isBarge, i_lt, i_le, i_eq, i_clamp, i_upd, i_m1, Int32.toInt_toInt64, Int32.toInt_add, Int32.toInt_sub, Int32.toInt_mul, bm32, Int32.reduceToInt, Int64.reduceToInt, Nat.reduceLT, Nat.reduceEqDiff, reduceIte] at c_4
      exact ih (w_1l2 + 1) (upd w_1m0 (w_1l2 : Int32).toNatClampNeg 0) (⟨(WI_upd i_1 OKv.z), (by first | omega | (simp (disch := omega) only [↓i_in, ↓i_isCouple, ↓i_isBridge, ↓i_isTheme, ↓i_isBarge, i_lt, i_le, i_eq, i_clamp, i_upd, i_m1, Int32.toInt_toInt64, Int32.toInt_add, Int32.toInt_sub, Int32.toInt_mul, bm32, Int32.reduceToInt, Int64.reduceToInt, Nat.reduceLT, Nat.reduceEqDiff, reduceIte] <;> omega)), (by first | omega | (simp (disch := omega) only [↓i_in, ↓i_isCouple, ↓i_isBridge, ↓i_isTheme, ↓i_isBarge, i_lt, i_le, i_eq, i_clamp, i_upd, i_m1, Int32.toInt_toInt64, Int32.toInt_add, Int32.toInt_sub, Int32.toInt_mul, bm32, Int32.reduceToInt, Int64.reduceToInt, Nat.reduceLT, Nat.reduceEqDiff, reduceIte] <;> omega))⟩) _ _ e
set_option maxHeartbeats 4000000 in
theorem sl_begins_31 {G : Nat → Int32} {f9 : Nat → Int32} {K : Int32 → (Nat → Int32) → Prop} (hK : ∀ w_2l2 w_2m0, (WI w_2m0 ∧ (0 ≤ w_2l2.toInt) ∧ (w_2l2.toInt ≤ 6)) → K w_2l2 w_2m0) : ∀ (n : Nat) w_2l2 w_2m0, (WI w_2m0 ∧ (0 ≤ w_2l2.toInt) ∧ (w_2l2.toInt ≤ 6)) → S_m_begins_31 G f9 K n w_2l2 w_2m0 := by
  intro n
  induction n with
  | zero => intro w_2l2 w_2m0 hI; exact trivial
  | succ n ih =>
    intro w_2l2 w_2m0 hI
    rw [S_m_begins_31_s]
    have hI0 := hI
    obtain ⟨i_1, i_2, i_3⟩ := hI0
    refine ⟨fun c_4 => ?_, fun c_4 => ?_⟩
    · skip
      try simp (disch := omega) only [↓i_in, ↓i_isCouple, ↓i_isBridge, ↓i_isTheme, ↓i_isBarge, i_lt, i_le, i_eq, i_clamp, i_upd, i_m1, Int32.toInt_toInt64, Int32.toInt_add, Int32.toInt_sub, Int32.toInt_mul, bm32, Int32.reduceToInt, Int64.reduceToInt, Nat.reduceLT, Nat.reduceEqDiff, reduceIte] at c_4
      exact hK w_2l2 w_2m0 hI
    · skip
      try simp (disch := omega) only [↓i_in, ↓i_isCouple, ↓i_isBridge, ↓i_isTheme, ↓i_isBarge, i_lt, i_le, i_eq, i_clamp, i_upd, i_m1, Int32.toInt_toInt64, Int32.toInt_add, Int32.toInt_sub, Int32.toInt_mul, bm32, Int32.reduceToInt, Int64.reduceToInt, Nat.reduceLT, Nat.reduceEqDiff, reduceIte] at c_4
      refine ⟨fun c_5 => ?_, fun c_5 => ?_⟩
      · skip
        try simp (disch := omega) only [↓i_in, ↓i_isCouple, ↓i_isBridge, ↓i_isTheme, ↓i_isBarge, i_lt, i_le, i_eq, i_clamp, i_upd, i_m1, Int32.toInt_toInt64, Int32.toInt_add, Int32.toInt_sub, Int32.toInt_mul, bm32, Int32.reduceToInt, Int64.reduceToInt, Nat.reduceLT, Nat.reduceEqDiff, reduceIte] at c_5
        refine ⟨vp_in_iff.mpr (by first | omega | (simp (disch := omega) only [↓i_in, ↓i_isCouple, ↓i_isBridge, ↓i_isTheme, ↓i_isBarge, i_lt, i_le, i_eq, i_clamp, i_upd, i_m1, Int32.toInt_toInt64, Int32.toInt_add, Int32.toInt_sub, Int32.toInt_mul, bm32, Int32.reduceToInt, Int64.reduceToInt, Nat.reduceLT, Nat.reduceEqDiff, reduceIte] <;> omega)), ?_⟩
        refine ⟨vp_in_iff.mpr (by first | omega | (simp (disch := omega) only [↓i_in, ↓i_isCouple, ↓i_isBridge, ↓i_isTheme, ↓i_isBarge, i_lt, i_le, i_eq, i_clamp, i_upd, i_m1, Int32.toInt_toInt64, Int32.toInt_add, Int32.toInt_sub, Int32.toInt_mul, bm32, Int32.reduceToInt, Int64.reduceToInt, Nat.reduceLT, Nat.reduceEqDiff, reduceIte] <;> omega)), ?_⟩
        exact ih (w_2l2 + 1) (upd (upd w_2m0 ((0 + w_2l2) : Int32).toNatClampNeg 0) ((6 + w_2l2) : Int32).toNatClampNeg (-1)) (⟨(WI_upd (WI_upd i_1 OKv.z) (by first | (refine OKv.out ?_; (first | omega | (simp (disch := omega) only [↓i_in, ↓i_isCouple, ↓i_isBridge, ↓i_isTheme, ↓i_isBarge, i_lt, i_le, i_eq, i_clamp, i_upd, i_m1, Int32.toInt_toInt64, Int32.toInt_add, Int32.toInt_sub, Int32.toInt_mul, bm32, Int32.reduceToInt, Int64.reduceToInt, Nat.reduceLT, Nat.reduceEqDiff, reduceIte] <;> omega))) | (refine OKv.mk ?_; (first | omega | (simp (disch := omega) only [↓i_in, ↓i_isCouple, ↓i_isBridge, ↓i_isTheme, ↓i_isBarge, i_lt, i_le, i_eq, i_clamp, i_upd, i_m1, Int32.toInt_toInt64, Int32.toInt_add, Int32.toInt_sub, Int32.toInt_mul, bm32, Int32.reduceToInt, Int64.reduceToInt, Nat.reduceLT, Nat.reduceEqDiff, reduceIte] <;> omega))))), (by first | omega | (simp (disch := omega) only [↓i_in, ↓i_isCouple, ↓i_isBridge, ↓i_isTheme, ↓i_isBarge, i_lt, i_le, i_eq, i_clamp, i_upd, i_m1, Int32.toInt_toInt64, Int32.toInt_add, Int32.toInt_sub, Int32.toInt_mul, bm32, Int32.reduceToInt, Int64.reduceToInt, Nat.reduceLT, Nat.reduceEqDiff, reduceIte] <;> omega)), (by first | omega | (simp (disch := omega) only [↓i_in, ↓i_isCouple, ↓i_isBridge, ↓i_isTheme, ↓i_isBarge, i_lt, i_le, i_eq, i_clamp, i_upd, i_m1, Int32.toInt_toInt64, Int32.toInt_add, Int32.toInt_sub, Int32.toInt_mul, bm32, Int32.reduceToInt, Int64.reduceToInt, Nat.reduceLT, Nat.reduceEqDiff, reduceIte] <;> omega))⟩)
      · skip
        try simp (disch := omega) only [↓i_in, ↓i_isCouple, ↓i_isBridge, ↓i_isTheme, ↓i_isBarge, i_lt, i_le, i_eq, i_clamp, i_upd, i_m1, Int32.toInt_toInt64, Int32.toInt_add, Int32.toInt_sub, Int32.toInt_mul, bm32, Int32.reduceToInt, Int64.reduceToInt, Nat.reduceLT, Nat.reduceEqDiff, reduceIte] at c_5
        refine ⟨vp_in_iff.mpr (by first | omega | (simp (disch := omega) only [↓i_in, ↓i_isCouple, ↓i_isBridge, ↓i_isTheme, ↓i_isBarge, i_lt, i_le, i_eq, i_clamp, i_upd, i_m1, Int32.toInt_toInt64, Int32.toInt_add, Int32.toInt_sub, Int32.toInt_mul, bm32, Int32.reduceToInt, Int64.reduceToInt, Nat.reduceLT, Nat.reduceEqDiff, reduceIte] <;> omega)), ?_⟩
        refine ⟨vp_in_iff.mpr (by first | omega | (simp (disch := omega) only [↓i_in, ↓i_isCouple, ↓i_isBridge, ↓i_isTheme, ↓i_isBarge, i_lt, i_le, i_eq, i_clamp, i_upd, i_m1, Int32.toInt_toInt64, Int32.toInt_add, Int32.toInt_sub, Int32.toInt_mul, bm32, Int32.reduceToInt, Int64.reduceToInt, Nat.reduceLT, Nat.reduceEqDiff, reduceIte] <;> omega)), ?_⟩
        refine ⟨vp_in_iff.mpr (by first | omega | (simp (disch := omega) only [↓i_in, ↓i_isCouple, ↓i_isBridge, ↓i_isTheme, ↓i_isBarge, i_lt, i_le, i_eq, i_clamp, i_upd, i_m1, Int32.toInt_toInt64, Int32.toInt_add, Int32.toInt_sub, Int32.toInt_mul, bm32, Int32.reduceToInt, Int64.reduceToInt, Nat.reduceLT, Nat.reduceEqDiff, reduceIte] <;> omega)), ?_⟩
        exact ih (w_2l2 + 1) (upd (upd w_2m0 ((0 + w_2l2) : Int32).toNatClampNeg (f9 (w_2l2 : Int32).toNatClampNeg)) ((6 + w_2l2) : Int32).toNatClampNeg (-1)) (⟨(WI_upd (WI_upd i_1 (by first | (refine OKv.out ?_; (first | omega | (simp (disch := omega) only [↓i_in, ↓i_isCouple, ↓i_isBridge, ↓i_isTheme, ↓i_isBarge, i_lt, i_le, i_eq, i_clamp, i_upd, i_m1, Int32.toInt_toInt64, Int32.toInt_add, Int32.toInt_sub, Int32.toInt_mul, bm32, Int32.reduceToInt, Int64.reduceToInt, Nat.reduceLT, Nat.reduceEqDiff, reduceIte] <;> omega))) | (refine OKv.mk ?_; (first | omega | (simp (disch := omega) only [↓i_in, ↓i_isCouple, ↓i_isBridge, ↓i_isTheme, ↓i_isBarge, i_lt, i_le, i_eq, i_clamp, i_upd, i_m1, Int32.toInt_toInt64, Int32.toInt_add, Int32.toInt_sub, Int32.toInt_mul, bm32, Int32.reduceToInt, Int64.reduceToInt, Nat.reduceLT, Nat.reduceEqDiff, reduceIte] <;> omega))))) (by first | (refine OKv.out ?_; (first | omega | (simp (disch := omega) only [↓i_in, ↓i_isCouple, ↓i_isBridge, ↓i_isTheme, ↓i_isBarge, i_lt, i_le, i_eq, i_clamp, i_upd, i_m1, Int32.toInt_toInt64, Int32.toInt_add, Int32.toInt_sub, Int32.toInt_mul, bm32, Int32.reduceToInt, Int64.reduceToInt, Nat.reduceLT, Nat.reduceEqDiff, reduceIte] <;> omega))) | (refine OKv.mk ?_; (first | omega | (simp (disch := omega) only [↓i_in, ↓i_isCouple, ↓i_isBridge, ↓i_isTheme, ↓i_isBarge, i_lt, i_le, i_eq, i_clamp, i_upd, i_m1, Int32.toInt_toInt64, Int32.toInt_add, Int32.toInt_sub, Int32.toInt_mul, bm32, Int32.reduceToInt, Int64.reduceToInt, Nat.reduceLT, Nat.reduceEqDiff, reduceIte] <;> omega))))), (by first | omega | (simp (disch := omega) only [↓i_in, ↓i_isCouple, ↓i_isBridge, ↓i_isTheme, ↓i_isBarge, i_lt, i_le, i_eq, i_clamp, i_upd, i_m1, Int32.toInt_toInt64, Int32.toInt_add, Int32.toInt_sub, Int32.toInt_mul, bm32, Int32.reduceToInt, Int64.reduceToInt, Nat.reduceLT, Nat.reduceEqDiff, reduceIte] <;> omega)), (by first | omega | (simp (disch := omega) only [↓i_in, ↓i_isCouple, ↓i_isBridge, ↓i_isTheme, ↓i_isBarge, i_lt, i_le, i_eq, i_clamp, i_upd, i_m1, Int32.toInt_toInt64, Int32.toInt_add, Int32.toInt_sub, Int32.toInt_mul, bm32, Int32.reduceToInt, Int64.reduceToInt, Nat.reduceLT, Nat.reduceEqDiff, reduceIte] <;> omega))⟩)
set_option maxHeartbeats 4000000 in
theorem pl_begins_31 {G : Nat → Int32} {f9 : Nat → Int32} : ∀ (n : Nat) w_2l2 w_2m0, (WI w_2m0 ∧ (0 ≤ w_2l2.toInt) ∧ (w_2l2.toInt ≤ 6)) → ∀ r0 r1, f_m_begins_31 G f9 n w_2l2 w_2m0 = (r0, r1) → WI r1 ∧ (0 ≤ r0.toInt) ∧ (r0.toInt ≤ 6) := by
  intro n
  induction n with
  | zero =>
    intro w_2l2 w_2m0 hI r0 r1 e
    replace e : (w_2l2, w_2m0) = (r0, r1) := e
    cases e
    exact hI
  | succ n ih =>
    intro w_2l2 w_2m0 hI r0 r1 e
    rw [f_m_begins_31_s] at e
    have hI0 := hI
    obtain ⟨i_1, i_2, i_3⟩ := hI0
    by_cases c_4 : 6 ≤ w_2l2
    · rw [if_pos c_4] at e
      try simp (disch := omega) only [↓i_in, ↓i_isCouple, ↓i_isBridge, ↓i_isTheme, ↓i_isBarge, i_lt, i_le, i_eq, i_clamp, i_upd, i_m1, Int32.toInt_toInt64, Int32.toInt_add, Int32.toInt_sub, Int32.toInt_mul, bm32, Int32.reduceToInt, Int64.reduceToInt, Nat.reduceLT, Nat.reduceEqDiff, reduceIte] at c_4
      cases e
      exact hI
    · rw [if_neg c_4] at e
      try simp (disch := omega) only [↓i_in, ↓i_isCouple, ↓i_isBridge, ↓i_isTheme, ↓i_isBarge, i_lt, i_le, i_eq, i_clamp, i_upd, i_m1, Int32.toInt_toInt64, Int32.toInt_add, Int32.toInt_sub, Int32.toInt_mul, bm32, Int32.reduceToInt, Int64.reduceToInt, Nat.reduceLT, Nat.reduceEqDiff, reduceIte] at c_4
      by_cases c_5 : (G 5) ≤ w_2l2
      · rw [if_pos c_5] at e
        try simp (disch := omega) only [↓i_in, ↓i_isCouple, ↓i_isBridge, ↓i_isTheme, ↓i_isBarge, i_lt, i_le, i_eq, i_clamp, i_upd, i_m1, Int32.toInt_toInt64, Int32.toInt_add, Int32.toInt_sub, Int32.toInt_mul, bm32, Int32.reduceToInt, Int64.reduceToInt, Nat.reduceLT, Nat.reduceEqDiff, reduceIte] at c_5
        exact ih (w_2l2 + 1) (upd (upd w_2m0 ((0 + w_2l2) : Int32).toNatClampNeg 0) ((6 + w_2l2) : Int32).toNatClampNeg (-1)) (⟨(WI_upd (WI_upd i_1 OKv.z) (by first | (refine OKv.out ?_; (first | omega | (simp (disch := omega) only [↓i_in, ↓i_isCouple, ↓i_isBridge, ↓i_isTheme, ↓i_isBarge, i_lt, i_le, i_eq, i_clamp, i_upd, i_m1, Int32.toInt_toInt64, Int32.toInt_add, Int32.toInt_sub, Int32.toInt_mul, bm32, Int32.reduceToInt, Int64.reduceToInt, Nat.reduceLT, Nat.reduceEqDiff, reduceIte] <;> omega))) | (refine OKv.mk ?_; (first | omega | (simp (disch := omega) only [↓i_in, ↓i_isCouple, ↓i_isBridge, ↓i_isTheme, ↓i_isBarge, i_lt, i_le, i_eq, i_clamp, i_upd, i_m1, Int32.toInt_toInt64, Int32.toInt_add, Int32.toInt_sub, Int32.toInt_mul, bm32, Int32.reduceToInt, Int64.reduceToInt, Nat.reduceLT, Nat.reduceEqDiff, reduceIte] <;> omega))))), (by first | omega | (simp (disch := omega) only [↓i_in, ↓i_isCouple, ↓i_isBridge, ↓i_isTheme, ↓i_isBarge, i_lt, i_le, i_eq, i_clamp, i_upd, i_m1, Int32.toInt_toInt64, Int32.toInt_add, Int32.toInt_sub, Int32.toInt_mul, bm32, Int32.reduceToInt, Int64.reduceToInt, Nat.reduceLT, Nat.reduceEqDiff, reduceIte] <;> omega)), (by first | omega | (simp (disch := omega) only [↓i_in, ↓i_isCouple, ↓i_isBridge, ↓i_isTheme, ↓i_isBarge, i_lt, i_le, i_eq, i_clamp, i_upd, i_m1, Int32.toInt_toInt64, Int32.toInt_add, Int32.toInt_sub, Int32.toInt_mul, bm32, Int32.reduceToInt, Int64.reduceToInt, Nat.reduceLT, Nat.reduceEqDiff, reduceIte] <;> omega))⟩) _ _ e
      · rw [if_neg c_5] at e
        try simp (disch := omega) only [↓i_in, ↓i_isCouple, ↓i_isBridge, ↓i_isTheme, ↓i_isBarge, i_lt, i_le, i_eq, i_clamp, i_upd, i_m1, Int32.toInt_toInt64, Int32.toInt_add, Int32.toInt_sub, Int32.toInt_mul, bm32, Int32.reduceToInt, Int64.reduceToInt, Nat.reduceLT, Nat.reduceEqDiff, reduceIte] at c_5
        exact ih (w_2l2 + 1) (upd (upd w_2m0 ((0 + w_2l2) : Int32).toNatClampNeg (f9 (w_2l2 : Int32).toNatClampNeg)) ((6 + w_2l2) : Int32).toNatClampNeg (-1)) (⟨(WI_upd (WI_upd i_1 (by first | (refine OKv.out ?_; (first | omega | (simp (disch := omega) only [↓i_in, ↓i_isCouple, ↓i_isBridge, ↓i_isTheme, ↓i_isBarge, i_lt, i_le, i_eq, i_clamp, i_upd, i_m1, Int32.toInt_toInt64, Int32.toInt_add, Int32.toInt_sub, Int32.toInt_mul, bm32, Int32.reduceToInt, Int64.reduceToInt, Nat.reduceLT, Nat.reduceEqDiff, reduceIte] <;> omega))) | (refine OKv.mk ?_; (first | omega | (simp (disch := omega) only [↓i_in, ↓i_isCouple, ↓i_isBridge, ↓i_isTheme, ↓i_isBarge, i_lt, i_le, i_eq, i_clamp, i_upd, i_m1, Int32.toInt_toInt64, Int32.toInt_add, Int32.toInt_sub, Int32.toInt_mul, bm32, Int32.reduceToInt, Int64.reduceToInt, Nat.reduceLT, Nat.reduceEqDiff, reduceIte] <;> omega))))) (by first | (refine OKv.out ?_; (first | omega | (simp (disch := omega) only [↓i_in, ↓i_isCouple, ↓i_isBridge, ↓i_isTheme, ↓i_isBarge, i_lt, i_le, i_eq, i_clamp, i_upd, i_m1, Int32.toInt_toInt64, Int32.toInt_add, Int32.toInt_sub, Int32.toInt_mul, bm32, Int32.reduceToInt, Int64.reduceToInt, Nat.reduceLT, Nat.reduceEqDiff, reduceIte] <;> omega))) | (refine OKv.mk ?_; (first | omega | (simp (disch := omega) only [↓i_in, ↓i_isCouple, ↓i_isBridge, ↓i_isTheme, ↓i_isBarge, i_lt, i_le, i_eq, i_clamp, i_upd, i_m1, Int32.toInt_toInt64, Int32.toInt_add, Int32.toInt_sub, Int32.toInt_mul, bm32, Int32.reduceToInt, Int64.reduceToInt, Nat.reduceLT, Nat.reduceEqDiff, reduceIte] <;> omega))))), (by first | omega | (simp (disch := omega) only [↓i_in, ↓i_isCouple, ↓i_isBridge, ↓i_isTheme, ↓i_isBarge, i_lt, i_le, i_eq, i_clamp, i_upd, i_m1, Int32.toInt_toInt64, Int32.toInt_add, Int32.toInt_sub, Int32.toInt_mul, bm32, Int32.reduceToInt, Int64.reduceToInt, Nat.reduceLT, Nat.reduceEqDiff, reduceIte] <;> omega)), (by first | omega | (simp (disch := omega) only [↓i_in, ↓i_isCouple, ↓i_isBridge, ↓i_isTheme, ↓i_isBarge, i_lt, i_le, i_eq, i_clamp, i_upd, i_m1, Int32.toInt_toInt64, Int32.toInt_add, Int32.toInt_sub, Int32.toInt_mul, bm32, Int32.reduceToInt, Int64.reduceToInt, Nat.reduceLT, Nat.reduceEqDiff, reduceIte] <;> omega))⟩) _ _ e
set_option maxHeartbeats 4000000 in
theorem sl_begins_81  {K : Int32 → (Nat → Int32) → Prop} (hK : ∀ w_3l2 w_3m0, (WI w_3m0 ∧ (0 ≤ w_3l2.toInt) ∧ (w_3l2.toInt ≤ 7)) → K w_3l2 w_3m0) : ∀ (n : Nat) w_3l2 w_3m0, (WI w_3m0 ∧ (0 ≤ w_3l2.toInt) ∧ (w_3l2.toInt ≤ 7)) → S_m_begins_81  K n w_3l2 w_3m0 := by
  intro n
  induction n with
  | zero => intro w_3l2 w_3m0 hI; exact trivial
  | succ n ih =>
    intro w_3l2 w_3m0 hI
    rw [S_m_begins_81_s]
    have hI0 := hI
    obtain ⟨i_1, i_2, i_3⟩ := hI0
    refine ⟨fun c_4 => ?_, fun c_4 => ?_⟩
    · skip
      try simp (disch := omega) only [↓i_in, ↓i_isCouple, ↓i_isBridge, ↓i_isTheme, ↓i_isBarge, i_lt, i_le, i_eq, i_clamp, i_upd, i_m1, Int32.toInt_toInt64, Int32.toInt_add, Int32.toInt_sub, Int32.toInt_mul, bm32, Int32.reduceToInt, Int64.reduceToInt, Nat.reduceLT, Nat.reduceEqDiff, reduceIte] at c_4
      exact hK w_3l2 w_3m0 hI
    · skip
      try simp (disch := omega) only [↓i_in, ↓i_isCouple, ↓i_isBridge, ↓i_isTheme, ↓i_isBarge, i_lt, i_le, i_eq, i_clamp, i_upd, i_m1, Int32.toInt_toInt64, Int32.toInt_add, Int32.toInt_sub, Int32.toInt_mul, bm32, Int32.reduceToInt, Int64.reduceToInt, Nat.reduceLT, Nat.reduceEqDiff, reduceIte] at c_4
      refine ⟨vp_in_iff.mpr (by first | omega | (simp (disch := omega) only [↓i_in, ↓i_isCouple, ↓i_isBridge, ↓i_isTheme, ↓i_isBarge, i_lt, i_le, i_eq, i_clamp, i_upd, i_m1, Int32.toInt_toInt64, Int32.toInt_add, Int32.toInt_sub, Int32.toInt_mul, bm32, Int32.reduceToInt, Int64.reduceToInt, Nat.reduceLT, Nat.reduceEqDiff, reduceIte] <;> omega)), ?_⟩
      refine ⟨vp_in_iff.mpr (by first | omega | (simp (disch := omega) only [↓i_in, ↓i_isCouple, ↓i_isBridge, ↓i_isTheme, ↓i_isBarge, i_lt, i_le, i_eq, i_clamp, i_upd, i_m1, Int32.toInt_toInt64, Int32.toInt_add, Int32.toInt_sub, Int32.toInt_mul, bm32, Int32.reduceToInt, Int64.reduceToInt, Nat.reduceLT, Nat.reduceEqDiff, reduceIte] <;> omega)), ?_⟩
      exact ih (w_3l2 + 1) (upd (upd w_3m0 ((27 + w_3l2) : Int32).toNatClampNeg (-1)) ((34 + w_3l2) : Int32).toNatClampNeg (-1)) (⟨(WI_upd (WI_upd i_1 (by first | (refine OKv.out ?_; (first | omega | (simp (disch := omega) only [↓i_in, ↓i_isCouple, ↓i_isBridge, ↓i_isTheme, ↓i_isBarge, i_lt, i_le, i_eq, i_clamp, i_upd, i_m1, Int32.toInt_toInt64, Int32.toInt_add, Int32.toInt_sub, Int32.toInt_mul, bm32, Int32.reduceToInt, Int64.reduceToInt, Nat.reduceLT, Nat.reduceEqDiff, reduceIte] <;> omega))) | (refine OKv.mk ?_; (first | omega | (simp (disch := omega) only [↓i_in, ↓i_isCouple, ↓i_isBridge, ↓i_isTheme, ↓i_isBarge, i_lt, i_le, i_eq, i_clamp, i_upd, i_m1, Int32.toInt_toInt64, Int32.toInt_add, Int32.toInt_sub, Int32.toInt_mul, bm32, Int32.reduceToInt, Int64.reduceToInt, Nat.reduceLT, Nat.reduceEqDiff, reduceIte] <;> omega))))) (by first | (refine OKv.out ?_; (first | omega | (simp (disch := omega) only [↓i_in, ↓i_isCouple, ↓i_isBridge, ↓i_isTheme, ↓i_isBarge, i_lt, i_le, i_eq, i_clamp, i_upd, i_m1, Int32.toInt_toInt64, Int32.toInt_add, Int32.toInt_sub, Int32.toInt_mul, bm32, Int32.reduceToInt, Int64.reduceToInt, Nat.reduceLT, Nat.reduceEqDiff, reduceIte] <;> omega))) | (refine OKv.mk ?_; (first | omega | (simp (disch := omega) only [↓i_in, ↓i_isCouple, ↓i_isBridge, ↓i_isTheme, ↓i_isBarge, i_lt, i_le, i_eq, i_clamp, i_upd, i_m1, Int32.toInt_toInt64, Int32.toInt_add, Int32.toInt_sub, Int32.toInt_mul, bm32, Int32.reduceToInt, Int64.reduceToInt, Nat.reduceLT, Nat.reduceEqDiff, reduceIte] <;> omega))))), (by first | omega | (simp (disch := omega) only [↓i_in, ↓i_isCouple, ↓i_isBridge, ↓i_isTheme, ↓i_isBarge, i_lt, i_le, i_eq, i_clamp, i_upd, i_m1, Int32.toInt_toInt64, Int32.toInt_add, Int32.toInt_sub, Int32.toInt_mul, bm32, Int32.reduceToInt, Int64.reduceToInt, Nat.reduceLT, Nat.reduceEqDiff, reduceIte] <;> omega)), (by first | omega | (simp (disch := omega) only [↓i_in, ↓i_isCouple, ↓i_isBridge, ↓i_isTheme, ↓i_isBarge, i_lt, i_le, i_eq, i_clamp, i_upd, i_m1, Int32.toInt_toInt64, Int32.toInt_add, Int32.toInt_sub, Int32.toInt_mul, bm32, Int32.reduceToInt, Int64.reduceToInt, Nat.reduceLT, Nat.reduceEqDiff, reduceIte] <;> omega))⟩)
set_option maxHeartbeats 4000000 in
theorem pl_begins_81  : ∀ (n : Nat) w_3l2 w_3m0, (WI w_3m0 ∧ (0 ≤ w_3l2.toInt) ∧ (w_3l2.toInt ≤ 7)) → ∀ r0 r1, f_m_begins_81  n w_3l2 w_3m0 = (r0, r1) → WI r1 ∧ (0 ≤ r0.toInt) ∧ (r0.toInt ≤ 7) := by
  intro n
  induction n with
  | zero =>
    intro w_3l2 w_3m0 hI r0 r1 e
    replace e : (w_3l2, w_3m0) = (r0, r1) := e
    cases e
    exact hI
  | succ n ih =>
    intro w_3l2 w_3m0 hI r0 r1 e
    rw [f_m_begins_81_s] at e
    have hI0 := hI
    obtain ⟨i_1, i_2, i_3⟩ := hI0
    by_cases c_4 : 7 ≤ w_3l2
    · rw [if_pos c_4] at e
      try simp (disch := omega) only [↓i_in, ↓i_isCouple, ↓i_isBridge, ↓i_isTheme, ↓i_isBarge, i_lt, i_le, i_eq, i_clamp, i_upd, i_m1, Int32.toInt_toInt64, Int32.toInt_add, Int32.toInt_sub, Int32.toInt_mul, bm32, Int32.reduceToInt, Int64.reduceToInt, Nat.reduceLT, Nat.reduceEqDiff, reduceIte] at c_4
      cases e
      exact hI
    · rw [if_neg c_4] at e
      try simp (disch := omega) only [↓i_in, ↓i_isCouple, ↓i_isBridge, ↓i_isTheme, ↓i_isBarge, i_lt, i_le, i_eq, i_clamp, i_upd, i_m1, Int32.toInt_toInt64, Int32.toInt_add, Int32.toInt_sub, Int32.toInt_mul, bm32, Int32.reduceToInt, Int64.reduceToInt, Nat.reduceLT, Nat.reduceEqDiff, reduceIte] at c_4
      exact ih (w_3l2 + 1) (upd (upd w_3m0 ((27 + w_3l2) : Int32).toNatClampNeg (-1)) ((34 + w_3l2) : Int32).toNatClampNeg (-1)) (⟨(WI_upd (WI_upd i_1 (by first | (refine OKv.out ?_; (first | omega | (simp (disch := omega) only [↓i_in, ↓i_isCouple, ↓i_isBridge, ↓i_isTheme, ↓i_isBarge, i_lt, i_le, i_eq, i_clamp, i_upd, i_m1, Int32.toInt_toInt64, Int32.toInt_add, Int32.toInt_sub, Int32.toInt_mul, bm32, Int32.reduceToInt, Int64.reduceToInt, Nat.reduceLT, Nat.reduceEqDiff, reduceIte] <;> omega))) | (refine OKv.mk ?_; (first | omega | (simp (disch := omega) only [↓i_in, ↓i_isCouple, ↓i_isBridge, ↓i_isTheme, ↓i_isBarge, i_lt, i_le, i_eq, i_clamp, i_upd, i_m1, Int32.toInt_toInt64, Int32.toInt_add, Int32.toInt_sub, Int32.toInt_mul, bm32, Int32.reduceToInt, Int64.reduceToInt, Nat.reduceLT, Nat.reduceEqDiff, reduceIte] <;> omega))))) (by first | (refine OKv.out ?_; (first | omega | (simp (disch := omega) only [↓i_in, ↓i_isCouple, ↓i_isBridge, ↓i_isTheme, ↓i_isBarge, i_lt, i_le, i_eq, i_clamp, i_upd, i_m1, Int32.toInt_toInt64, Int32.toInt_add, Int32.toInt_sub, Int32.toInt_mul, bm32, Int32.reduceToInt, Int64.reduceToInt, Nat.reduceLT, Nat.reduceEqDiff, reduceIte] <;> omega))) | (refine OKv.mk ?_; (first | omega | (simp (disch := omega) only [↓i_in, ↓i_isCouple, ↓i_isBridge, ↓i_isTheme, ↓i_isBarge, i_lt, i_le, i_eq, i_clamp, i_upd, i_m1, Int32.toInt_toInt64, Int32.toInt_add, Int32.toInt_sub, Int32.toInt_mul, bm32, Int32.reduceToInt, Int64.reduceToInt, Nat.reduceLT, Nat.reduceEqDiff, reduceIte] <;> omega))))), (by first | omega | (simp (disch := omega) only [↓i_in, ↓i_isCouple, ↓i_isBridge, ↓i_isTheme, ↓i_isBarge, i_lt, i_le, i_eq, i_clamp, i_upd, i_m1, Int32.toInt_toInt64, Int32.toInt_add, Int32.toInt_sub, Int32.toInt_mul, bm32, Int32.reduceToInt, Int64.reduceToInt, Nat.reduceLT, Nat.reduceEqDiff, reduceIte] <;> omega)), (by first | omega | (simp (disch := omega) only [↓i_in, ↓i_isCouple, ↓i_isBridge, ↓i_isTheme, ↓i_isBarge, i_lt, i_le, i_eq, i_clamp, i_upd, i_m1, Int32.toInt_toInt64, Int32.toInt_add, Int32.toInt_sub, Int32.toInt_mul, bm32, Int32.reduceToInt, Int64.reduceToInt, Nat.reduceLT, Nat.reduceEqDiff, reduceIte] <;> omega))⟩) _ _ e
set_option maxHeartbeats 4000000 in
theorem s_begins {G : Nat → Int32} {f0 : Nat → Int32} {f9 : Nat → Int32} (h_0 : WI f0) : S_m_begins G f0 f9 := by
  unfold S_m_begins
  refine sl_begins_10 ?_ (((42 : Int32).toInt - (0 : Int32).toInt).toNat + 1) 0 f0 (⟨h_0, (by first | omega | (simp (disch := omega) only [↓i_in, ↓i_isCouple, ↓i_isBridge, ↓i_isTheme, ↓i_isBarge, i_lt, i_le, i_eq, i_clamp, i_upd, i_m1, Int32.toInt_toInt64, Int32.toInt_add, Int32.toInt_sub, Int32.toInt_mul, bm32, Int32.reduceToInt, Int64.reduceToInt, Nat.reduceLT, Nat.reduceEqDiff, reduceIte] <;> omega)), (by first | omega | (simp (disch := omega) only [↓i_in, ↓i_isCouple, ↓i_isBridge, ↓i_isTheme, ↓i_isBarge, i_lt, i_le, i_eq, i_clamp, i_upd, i_m1, Int32.toInt_toInt64, Int32.toInt_add, Int32.toInt_sub, Int32.toInt_mul, bm32, Int32.reduceToInt, Int64.reduceToInt, Nat.reduceLT, Nat.reduceEqDiff, reduceIte] <;> omega))⟩)
  intro w_1l2 w_1m0 i_1
  obtain ⟨i_2, i_3, i_4⟩ := i_1
  refine sl_begins_31 ?_ (((6 : Int32).toInt - (0 : Int32).toInt).toNat + 1) 0 w_1m0 (⟨i_2, (by first | omega | (simp (disch := omega) only [↓i_in, ↓i_isCouple, ↓i_isBridge, ↓i_isTheme, ↓i_isBarge, i_lt, i_le, i_eq, i_clamp, i_upd, i_m1, Int32.toInt_toInt64, Int32.toInt_add, Int32.toInt_sub, Int32.toInt_mul, bm32, Int32.reduceToInt, Int64.reduceToInt, Nat.reduceLT, Nat.reduceEqDiff, reduceIte] <;> omega)), (by first | omega | (simp (disch := omega) only [↓i_in, ↓i_isCouple, ↓i_isBridge, ↓i_isTheme, ↓i_isBarge, i_lt, i_le, i_eq, i_clamp, i_upd, i_m1, Int32.toInt_toInt64, Int32.toInt_add, Int32.toInt_sub, Int32.toInt_mul, bm32, Int32.reduceToInt, Int64.reduceToInt, Nat.reduceLT, Nat.reduceEqDiff, reduceIte] <;> omega))⟩)
  intro w_2l2 w_2m0 i_5
  obtain ⟨i_6, i_7, i_8⟩ := i_5
  refine sl_begins_81 ?_ (((7 : Int32).toInt - (0 : Int32).toInt).toNat + 1) 0 w_2m0 (⟨i_6, (by first | omega | (simp (disch := omega) only [↓i_in, ↓i_isCouple, ↓i_isBridge, ↓i_isTheme, ↓i_isBarge, i_lt, i_le, i_eq, i_clamp, i_upd, i_m1, Int32.toInt_toInt64, Int32.toInt_add, Int32.toInt_sub, Int32.toInt_mul, bm32, Int32.reduceToInt, Int64.reduceToInt, Nat.reduceLT, Nat.reduceEqDiff, reduceIte] <;> omega)), (by first | omega | (simp (disch := omega) only [↓i_in, ↓i_isCouple, ↓i_isBridge, ↓i_isTheme, ↓i_isBarge, i_lt, i_le, i_eq, i_clamp, i_upd, i_m1, Int32.toInt_toInt64, Int32.toInt_add, Int32.toInt_sub, Int32.toInt_mul, bm32, Int32.reduceToInt, Int64.reduceToInt, Nat.reduceLT, Nat.reduceEqDiff, reduceIte] <;> omega))⟩)
  intro w_3l2 w_3m0 i_9
  obtain ⟨i_10, i_11, i_12⟩ := i_9
  exact trivial
theorem p_begins {G f0 f9 : Nat → Int32} (h : WI f0) : WI (f_m_begins G f0 f9) := by
  unfold f_m_begins
  generalize hx : f_m_begins_10 _ _ _ = x
  obtain ⟨a, b⟩ := x
  have h1 := pl_begins_10 _ _ _ ⟨h, by decide, by decide⟩ _ _ hx
  show WI (match f_m_begins_31 G f9 (((6 : Int32).toInt - (0 : Int32).toInt).toNat + 1) 0 b with | (w_2l2, w_2m0) => (match f_m_begins_81 (((7 : Int32).toInt - (0 : Int32).toInt).toNat + 1) 0 w_2m0 with | (w_3l2, w_3m0) => (upd w_3m0 (41 : Int32).toNatClampNeg (f0 (41 : Int32).toNatClampNeg))))
  generalize hy : f_m_begins_31 _ _ _ _ _ = y
  obtain ⟨c, d⟩ := y
  have h2 := pl_begins_31 _ _ _ ⟨h1.1, by decide, by decide⟩ _ _ hy
  show WI (match f_m_begins_81 (((7 : Int32).toInt - (0 : Int32).toInt).toNat + 1) 0 d with | (w_3l2, w_3m0) => (upd w_3m0 (41 : Int32).toNatClampNeg (f0 (41 : Int32).toNatClampNeg)))
  generalize hz : f_m_begins_81 _ _ _ = z
  obtain ⟨p, q⟩ := z
  have h3 := pl_begins_81 _ _ _ ⟨h2.1, by decide, by decide⟩ _ _ hz
  exact WI_upd h3.1 (h _)
set_option maxHeartbeats 4000000 in
theorem sl_minds_11 {G : Nat → Int32} {K : Int32 → (Nat → Int32) → (Nat → Int32) → Prop} (h_0 : GI G) (hK : ∀ w_5l1 w_5m0 w_5m1, (QG G w_5m0 ∧ WI w_5m1 ∧ (0 ≤ w_5l1.toInt) ∧ (w_5l1.toInt ≤ 798)) → K w_5l1 w_5m0 w_5m1) : ∀ (n : Nat) w_5l1 w_5m0 w_5m1, (QG G w_5m0 ∧ WI w_5m1 ∧ (0 ≤ w_5l1.toInt) ∧ (w_5l1.toInt ≤ 798)) → S_m_minds_11  K n w_5l1 w_5m0 w_5m1 := by
  have h_0_g := h_0
  obtain ⟨⟨h_0_2a, h_0_2b⟩, ⟨h_0_3a, h_0_3b⟩, ⟨h_0_4a, h_0_4b⟩, ⟨h_0_5a, h_0_5b⟩, ⟨h_0_6a, h_0_6b⟩, ⟨h_0_14a, h_0_14b⟩, ⟨h_0_42a, h_0_42b⟩⟩ := h_0_g
  intro n
  induction n with
  | zero => intro w_5l1 w_5m0 w_5m1 hI; exact trivial
  | succ n ih =>
    intro w_5l1 w_5m0 w_5m1 hI
    rw [S_m_minds_11_s]
    have hI0 := hI
    obtain ⟨i_1, i_2, i_3, i_4⟩ := hI0
    obtain ⟨w_5m0_2, w_5m0_3, w_5m0_4, w_5m0_5, w_5m0_6, w_5m0_14, w_5m0_42⟩ := QGs i_1
    refine ⟨fun c_5 => ?_, fun c_5 => ?_⟩
    · skip
      try simp (disch := omega) only [↓i_in, ↓i_isCouple, ↓i_isBridge, ↓i_isTheme, ↓i_isBarge, i_lt, i_le, i_eq, i_clamp, i_upd, i_m1, Int32.toInt_toInt64, Int32.toInt_add, Int32.toInt_sub, Int32.toInt_mul, bm32, Int32.reduceToInt, Int64.reduceToInt, Nat.reduceLT, Nat.reduceEqDiff, reduceIte, w_5m0_2, w_5m0_3, w_5m0_4, w_5m0_5, w_5m0_6, w_5m0_14, w_5m0_42] at c_5
      exact hK w_5l1 w_5m0 w_5m1 hI
    · skip
      try simp (disch := omega) only [↓i_in, ↓i_isCouple, ↓i_isBridge, ↓i_isTheme, ↓i_isBarge, i_lt, i_le, i_eq, i_clamp, i_upd, i_m1, Int32.toInt_toInt64, Int32.toInt_add, Int32.toInt_sub, Int32.toInt_mul, bm32, Int32.reduceToInt, Int64.reduceToInt, Nat.reduceLT, Nat.reduceEqDiff, reduceIte, w_5m0_2, w_5m0_3, w_5m0_4, w_5m0_5, w_5m0_6, w_5m0_14, w_5m0_42] at c_5
      refine ⟨vp_in_iff.mpr (by first | omega | (simp (disch := omega) only [↓i_in, ↓i_isCouple, ↓i_isBridge, ↓i_isTheme, ↓i_isBarge, i_lt, i_le, i_eq, i_clamp, i_upd, i_m1, Int32.toInt_toInt64, Int32.toInt_add, Int32.toInt_sub, Int32.toInt_mul, bm32, Int32.reduceToInt, Int64.reduceToInt, Nat.reduceLT, Nat.reduceEqDiff, reduceIte, w_5m0_2, w_5m0_3, w_5m0_4, w_5m0_5, w_5m0_6, w_5m0_14, w_5m0_42] <;> omega)), ?_⟩
      refine ⟨vp_in_iff.mpr (by first | omega | (simp (disch := omega) only [↓i_in, ↓i_isCouple, ↓i_isBridge, ↓i_isTheme, ↓i_isBarge, i_lt, i_le, i_eq, i_clamp, i_upd, i_m1, Int32.toInt_toInt64, Int32.toInt_add, Int32.toInt_sub, Int32.toInt_mul, bm32, Int32.reduceToInt, Int64.reduceToInt, Nat.reduceLT, Nat.reduceEqDiff, reduceIte, w_5m0_2, w_5m0_3, w_5m0_4, w_5m0_5, w_5m0_6, w_5m0_14, w_5m0_42] <;> omega)), ?_⟩
      exact ih (w_5l1 + 1) w_5m0 (upd w_5m1 ((462 + w_5l1) : Int32).toNatClampNeg (w_5m1 (((462 + w_5l1) + 42) : Int32).toNatClampNeg)) (⟨i_1, (WI_upd i_2 (by first | (refine OKv.out ?_; (first | omega | (simp (disch := omega) only [↓i_in, ↓i_isCouple, ↓i_isBridge, ↓i_isTheme, ↓i_isBarge, i_lt, i_le, i_eq, i_clamp, i_upd, i_m1, Int32.toInt_toInt64, Int32.toInt_add, Int32.toInt_sub, Int32.toInt_mul, bm32, Int32.reduceToInt, Int64.reduceToInt, Nat.reduceLT, Nat.reduceEqDiff, reduceIte, w_5m0_2, w_5m0_3, w_5m0_4, w_5m0_5, w_5m0_6, w_5m0_14, w_5m0_42] <;> omega))) | (refine OKv.same ?_ (i_2 _); (first | omega | (simp (disch := omega) only [↓i_in, ↓i_isCouple, ↓i_isBridge, ↓i_isTheme, ↓i_isBarge, i_lt, i_le, i_eq, i_clamp, i_upd, i_m1, Int32.toInt_toInt64, Int32.toInt_add, Int32.toInt_sub, Int32.toInt_mul, bm32, Int32.reduceToInt, Int64.reduceToInt, Nat.reduceLT, Nat.reduceEqDiff, reduceIte, w_5m0_2, w_5m0_3, w_5m0_4, w_5m0_5, w_5m0_6, w_5m0_14, w_5m0_42] <;> omega))))), (by first | omega | (simp (disch := omega) only [↓i_in, ↓i_isCouple, ↓i_isBridge, ↓i_isTheme, ↓i_isBarge, i_lt, i_le, i_eq, i_clamp, i_upd, i_m1, Int32.toInt_toInt64, Int32.toInt_add, Int32.toInt_sub, Int32.toInt_mul, bm32, Int32.reduceToInt, Int64.reduceToInt, Nat.reduceLT, Nat.reduceEqDiff, reduceIte, w_5m0_2, w_5m0_3, w_5m0_4, w_5m0_5, w_5m0_6, w_5m0_14, w_5m0_42] <;> omega)), (by first | omega | (simp (disch := omega) only [↓i_in, ↓i_isCouple, ↓i_isBridge, ↓i_isTheme, ↓i_isBarge, i_lt, i_le, i_eq, i_clamp, i_upd, i_m1, Int32.toInt_toInt64, Int32.toInt_add, Int32.toInt_sub, Int32.toInt_mul, bm32, Int32.reduceToInt, Int64.reduceToInt, Nat.reduceLT, Nat.reduceEqDiff, reduceIte, w_5m0_2, w_5m0_3, w_5m0_4, w_5m0_5, w_5m0_6, w_5m0_14, w_5m0_42] <;> omega))⟩)
theorem pl_minds_11 : ∀ (n : Nat) (l : Int32) (g w : Nat → Int32), WI w → 0 ≤ l.toInt → l.toInt ≤ 798 → WI (f_m_minds_11 n l g w).2.2 ∧ (f_m_minds_11 n l g w).2.1 = g := by
  intro n
  induction n with
  | zero => intro l g w h _ _; exact ⟨h, rfl⟩
  | succ n ih =>
    intro l g w h a b
    rw [f_m_minds_11_s]
    by_cases c : 798 ≤ l
    · rw [if_pos c]
      exact ⟨h, rfl⟩
    · rw [if_neg c]
      simp only [i_le, Int32.reduceToInt] at c
      refine ih _ _ _ (WI_upd h (OKv.same ?_ (h _))) ?_ ?_
      · simp (disch := omega) only [i_clamp, Int32.toInt_add, bm32, Int32.reduceToInt]
        omega
      · simp (disch := omega) only [Int32.toInt_add, bm32, Int32.reduceToInt]
        omega
      · simp (disch := omega) only [Int32.toInt_add, bm32, Int32.reduceToInt]
        omega
theorem p_minds {G f0 : Nat → Int32} (h_0 : GI G) (h_1 : WI f0) : ∀ (o1 o2 : Nat → Int32), f_m_minds G f0 = (o1, o2) → GI o1 ∧ WI o2 ∧ (∀ k, k ≠ 2 → o1 k = G k) := by
  intro o1 o2 e
  unfold f_m_minds at e
  have h0 := h_0
  obtain ⟨⟨a1, a2⟩, _⟩ := h0
  by_cases c : G 2 = 20
  · rw [if_pos c] at e
    generalize hx : f_m_minds_11 _ _ _ _ = x at e
    obtain ⟨p, q, r⟩ := x
    have h2 := pl_minds_11 (((798 : Int32).toInt - (0 : Int32).toInt).toNat + 1) 0 G f0 h_1 (by decide) (by decide)
    rw [hx] at h2
    obtain ⟨h3, h4⟩ := h2
    replace h4 : q = G := h4
    subst h4
    replace e : ((upd (upd q 2 ((q 2) - 1)) 2 (((upd q 2 ((q 2) - 1)) 2) + 1)), (f_m_copy r 0 (462 + (42 * ((q 2) - 1))))) = (o1, o2) := e
    rw [pk_us, c] at e
    cases e
    refine ⟨GI_u2 (GI_u2 h_0 (by decide) (by decide)) (by decide) (by decide), p_copy h3 (by decide) (by decide) (by decide) (by decide), fun k hk => ?_⟩
    rw [pk_un hk, pk_un hk]
  · rw [if_neg c] at e
    cases e
    have c2 : (G 2).toInt ≤ 19 := by
      simp only [i_eq, Int32.reduceToInt] at c
      omega
    refine ⟨GI_u2 h_0 ?_ ?_, p_copy h_1 (by decide) (by decide) ?_ ?_, fun k hk => pk_un hk⟩
    all_goals (simp (disch := omega) only [Int32.toInt_add, Int32.toInt_mul, bm32, Int32.reduceToInt]; omega)
set_option maxHeartbeats 4000000 in
theorem s_minds {G : Nat → Int32} {f0 : Nat → Int32} (h_0 : GI G) (h_1 : WI f0) : S_m_minds G f0 := by
  unfold S_m_minds
  have h_0_g := h_0
  obtain ⟨⟨h_0_2a, h_0_2b⟩, ⟨h_0_3a, h_0_3b⟩, ⟨h_0_4a, h_0_4b⟩, ⟨h_0_5a, h_0_5b⟩, ⟨h_0_6a, h_0_6b⟩, ⟨h_0_14a, h_0_14b⟩, ⟨h_0_42a, h_0_42b⟩⟩ := h_0_g
  refine ⟨fun c_1 => ?_, fun c_1 => ?_⟩
  · skip
    try simp (disch := omega) only [↓i_in, ↓i_isCouple, ↓i_isBridge, ↓i_isTheme, ↓i_isBarge, i_lt, i_le, i_eq, i_clamp, i_upd, i_m1, Int32.toInt_toInt64, Int32.toInt_add, Int32.toInt_sub, Int32.toInt_mul, bm32, Int32.reduceToInt, Int64.reduceToInt, Nat.reduceLT, Nat.reduceEqDiff, reduceIte] at c_1
    refine sl_minds_11 h_0 ?_ (((798 : Int32).toInt - (0 : Int32).toInt).toNat + 1) 0 G f0 (⟨(QG.refl _), h_1, (by first | omega | (simp (disch := omega) only [↓i_in, ↓i_isCouple, ↓i_isBridge, ↓i_isTheme, ↓i_isBarge, i_lt, i_le, i_eq, i_clamp, i_upd, i_m1, Int32.toInt_toInt64, Int32.toInt_add, Int32.toInt_sub, Int32.toInt_mul, bm32, Int32.reduceToInt, Int64.reduceToInt, Nat.reduceLT, Nat.reduceEqDiff, reduceIte] <;> omega)), (by first | omega | (simp (disch := omega) only [↓i_in, ↓i_isCouple, ↓i_isBridge, ↓i_isTheme, ↓i_isBarge, i_lt, i_le, i_eq, i_clamp, i_upd, i_m1, Int32.toInt_toInt64, Int32.toInt_add, Int32.toInt_sub, Int32.toInt_mul, bm32, Int32.reduceToInt, Int64.reduceToInt, Nat.reduceLT, Nat.reduceEqDiff, reduceIte] <;> omega))⟩)
    intro w_5l1 w_5m0 w_5m1 i_2
    obtain ⟨i_3, i_4, i_5, i_6⟩ := i_2
    obtain ⟨w_5m0_2, w_5m0_3, w_5m0_4, w_5m0_5, w_5m0_6, w_5m0_14, w_5m0_42⟩ := QGs i_3
    refine ⟨(s_copy (by first | omega | (simp (disch := omega) only [↓i_in, ↓i_isCouple, ↓i_isBridge, ↓i_isTheme, ↓i_isBarge, i_lt, i_le, i_eq, i_clamp, i_upd, i_m1, Int32.toInt_toInt64, Int32.toInt_add, Int32.toInt_sub, Int32.toInt_mul, bm32, Int32.reduceToInt, Int64.reduceToInt, Nat.reduceLT, Nat.reduceEqDiff, reduceIte, w_5m0_2, w_5m0_3, w_5m0_4, w_5m0_5, w_5m0_6, w_5m0_14, w_5m0_42] <;> omega)) (by first | omega | (simp (disch := omega) only [↓i_in, ↓i_isCouple, ↓i_isBridge, ↓i_isTheme, ↓i_isBarge, i_lt, i_le, i_eq, i_clamp, i_upd, i_m1, Int32.toInt_toInt64, Int32.toInt_add, Int32.toInt_sub, Int32.toInt_mul, bm32, Int32.reduceToInt, Int64.reduceToInt, Nat.reduceLT, Nat.reduceEqDiff, reduceIte, w_5m0_2, w_5m0_3, w_5m0_4, w_5m0_5, w_5m0_6, w_5m0_14, w_5m0_42] <;> omega)) (by first | omega | (simp (disch := omega) only [↓i_in, ↓i_isCouple, ↓i_isBridge, ↓i_isTheme, ↓i_isBarge, i_lt, i_le, i_eq, i_clamp, i_upd, i_m1, Int32.toInt_toInt64, Int32.toInt_add, Int32.toInt_sub, Int32.toInt_mul, bm32, Int32.reduceToInt, Int64.reduceToInt, Nat.reduceLT, Nat.reduceEqDiff, reduceIte, w_5m0_2, w_5m0_3, w_5m0_4, w_5m0_5, w_5m0_6, w_5m0_14, w_5m0_42] <;> omega)) (by first | omega | (simp (disch := omega) only [↓i_in, ↓i_isCouple, ↓i_isBridge, ↓i_isTheme, ↓i_isBarge, i_lt, i_le, i_eq, i_clamp, i_upd, i_m1, Int32.toInt_toInt64, Int32.toInt_add, Int32.toInt_sub, Int32.toInt_mul, bm32, Int32.reduceToInt, Int64.reduceToInt, Nat.reduceLT, Nat.reduceEqDiff, reduceIte, w_5m0_2, w_5m0_3, w_5m0_4, w_5m0_5, w_5m0_6, w_5m0_14, w_5m0_42] <;> omega))), ?_⟩
    exact trivial
  · skip
    try simp (disch := omega) only [↓i_in, ↓i_isCouple, ↓i_isBridge, ↓i_isTheme, ↓i_isBarge, i_lt, i_le, i_eq, i_clamp, i_upd, i_m1, Int32.toInt_toInt64, Int32.toInt_add, Int32.toInt_sub, Int32.toInt_mul, bm32, Int32.reduceToInt, Int64.reduceToInt, Nat.reduceLT, Nat.reduceEqDiff, reduceIte] at c_1
    refine ⟨(s_copy (by first | omega | (simp (disch := omega) only [↓i_in, ↓i_isCouple, ↓i_isBridge, ↓i_isTheme, ↓i_isBarge, i_lt, i_le, i_eq, i_clamp, i_upd, i_m1, Int32.toInt_toInt64, Int32.toInt_add, Int32.toInt_sub, Int32.toInt_mul, bm32, Int32.reduceToInt, Int64.reduceToInt, Nat.reduceLT, Nat.reduceEqDiff, reduceIte] <;> omega)) (by first | omega | (simp (disch := omega) only [↓i_in, ↓i_isCouple, ↓i_isBridge, ↓i_isTheme, ↓i_isBarge, i_lt, i_le, i_eq, i_clamp, i_upd, i_m1, Int32.toInt_toInt64, Int32.toInt_add, Int32.toInt_sub, Int32.toInt_mul, bm32, Int32.reduceToInt, Int64.reduceToInt, Nat.reduceLT, Nat.reduceEqDiff, reduceIte] <;> omega)) (by first | omega | (simp (disch := omega) only [↓i_in, ↓i_isCouple, ↓i_isBridge, ↓i_isTheme, ↓i_isBarge, i_lt, i_le, i_eq, i_clamp, i_upd, i_m1, Int32.toInt_toInt64, Int32.toInt_add, Int32.toInt_sub, Int32.toInt_mul, bm32, Int32.reduceToInt, Int64.reduceToInt, Nat.reduceLT, Nat.reduceEqDiff, reduceIte] <;> omega)) (by first | omega | (simp (disch := omega) only [↓i_in, ↓i_isCouple, ↓i_isBridge, ↓i_isTheme, ↓i_isBarge, i_lt, i_le, i_eq, i_clamp, i_upd, i_m1, Int32.toInt_toInt64, Int32.toInt_add, Int32.toInt_sub, Int32.toInt_mul, bm32, Int32.reduceToInt, Int64.reduceToInt, Nat.reduceLT, Nat.reduceEqDiff, reduceIte] <;> omega))), ?_⟩
    exact trivial
end
section
set_option maxHeartbeats 4000000 in
theorem sl_bargesThat_4 {G : Nat → Int32} {f0 : Nat → Int32} {i_ : Int32} {K : Int32 → Int32 → Prop} (h_0 : GI G) (hK : ∀ w_1l3 w_1l2, ((0 ≤ w_1l3.toInt) ∧ (w_1l3.toInt ≤ 7)) → K w_1l3 w_1l2) : ∀ (n : Nat) w_1l3 w_1l2, ((0 ≤ w_1l3.toInt) ∧ (w_1l3.toInt ≤ 7)) → S_m_bargesThat_4 G f0 i_ K n w_1l3 w_1l2 := by
  have h_0_g := h_0
  obtain ⟨⟨h_0_2a, h_0_2b⟩, ⟨h_0_3a, h_0_3b⟩, ⟨h_0_4a, h_0_4b⟩, ⟨h_0_5a, h_0_5b⟩, ⟨h_0_6a, h_0_6b⟩, ⟨h_0_14a, h_0_14b⟩, ⟨h_0_42a, h_0_42b⟩⟩ := h_0_g
  intro n
  induction n with
  | zero => intro w_1l3 w_1l2 hI; exact trivial
  | succ n ih =>
    intro w_1l3 w_1l2 hI
    rw [S_m_bargesThat_4_s]
    have hI0 := hI
    obtain ⟨i_1, i_2⟩ := hI0
    refine ⟨fun c_3 => ?_, fun c_3 => ?_⟩
    · skip
      try simp (disch := omega) only [↓i_in, ↓i_isCouple, ↓i_isBridge, ↓i_isTheme, ↓i_isBarge, i_lt, i_le, i_eq, i_clamp, i_upd, i_m1, Int32.toInt_toInt64, Int32.toInt_add, Int32.toInt_sub, Int32.toInt_mul, bm32, Int32.reduceToInt, Int64.reduceToInt, Nat.reduceLT, Nat.reduceEqDiff, reduceIte] at c_3
      exact hK w_1l3 w_1l2 hI
    · skip
      try simp (disch := omega) only [↓i_in, ↓i_isCouple, ↓i_isBridge, ↓i_isTheme, ↓i_isBarge, i_lt, i_le, i_eq, i_clamp, i_upd, i_m1, Int32.toInt_toInt64, Int32.toInt_add, Int32.toInt_sub, Int32.toInt_mul, bm32, Int32.reduceToInt, Int64.reduceToInt, Nat.reduceLT, Nat.reduceEqDiff, reduceIte] at c_3
      refine ⟨vp_in_iff.mpr (by first | omega | (simp (disch := omega) only [↓i_in, ↓i_isCouple, ↓i_isBridge, ↓i_isTheme, ↓i_isBarge, i_lt, i_le, i_eq, i_clamp, i_upd, i_m1, Int32.toInt_toInt64, Int32.toInt_add, Int32.toInt_sub, Int32.toInt_mul, bm32, Int32.reduceToInt, Int64.reduceToInt, Nat.reduceLT, Nat.reduceEqDiff, reduceIte] <;> omega)), ?_⟩
      refine ⟨fun c_4 => ?_, fun c_4 => ?_⟩
      · skip
        try simp (disch := omega) only [↓i_in, ↓i_isCouple, ↓i_isBridge, ↓i_isTheme, ↓i_isBarge, i_lt, i_le, i_eq, i_clamp, i_upd, i_m1, Int32.toInt_toInt64, Int32.toInt_add, Int32.toInt_sub, Int32.toInt_mul, bm32, Int32.reduceToInt, Int64.reduceToInt, Nat.reduceLT, Nat.reduceEqDiff, reduceIte] at c_4
        exact ih (w_1l3 + 1) (w_1l2 ||| (1 <<< (w_1l3 &&& 31))) (⟨(by first | omega | (simp (disch := omega) only [↓i_in, ↓i_isCouple, ↓i_isBridge, ↓i_isTheme, ↓i_isBarge, i_lt, i_le, i_eq, i_clamp, i_upd, i_m1, Int32.toInt_toInt64, Int32.toInt_add, Int32.toInt_sub, Int32.toInt_mul, bm32, Int32.reduceToInt, Int64.reduceToInt, Nat.reduceLT, Nat.reduceEqDiff, reduceIte] <;> omega)), (by first | omega | (simp (disch := omega) only [↓i_in, ↓i_isCouple, ↓i_isBridge, ↓i_isTheme, ↓i_isBarge, i_lt, i_le, i_eq, i_clamp, i_upd, i_m1, Int32.toInt_toInt64, Int32.toInt_add, Int32.toInt_sub, Int32.toInt_mul, bm32, Int32.reduceToInt, Int64.reduceToInt, Nat.reduceLT, Nat.reduceEqDiff, reduceIte] <;> omega))⟩)
      · skip
        try simp (disch := omega) only [↓i_in, ↓i_isCouple, ↓i_isBridge, ↓i_isTheme, ↓i_isBarge, i_lt, i_le, i_eq, i_clamp, i_upd, i_m1, Int32.toInt_toInt64, Int32.toInt_add, Int32.toInt_sub, Int32.toInt_mul, bm32, Int32.reduceToInt, Int64.reduceToInt, Nat.reduceLT, Nat.reduceEqDiff, reduceIte] at c_4
        exact ih (w_1l3 + 1) (w_1l2 ||| 0) (⟨(by first | omega | (simp (disch := omega) only [↓i_in, ↓i_isCouple, ↓i_isBridge, ↓i_isTheme, ↓i_isBarge, i_lt, i_le, i_eq, i_clamp, i_upd, i_m1, Int32.toInt_toInt64, Int32.toInt_add, Int32.toInt_sub, Int32.toInt_mul, bm32, Int32.reduceToInt, Int64.reduceToInt, Nat.reduceLT, Nat.reduceEqDiff, reduceIte] <;> omega)), (by first | omega | (simp (disch := omega) only [↓i_in, ↓i_isCouple, ↓i_isBridge, ↓i_isTheme, ↓i_isBarge, i_lt, i_le, i_eq, i_clamp, i_upd, i_m1, Int32.toInt_toInt64, Int32.toInt_add, Int32.toInt_sub, Int32.toInt_mul, bm32, Int32.reduceToInt, Int64.reduceToInt, Nat.reduceLT, Nat.reduceEqDiff, reduceIte] <;> omega))⟩)
set_option maxHeartbeats 4000000 in
theorem s_bargesThat {G : Nat → Int32} {f0 : Nat → Int32} {i_ : Int32} (h_0 : GI G) : S_m_bargesThat G f0 i_ := by
  unfold S_m_bargesThat
  have h_0_g := h_0
  obtain ⟨⟨h_0_2a, h_0_2b⟩, ⟨h_0_3a, h_0_3b⟩, ⟨h_0_4a, h_0_4b⟩, ⟨h_0_5a, h_0_5b⟩, ⟨h_0_6a, h_0_6b⟩, ⟨h_0_14a, h_0_14b⟩, ⟨h_0_42a, h_0_42b⟩⟩ := h_0_g
  refine sl_bargesThat_4 h_0 ?_ ((((G 6) : Int32).toInt - (0 : Int32).toInt).toNat + 1) 0 0 (⟨(by first | omega | (simp (disch := omega) only [↓i_in, ↓i_isCouple, ↓i_isBridge, ↓i_isTheme, ↓i_isBarge, i_lt, i_le, i_eq, i_clamp, i_upd, i_m1, Int32.toInt_toInt64, Int32.toInt_add, Int32.toInt_sub, Int32.toInt_mul, bm32, Int32.reduceToInt, Int64.reduceToInt, Nat.reduceLT, Nat.reduceEqDiff, reduceIte] <;> omega)), (by first | omega | (simp (disch := omega) only [↓i_in, ↓i_isCouple, ↓i_isBridge, ↓i_isTheme, ↓i_isBarge, i_lt, i_le, i_eq, i_clamp, i_upd, i_m1, Int32.toInt_toInt64, Int32.toInt_add, Int32.toInt_sub, Int32.toInt_mul, bm32, Int32.reduceToInt, Int64.reduceToInt, Nat.reduceLT, Nat.reduceEqDiff, reduceIte] <;> omega))⟩)
  intro w_1l3 w_1l2 i_1
  obtain ⟨i_2, i_3⟩ := i_1
  exact trivial
set_option maxHeartbeats 4000000 in
theorem sl_griefOf_4 {G : Nat → Int32} {f0 : Nat → Int32} {s_ : Int32} {K : Int32 → Int32 → Prop} (h_0 : GI G) (hK : ∀ w_1l3 w_1l2, ((0 ≤ w_1l3.toInt) ∧ (w_1l3.toInt ≤ 6)) → K w_1l3 w_1l2) : ∀ (n : Nat) w_1l3 w_1l2, ((0 ≤ w_1l3.toInt) ∧ (w_1l3.toInt ≤ 6)) → S_m_griefOf_4 G f0 s_ K n w_1l3 w_1l2 := by
  have h_0_g := h_0
  obtain ⟨⟨h_0_2a, h_0_2b⟩, ⟨h_0_3a, h_0_3b⟩, ⟨h_0_4a, h_0_4b⟩, ⟨h_0_5a, h_0_5b⟩, ⟨h_0_6a, h_0_6b⟩, ⟨h_0_14a, h_0_14b⟩, ⟨h_0_42a, h_0_42b⟩⟩ := h_0_g
  intro n
  induction n with
  | zero => intro w_1l3 w_1l2 hI; exact trivial
  | succ n ih =>
    intro w_1l3 w_1l2 hI
    rw [S_m_griefOf_4_s]
    have hI0 := hI
    obtain ⟨i_1, i_2⟩ := hI0
    refine ⟨fun c_3 => ?_, fun c_3 => ?_⟩
    · skip
      try simp (disch := omega) only [↓i_in, ↓i_isCouple, ↓i_isBridge, ↓i_isTheme, ↓i_isBarge, i_lt, i_le, i_eq, i_clamp, i_upd, i_m1, Int32.toInt_toInt64, Int32.toInt_add, Int32.toInt_sub, Int32.toInt_mul, bm32, Int32.reduceToInt, Int64.reduceToInt, Nat.reduceLT, Nat.reduceEqDiff, reduceIte] at c_3
      exact hK w_1l3 w_1l2 hI
    · skip
      try simp (disch := omega) only [↓i_in, ↓i_isCouple, ↓i_isBridge, ↓i_isTheme, ↓i_isBarge, i_lt, i_le, i_eq, i_clamp, i_upd, i_m1, Int32.toInt_toInt64, Int32.toInt_add, Int32.toInt_sub, Int32.toInt_mul, bm32, Int32.reduceToInt, Int64.reduceToInt, Nat.reduceLT, Nat.reduceEqDiff, reduceIte] at c_3
      refine ⟨s_has, ?_⟩
      refine ⟨fun c_4 => ?_, fun c_4 => ?_⟩
      · skip
        try simp (disch := omega) only [↓i_in, ↓i_isCouple, ↓i_isBridge, ↓i_isTheme, ↓i_isBarge, i_lt, i_le, i_eq, i_clamp, i_upd, i_m1, Int32.toInt_toInt64, Int32.toInt_add, Int32.toInt_sub, Int32.toInt_mul, bm32, Int32.reduceToInt, Int64.reduceToInt, Nat.reduceLT, Nat.reduceEqDiff, reduceIte] at c_4
        exact ih (w_1l3 + 1) (w_1l2 + 0) (⟨(by first | omega | (simp (disch := omega) only [↓i_in, ↓i_isCouple, ↓i_isBridge, ↓i_isTheme, ↓i_isBarge, i_lt, i_le, i_eq, i_clamp, i_upd, i_m1, Int32.toInt_toInt64, Int32.toInt_add, Int32.toInt_sub, Int32.toInt_mul, bm32, Int32.reduceToInt, Int64.reduceToInt, Nat.reduceLT, Nat.reduceEqDiff, reduceIte] <;> omega)), (by first | omega | (simp (disch := omega) only [↓i_in, ↓i_isCouple, ↓i_isBridge, ↓i_isTheme, ↓i_isBarge, i_lt, i_le, i_eq, i_clamp, i_upd, i_m1, Int32.toInt_toInt64, Int32.toInt_add, Int32.toInt_sub, Int32.toInt_mul, bm32, Int32.reduceToInt, Int64.reduceToInt, Nat.reduceLT, Nat.reduceEqDiff, reduceIte] <;> omega))⟩)
      · skip
        try simp (disch := omega) only [↓i_in, ↓i_isCouple, ↓i_isBridge, ↓i_isTheme, ↓i_isBarge, i_lt, i_le, i_eq, i_clamp, i_upd, i_m1, Int32.toInt_toInt64, Int32.toInt_add, Int32.toInt_sub, Int32.toInt_mul, bm32, Int32.reduceToInt, Int64.reduceToInt, Nat.reduceLT, Nat.reduceEqDiff, reduceIte] at c_4
        refine ⟨vp_in_iff.mpr (by first | omega | (simp (disch := omega) only [↓i_in, ↓i_isCouple, ↓i_isBridge, ↓i_isTheme, ↓i_isBarge, i_lt, i_le, i_eq, i_clamp, i_upd, i_m1, Int32.toInt_toInt64, Int32.toInt_add, Int32.toInt_sub, Int32.toInt_mul, bm32, Int32.reduceToInt, Int64.reduceToInt, Nat.reduceLT, Nat.reduceEqDiff, reduceIte] <;> omega)), ?_⟩
        exact ih (w_1l3 + 1) (w_1l2 + (f0 ((0 + w_1l3) : Int32).toNatClampNeg)) (⟨(by first | omega | (simp (disch := omega) only [↓i_in, ↓i_isCouple, ↓i_isBridge, ↓i_isTheme, ↓i_isBarge, i_lt, i_le, i_eq, i_clamp, i_upd, i_m1, Int32.toInt_toInt64, Int32.toInt_add, Int32.toInt_sub, Int32.toInt_mul, bm32, Int32.reduceToInt, Int64.reduceToInt, Nat.reduceLT, Nat.reduceEqDiff, reduceIte] <;> omega)), (by first | omega | (simp (disch := omega) only [↓i_in, ↓i_isCouple, ↓i_isBridge, ↓i_isTheme, ↓i_isBarge, i_lt, i_le, i_eq, i_clamp, i_upd, i_m1, Int32.toInt_toInt64, Int32.toInt_add, Int32.toInt_sub, Int32.toInt_mul, bm32, Int32.reduceToInt, Int64.reduceToInt, Nat.reduceLT, Nat.reduceEqDiff, reduceIte] <;> omega))⟩)
set_option maxHeartbeats 4000000 in
theorem s_griefOf {G : Nat → Int32} {f0 : Nat → Int32} {s_ : Int32} (h_0 : GI G) : S_m_griefOf G f0 s_ := by
  unfold S_m_griefOf
  have h_0_g := h_0
  obtain ⟨⟨h_0_2a, h_0_2b⟩, ⟨h_0_3a, h_0_3b⟩, ⟨h_0_4a, h_0_4b⟩, ⟨h_0_5a, h_0_5b⟩, ⟨h_0_6a, h_0_6b⟩, ⟨h_0_14a, h_0_14b⟩, ⟨h_0_42a, h_0_42b⟩⟩ := h_0_g
  refine sl_griefOf_4 h_0 ?_ ((((G 5) : Int32).toInt - (0 : Int32).toInt).toNat + 1) 0 0 (⟨(by first | omega | (simp (disch := omega) only [↓i_in, ↓i_isCouple, ↓i_isBridge, ↓i_isTheme, ↓i_isBarge, i_lt, i_le, i_eq, i_clamp, i_upd, i_m1, Int32.toInt_toInt64, Int32.toInt_add, Int32.toInt_sub, Int32.toInt_mul, bm32, Int32.reduceToInt, Int64.reduceToInt, Nat.reduceLT, Nat.reduceEqDiff, reduceIte] <;> omega)), (by first | omega | (simp (disch := omega) only [↓i_in, ↓i_isCouple, ↓i_isBridge, ↓i_isTheme, ↓i_isBarge, i_lt, i_le, i_eq, i_clamp, i_upd, i_m1, Int32.toInt_toInt64, Int32.toInt_add, Int32.toInt_sub, Int32.toInt_mul, bm32, Int32.reduceToInt, Int64.reduceToInt, Nat.reduceLT, Nat.reduceEqDiff, reduceIte] <;> omega))⟩)
  intro w_1l3 w_1l2 i_1
  obtain ⟨i_2, i_3⟩ := i_1
  exact trivial
set_option maxHeartbeats 4000000 in
theorem sl_whoIsAt_5 {G : Nat → Int32} {f0 : Nat → Int32} {h_ : Int32} {b_ : Int32} {K : Int32 → Int32 → Prop} (h_0 : GI G) (h_1 : 0 ≤ h_.toInt) (h_2 : h_.toInt ≤ 1260) (hK : ∀ w_1l4 w_1l3, ((0 ≤ w_1l4.toInt) ∧ (w_1l4.toInt ≤ (G 5).toInt) ∧ (-1 ≤ w_1l3.toInt) ∧ (w_1l3.toInt < (G 5).toInt)) → K w_1l4 w_1l3) : ∀ (n : Nat) w_1l4 w_1l3, ((0 ≤ w_1l4.toInt) ∧ (w_1l4.toInt ≤ (G 5).toInt) ∧ (-1 ≤ w_1l3.toInt) ∧ (w_1l3.toInt < (G 5).toInt)) → S_m_whoIsAt_5 G f0 h_ b_ K n w_1l4 w_1l3 := by
  have h_0_g := h_0
  obtain ⟨⟨h_0_2a, h_0_2b⟩, ⟨h_0_3a, h_0_3b⟩, ⟨h_0_4a, h_0_4b⟩, ⟨h_0_5a, h_0_5b⟩, ⟨h_0_6a, h_0_6b⟩, ⟨h_0_14a, h_0_14b⟩, ⟨h_0_42a, h_0_42b⟩⟩ := h_0_g
  intro n
  induction n with
  | zero => intro w_1l4 w_1l3 hI; exact trivial
  | succ n ih =>
    intro w_1l4 w_1l3 hI
    rw [S_m_whoIsAt_5_s]
    have hI0 := hI
    obtain ⟨i_1, i_2, i_3, i_4⟩ := hI0
    refine ⟨fun c_5 => ?_, fun c_5 => ?_⟩
    · skip
      try simp (disch := omega) only [↓i_in, ↓i_isCouple, ↓i_isBridge, ↓i_isTheme, ↓i_isBarge, i_lt, i_le, i_eq, i_clamp, i_upd, i_m1, Int32.toInt_toInt64, Int32.toInt_add, Int32.toInt_sub, Int32.toInt_mul, bm32, Int32.reduceToInt, Int64.reduceToInt, Nat.reduceLT, Nat.reduceEqDiff, reduceIte] at c_5
      exact hK w_1l4 w_1l3 hI
    · skip
      try simp (disch := omega) only [↓i_in, ↓i_isCouple, ↓i_isBridge, ↓i_isTheme, ↓i_isBarge, i_lt, i_le, i_eq, i_clamp, i_upd, i_m1, Int32.toInt_toInt64, Int32.toInt_add, Int32.toInt_sub, Int32.toInt_mul, bm32, Int32.reduceToInt, Int64.reduceToInt, Nat.reduceLT, Nat.reduceEqDiff, reduceIte] at c_5
      refine ⟨vp_in_iff.mpr (by first | omega | (simp (disch := omega) only [↓i_in, ↓i_isCouple, ↓i_isBridge, ↓i_isTheme, ↓i_isBarge, i_lt, i_le, i_eq, i_clamp, i_upd, i_m1, Int32.toInt_toInt64, Int32.toInt_add, Int32.toInt_sub, Int32.toInt_mul, bm32, Int32.reduceToInt, Int64.reduceToInt, Nat.reduceLT, Nat.reduceEqDiff, reduceIte] <;> omega)), ?_⟩
      refine ⟨fun c_6 => ?_, fun c_6 => ?_⟩
      · skip
        try simp (disch := omega) only [↓i_in, ↓i_isCouple, ↓i_isBridge, ↓i_isTheme, ↓i_isBarge, i_lt, i_le, i_eq, i_clamp, i_upd, i_m1, Int32.toInt_toInt64, Int32.toInt_add, Int32.toInt_sub, Int32.toInt_mul, bm32, Int32.reduceToInt, Int64.reduceToInt, Nat.reduceLT, Nat.reduceEqDiff, reduceIte] at c_6
        exact ih (w_1l4 + 1) w_1l4 (⟨(by first | omega | (simp (disch := omega) only [↓i_in, ↓i_isCouple, ↓i_isBridge, ↓i_isTheme, ↓i_isBarge, i_lt, i_le, i_eq, i_clamp, i_upd, i_m1, Int32.toInt_toInt64, Int32.toInt_add, Int32.toInt_sub, Int32.toInt_mul, bm32, Int32.reduceToInt, Int64.reduceToInt, Nat.reduceLT, Nat.reduceEqDiff, reduceIte] <;> omega)), (by first | omega | (simp (disch := omega) only [↓i_in, ↓i_isCouple, ↓i_isBridge, ↓i_isTheme, ↓i_isBarge, i_lt, i_le, i_eq, i_clamp, i_upd, i_m1, Int32.toInt_toInt64, Int32.toInt_add, Int32.toInt_sub, Int32.toInt_mul, bm32, Int32.reduceToInt, Int64.reduceToInt, Nat.reduceLT, Nat.reduceEqDiff, reduceIte] <;> omega)), (by first | omega | (simp (disch := omega) only [↓i_in, ↓i_isCouple, ↓i_isBridge, ↓i_isTheme, ↓i_isBarge, i_lt, i_le, i_eq, i_clamp, i_upd, i_m1, Int32.toInt_toInt64, Int32.toInt_add, Int32.toInt_sub, Int32.toInt_mul, bm32, Int32.reduceToInt, Int64.reduceToInt, Nat.reduceLT, Nat.reduceEqDiff, reduceIte] <;> omega)), (by first | omega | (simp (disch := omega) only [↓i_in, ↓i_isCouple, ↓i_isBridge, ↓i_isTheme, ↓i_isBarge, i_lt, i_le, i_eq, i_clamp, i_upd, i_m1, Int32.toInt_toInt64, Int32.toInt_add, Int32.toInt_sub, Int32.toInt_mul, bm32, Int32.reduceToInt, Int64.reduceToInt, Nat.reduceLT, Nat.reduceEqDiff, reduceIte] <;> omega))⟩)
      · skip
        try simp (disch := omega) only [↓i_in, ↓i_isCouple, ↓i_isBridge, ↓i_isTheme, ↓i_isBarge, i_lt, i_le, i_eq, i_clamp, i_upd, i_m1, Int32.toInt_toInt64, Int32.toInt_add, Int32.toInt_sub, Int32.toInt_mul, bm32, Int32.reduceToInt, Int64.reduceToInt, Nat.reduceLT, Nat.reduceEqDiff, reduceIte] at c_6
        exact ih (w_1l4 + 1) w_1l3 (⟨(by first | omega | (simp (disch := omega) only [↓i_in, ↓i_isCouple, ↓i_isBridge, ↓i_isTheme, ↓i_isBarge, i_lt, i_le, i_eq, i_clamp, i_upd, i_m1, Int32.toInt_toInt64, Int32.toInt_add, Int32.toInt_sub, Int32.toInt_mul, bm32, Int32.reduceToInt, Int64.reduceToInt, Nat.reduceLT, Nat.reduceEqDiff, reduceIte] <;> omega)), (by first | omega | (simp (disch := omega) only [↓i_in, ↓i_isCouple, ↓i_isBridge, ↓i_isTheme, ↓i_isBarge, i_lt, i_le, i_eq, i_clamp, i_upd, i_m1, Int32.toInt_toInt64, Int32.toInt_add, Int32.toInt_sub, Int32.toInt_mul, bm32, Int32.reduceToInt, Int64.reduceToInt, Nat.reduceLT, Nat.reduceEqDiff, reduceIte] <;> omega)), (by first | omega | (simp (disch := omega) only [↓i_in, ↓i_isCouple, ↓i_isBridge, ↓i_isTheme, ↓i_isBarge, i_lt, i_le, i_eq, i_clamp, i_upd, i_m1, Int32.toInt_toInt64, Int32.toInt_add, Int32.toInt_sub, Int32.toInt_mul, bm32, Int32.reduceToInt, Int64.reduceToInt, Nat.reduceLT, Nat.reduceEqDiff, reduceIte] <;> omega)), (by first | omega | (simp (disch := omega) only [↓i_in, ↓i_isCouple, ↓i_isBridge, ↓i_isTheme, ↓i_isBarge, i_lt, i_le, i_eq, i_clamp, i_upd, i_m1, Int32.toInt_toInt64, Int32.toInt_add, Int32.toInt_sub, Int32.toInt_mul, bm32, Int32.reduceToInt, Int64.reduceToInt, Nat.reduceLT, Nat.reduceEqDiff, reduceIte] <;> omega))⟩)
set_option maxHeartbeats 4000000 in
theorem pl_whoIsAt_5 {G : Nat → Int32} {f0 : Nat → Int32} {h_ : Int32} {b_ : Int32} (h_0 : GI G) (h_1 : 0 ≤ h_.toInt) (h_2 : h_.toInt ≤ 1260) : ∀ (n : Nat) w_1l4 w_1l3, ((0 ≤ w_1l4.toInt) ∧ (w_1l4.toInt ≤ (G 5).toInt) ∧ (-1 ≤ w_1l3.toInt) ∧ (w_1l3.toInt < (G 5).toInt)) → ∀ r0 r1, f_m_whoIsAt_5 G f0 h_ b_ n w_1l4 w_1l3 = (r0, r1) → (0 ≤ r0.toInt) ∧ (r0.toInt ≤ (G 5).toInt) ∧ (-1 ≤ r1.toInt) ∧ (r1.toInt < (G 5).toInt) := by
  have h_0_g := h_0
  obtain ⟨⟨h_0_2a, h_0_2b⟩, ⟨h_0_3a, h_0_3b⟩, ⟨h_0_4a, h_0_4b⟩, ⟨h_0_5a, h_0_5b⟩, ⟨h_0_6a, h_0_6b⟩, ⟨h_0_14a, h_0_14b⟩, ⟨h_0_42a, h_0_42b⟩⟩ := h_0_g
  intro n
  induction n with
  | zero =>
    intro w_1l4 w_1l3 hI r0 r1 e
    replace e : (w_1l4, w_1l3) = (r0, r1) := e
    cases e
    exact hI
  | succ n ih =>
    intro w_1l4 w_1l3 hI r0 r1 e
    rw [f_m_whoIsAt_5_s] at e
    have hI0 := hI
    obtain ⟨i_1, i_2, i_3, i_4⟩ := hI0
    by_cases c_5 : (G 5) ≤ w_1l4
    · rw [if_pos c_5] at e
      try simp (disch := omega) only [↓i_in, ↓i_isCouple, ↓i_isBridge, ↓i_isTheme, ↓i_isBarge, i_lt, i_le, i_eq, i_clamp, i_upd, i_m1, Int32.toInt_toInt64, Int32.toInt_add, Int32.toInt_sub, Int32.toInt_mul, bm32, Int32.reduceToInt, Int64.reduceToInt, Nat.reduceLT, Nat.reduceEqDiff, reduceIte] at c_5
      cases e
      exact hI
    · rw [if_neg c_5] at e
      try simp (disch := omega) only [↓i_in, ↓i_isCouple, ↓i_isBridge, ↓i_isTheme, ↓i_isBarge, i_lt, i_le, i_eq, i_clamp, i_upd, i_m1, Int32.toInt_toInt64, Int32.toInt_add, Int32.toInt_sub, Int32.toInt_mul, bm32, Int32.reduceToInt, Int64.reduceToInt, Nat.reduceLT, Nat.reduceEqDiff, reduceIte] at c_5
      by_cases c_6 : (f0 (((h_ + 6) + w_1l4) : Int32).toNatClampNeg) = b_
      · rw [if_pos c_6] at e
        try simp (disch := omega) only [↓i_in, ↓i_isCouple, ↓i_isBridge, ↓i_isTheme, ↓i_isBarge, i_lt, i_le, i_eq, i_clamp, i_upd, i_m1, Int32.toInt_toInt64, Int32.toInt_add, Int32.toInt_sub, Int32.toInt_mul, bm32, Int32.reduceToInt, Int64.reduceToInt, Nat.reduceLT, Nat.reduceEqDiff, reduceIte] at c_6
        exact ih (w_1l4 + 1) w_1l4 (⟨(by first | omega | (simp (disch := omega) only [↓i_in, ↓i_isCouple, ↓i_isBridge, ↓i_isTheme, ↓i_isBarge, i_lt, i_le, i_eq, i_clamp, i_upd, i_m1, Int32.toInt_toInt64, Int32.toInt_add, Int32.toInt_sub, Int32.toInt_mul, bm32, Int32.reduceToInt, Int64.reduceToInt, Nat.reduceLT, Nat.reduceEqDiff, reduceIte] <;> omega)), (by first | omega | (simp (disch := omega) only [↓i_in, ↓i_isCouple, ↓i_isBridge, ↓i_isTheme, ↓i_isBarge, i_lt, i_le, i_eq, i_clamp, i_upd, i_m1, Int32.toInt_toInt64, Int32.toInt_add, Int32.toInt_sub, Int32.toInt_mul, bm32, Int32.reduceToInt, Int64.reduceToInt, Nat.reduceLT, Nat.reduceEqDiff, reduceIte] <;> omega)), (by first | omega | (simp (disch := omega) only [↓i_in, ↓i_isCouple, ↓i_isBridge, ↓i_isTheme, ↓i_isBarge, i_lt, i_le, i_eq, i_clamp, i_upd, i_m1, Int32.toInt_toInt64, Int32.toInt_add, Int32.toInt_sub, Int32.toInt_mul, bm32, Int32.reduceToInt, Int64.reduceToInt, Nat.reduceLT, Nat.reduceEqDiff, reduceIte] <;> omega)), (by first | omega | (simp (disch := omega) only [↓i_in, ↓i_isCouple, ↓i_isBridge, ↓i_isTheme, ↓i_isBarge, i_lt, i_le, i_eq, i_clamp, i_upd, i_m1, Int32.toInt_toInt64, Int32.toInt_add, Int32.toInt_sub, Int32.toInt_mul, bm32, Int32.reduceToInt, Int64.reduceToInt, Nat.reduceLT, Nat.reduceEqDiff, reduceIte] <;> omega))⟩) _ _ e
      · rw [if_neg c_6] at e
        try simp (disch := omega) only [↓i_in, ↓i_isCouple, ↓i_isBridge, ↓i_isTheme, ↓i_isBarge, i_lt, i_le, i_eq, i_clamp, i_upd, i_m1, Int32.toInt_toInt64, Int32.toInt_add, Int32.toInt_sub, Int32.toInt_mul, bm32, Int32.reduceToInt, Int64.reduceToInt, Nat.reduceLT, Nat.reduceEqDiff, reduceIte] at c_6
        exact ih (w_1l4 + 1) w_1l3 (⟨(by first | omega | (simp (disch := omega) only [↓i_in, ↓i_isCouple, ↓i_isBridge, ↓i_isTheme, ↓i_isBarge, i_lt, i_le, i_eq, i_clamp, i_upd, i_m1, Int32.toInt_toInt64, Int32.toInt_add, Int32.toInt_sub, Int32.toInt_mul, bm32, Int32.reduceToInt, Int64.reduceToInt, Nat.reduceLT, Nat.reduceEqDiff, reduceIte] <;> omega)), (by first | omega | (simp (disch := omega) only [↓i_in, ↓i_isCouple, ↓i_isBridge, ↓i_isTheme, ↓i_isBarge, i_lt, i_le, i_eq, i_clamp, i_upd, i_m1, Int32.toInt_toInt64, Int32.toInt_add, Int32.toInt_sub, Int32.toInt_mul, bm32, Int32.reduceToInt, Int64.reduceToInt, Nat.reduceLT, Nat.reduceEqDiff, reduceIte] <;> omega)), (by first | omega | (simp (disch := omega) only [↓i_in, ↓i_isCouple, ↓i_isBridge, ↓i_isTheme, ↓i_isBarge, i_lt, i_le, i_eq, i_clamp, i_upd, i_m1, Int32.toInt_toInt64, Int32.toInt_add, Int32.toInt_sub, Int32.toInt_mul, bm32, Int32.reduceToInt, Int64.reduceToInt, Nat.reduceLT, Nat.reduceEqDiff, reduceIte] <;> omega)), (by first | omega | (simp (disch := omega) only [↓i_in, ↓i_isCouple, ↓i_isBridge, ↓i_isTheme, ↓i_isBarge, i_lt, i_le, i_eq, i_clamp, i_upd, i_m1, Int32.toInt_toInt64, Int32.toInt_add, Int32.toInt_sub, Int32.toInt_mul, bm32, Int32.reduceToInt, Int64.reduceToInt, Nat.reduceLT, Nat.reduceEqDiff, reduceIte] <;> omega))⟩) _ _ e
set_option maxHeartbeats 4000000 in
theorem s_whoIsAt {G : Nat → Int32} {f0 : Nat → Int32} {h_ : Int32} {b_ : Int32} (h_0 : GI G) (h_1 : 0 ≤ h_.toInt) (h_2 : h_.toInt ≤ 1260) : S_m_whoIsAt G f0 h_ b_ := by
  unfold S_m_whoIsAt
  have h_0_g := h_0
  obtain ⟨⟨h_0_2a, h_0_2b⟩, ⟨h_0_3a, h_0_3b⟩, ⟨h_0_4a, h_0_4b⟩, ⟨h_0_5a, h_0_5b⟩, ⟨h_0_6a, h_0_6b⟩, ⟨h_0_14a, h_0_14b⟩, ⟨h_0_42a, h_0_42b⟩⟩ := h_0_g
  refine sl_whoIsAt_5 h_0 (by first | omega | (simp (disch := omega) only [↓i_in, ↓i_isCouple, ↓i_isBridge, ↓i_isTheme, ↓i_isBarge, i_lt, i_le, i_eq, i_clamp, i_upd, i_m1, Int32.toInt_toInt64, Int32.toInt_add, Int32.toInt_sub, Int32.toInt_mul, bm32, Int32.reduceToInt, Int64.reduceToInt, Nat.reduceLT, Nat.reduceEqDiff, reduceIte] <;> omega)) (by first | omega | (simp (disch := omega) only [↓i_in, ↓i_isCouple, ↓i_isBridge, ↓i_isTheme, ↓i_isBarge, i_lt, i_le, i_eq, i_clamp, i_upd, i_m1, Int32.toInt_toInt64, Int32.toInt_add, Int32.toInt_sub, Int32.toInt_mul, bm32, Int32.reduceToInt, Int64.reduceToInt, Nat.reduceLT, Nat.reduceEqDiff, reduceIte] <;> omega)) ?_ ((((G 5) : Int32).toInt - (0 : Int32).toInt).toNat + 1) 0 (-1) (⟨(by first | omega | (simp (disch := omega) only [↓i_in, ↓i_isCouple, ↓i_isBridge, ↓i_isTheme, ↓i_isBarge, i_lt, i_le, i_eq, i_clamp, i_upd, i_m1, Int32.toInt_toInt64, Int32.toInt_add, Int32.toInt_sub, Int32.toInt_mul, bm32, Int32.reduceToInt, Int64.reduceToInt, Nat.reduceLT, Nat.reduceEqDiff, reduceIte] <;> omega)), (by first | omega | (simp (disch := omega) only [↓i_in, ↓i_isCouple, ↓i_isBridge, ↓i_isTheme, ↓i_isBarge, i_lt, i_le, i_eq, i_clamp, i_upd, i_m1, Int32.toInt_toInt64, Int32.toInt_add, Int32.toInt_sub, Int32.toInt_mul, bm32, Int32.reduceToInt, Int64.reduceToInt, Nat.reduceLT, Nat.reduceEqDiff, reduceIte] <;> omega)), (by first | omega | (simp (disch := omega) only [↓i_in, ↓i_isCouple, ↓i_isBridge, ↓i_isTheme, ↓i_isBarge, i_lt, i_le, i_eq, i_clamp, i_upd, i_m1, Int32.toInt_toInt64, Int32.toInt_add, Int32.toInt_sub, Int32.toInt_mul, bm32, Int32.reduceToInt, Int64.reduceToInt, Nat.reduceLT, Nat.reduceEqDiff, reduceIte] <;> omega)), (by first | omega | (simp (disch := omega) only [↓i_in, ↓i_isCouple, ↓i_isBridge, ↓i_isTheme, ↓i_isBarge, i_lt, i_le, i_eq, i_clamp, i_upd, i_m1, Int32.toInt_toInt64, Int32.toInt_add, Int32.toInt_sub, Int32.toInt_mul, bm32, Int32.reduceToInt, Int64.reduceToInt, Nat.reduceLT, Nat.reduceEqDiff, reduceIte] <;> omega))⟩)
  intro w_1l4 w_1l3 i_1
  obtain ⟨i_2, i_3, i_4, i_5⟩ := i_1
  exact trivial
theorem p_whoIsAt {G f0 : Nat → Int32} {h_ b_ : Int32} (h_0 : GI G) (h_1 : 0 ≤ h_.toInt) (h_2 : h_.toInt ≤ 1260) : -1 ≤ (f_m_whoIsAt G f0 h_ b_).toInt ∧ (f_m_whoIsAt G f0 h_ b_).toInt < (G 5).toInt := by
  unfold f_m_whoIsAt
  generalize hx : f_m_whoIsAt_5 _ _ _ _ _ _ _ = x
  obtain ⟨a, b⟩ := x
  have h0 := h_0
  obtain ⟨_, _, _, ⟨d1, d2⟩, _⟩ := h0
  have h1 := pl_whoIsAt_5 h_0 h_1 h_2 ((((G 5) : Int32).toInt - (0 : Int32).toInt).toNat + 1) 0 (-1) ⟨by decide, (by simp only [Int32.reduceToInt]; exact d1), by decide, by rw [i_m1]; omega⟩ _ _ hx
  exact ⟨h1.2.2.1, h1.2.2.2⟩
theorem p_stampOf {G f10 : Nat → Int32} {c_ t_ from_ : Int32} : (f_m_stampOf G f10 c_ t_ from_).toInt ≤ from_.toInt := by
  unfold f_m_stampOf
  split
  · split
    · exact Int.le_refl _
    · rename_i c
      rw [i_le] at c
      omega
  · split
    · exact Int.le_refl _
    · rename_i c
      rw [i_le] at c
      omega
set_option maxHeartbeats 4000000 in
theorem s_stampOf {G : Nat → Int32} {f10 : Nat → Int32} {c_ : Int32} {t_ : Int32} {from_ : Int32} (h_0 : 0 ≤ c_.toInt) (h_1 : c_.toInt < 6) (h_2 : 0 ≤ t_.toInt) (h_3 : t_.toInt < 5) : S_m_stampOf G f10 c_ t_ from_ := by
  unfold S_m_stampOf
  refine ⟨vp_in_iff.mpr (by first | omega | (simp (disch := omega) only [↓i_in, ↓i_isCouple, ↓i_isBridge, ↓i_isTheme, ↓i_isBarge, i_lt, i_le, i_eq, i_clamp, i_upd, i_m1, Int32.toInt_toInt64, Int32.toInt_add, Int32.toInt_sub, Int32.toInt_mul, bm32, Int32.reduceToInt, Int64.reduceToInt, Nat.reduceLT, Nat.reduceEqDiff, reduceIte] <;> omega)), ?_⟩
  refine ⟨fun c_1 => ?_, fun c_1 => ?_⟩
  · skip
    try simp (disch := omega) only [↓i_in, ↓i_isCouple, ↓i_isBridge, ↓i_isTheme, ↓i_isBarge, i_lt, i_le, i_eq, i_clamp, i_upd, i_m1, Int32.toInt_toInt64, Int32.toInt_add, Int32.toInt_sub, Int32.toInt_mul, bm32, Int32.reduceToInt, Int64.reduceToInt, Nat.reduceLT, Nat.reduceEqDiff, reduceIte] at c_1
    refine ⟨fun c_2 => ?_, fun c_2 => ?_⟩
    · exact trivial
    · exact trivial
  · skip
    try simp (disch := omega) only [↓i_in, ↓i_isCouple, ↓i_isBridge, ↓i_isTheme, ↓i_isBarge, i_lt, i_le, i_eq, i_clamp, i_upd, i_m1, Int32.toInt_toInt64, Int32.toInt_add, Int32.toInt_sub, Int32.toInt_mul, bm32, Int32.reduceToInt, Int64.reduceToInt, Nat.reduceLT, Nat.reduceEqDiff, reduceIte] at c_1
    refine ⟨fun c_3 => ?_, fun c_3 => ?_⟩
    · exact trivial
    · exact trivial
set_option maxHeartbeats 4000000 in
theorem sl_quarrels_25 {f10 : Nat → Int32} {c_ : Int32} {t_ : Int32} {need_ : Int32} {K : Int32 → Int32 → (Nat → Int32) → Prop} (h_0 : 0 ≤ c_.toInt) (h_1 : c_.toInt < 6) (h_2 : 0 ≤ t_.toInt) (h_3 : t_.toInt < 5) (hK : ∀ w_4l6 w_4l5 w_4m0, (w_4l6.toInt ≤ (w_4m0 33).toInt) → K w_4l6 w_4l5 w_4m0) : ∀ (n : Nat) w_4l6 w_4l5 w_4m0, (w_4l6.toInt ≤ (w_4m0 33).toInt) → ((w_4m0 33).toInt.toNat + 1) < n → S_m_quarrels_25 f10 c_ t_ need_ K n w_4l6 w_4l5 w_4m0 := by
  intro n
  induction n with
  | zero => intro w_4l6 w_4l5 w_4m0 hI hm; exact absurd hm (Nat.not_lt_zero _)
  | succ n ih =>
    intro w_4l6 w_4l5 w_4m0 hI hm
    rw [S_m_quarrels_25_s]
    have hI0 := hI
    have i_1 := hI0
    have rg := (w_4m0 33).toInt_lt
    refine ⟨fun c_2 => ?_, fun c_2 => ?_⟩
    · skip
      try simp (disch := omega) only [↓i_in, ↓i_isCouple, ↓i_isBridge, ↓i_isTheme, ↓i_isBarge, i_lt, i_le, i_eq, i_clamp, i_upd, i_m1, Int32.toInt_toInt64, Int32.toInt_add, Int32.toInt_sub, Int32.toInt_mul, bm32, Int32.reduceToInt, Int64.reduceToInt, Nat.reduceLT, Nat.reduceEqDiff, reduceIte] at c_2
      exact hK w_4l6 w_4l5 w_4m0 hI
    · skip
      try simp (disch := omega) only [↓i_in, ↓i_isCouple, ↓i_isBridge, ↓i_isTheme, ↓i_isBarge, i_lt, i_le, i_eq, i_clamp, i_upd, i_m1, Int32.toInt_toInt64, Int32.toInt_add, Int32.toInt_sub, Int32.toInt_mul, bm32, Int32.reduceToInt, Int64.reduceToInt, Nat.reduceLT, Nat.reduceEqDiff, reduceIte] at c_2
      refine ⟨fun c_3 => ?_, fun c_3 => ?_⟩
      · skip
        try simp (disch := omega) only [↓i_in, ↓i_isCouple, ↓i_isBridge, ↓i_isTheme, ↓i_isBarge, i_lt, i_le, i_eq, i_clamp, i_upd, i_m1, Int32.toInt_toInt64, Int32.toInt_add, Int32.toInt_sub, Int32.toInt_mul, bm32, Int32.reduceToInt, Int64.reduceToInt, Nat.reduceLT, Nat.reduceEqDiff, reduceIte] at c_3
        exact hK w_4l6 w_4l5 w_4m0 hI
      · skip
        try simp (disch := omega) only [↓i_in, ↓i_isCouple, ↓i_isBridge, ↓i_isTheme, ↓i_isBarge, i_lt, i_le, i_eq, i_clamp, i_upd, i_m1, Int32.toInt_toInt64, Int32.toInt_add, Int32.toInt_sub, Int32.toInt_mul, bm32, Int32.reduceToInt, Int64.reduceToInt, Nat.reduceLT, Nat.reduceEqDiff, reduceIte] at c_3
        refine ⟨(s_stampOf (by first | omega | (simp (disch := omega) only [↓i_in, ↓i_isCouple, ↓i_isBridge, ↓i_isTheme, ↓i_isBarge, i_lt, i_le, i_eq, i_clamp, i_upd, i_m1, Int32.toInt_toInt64, Int32.toInt_add, Int32.toInt_sub, Int32.toInt_mul, bm32, Int32.reduceToInt, Int64.reduceToInt, Nat.reduceLT, Nat.reduceEqDiff, reduceIte] <;> omega)) (by first | omega | (simp (disch := omega) only [↓i_in, ↓i_isCouple, ↓i_isBridge, ↓i_isTheme, ↓i_isBarge, i_lt, i_le, i_eq, i_clamp, i_upd, i_m1, Int32.toInt_toInt64, Int32.toInt_add, Int32.toInt_sub, Int32.toInt_mul, bm32, Int32.reduceToInt, Int64.reduceToInt, Nat.reduceLT, Nat.reduceEqDiff, reduceIte] <;> omega)) (by first | omega | (simp (disch := omega) only [↓i_in, ↓i_isCouple, ↓i_isBridge, ↓i_isTheme, ↓i_isBarge, i_lt, i_le, i_eq, i_clamp, i_upd, i_m1, Int32.toInt_toInt64, Int32.toInt_add, Int32.toInt_sub, Int32.toInt_mul, bm32, Int32.reduceToInt, Int64.reduceToInt, Nat.reduceLT, Nat.reduceEqDiff, reduceIte] <;> omega)) (by first | omega | (simp (disch := omega) only [↓i_in, ↓i_isCouple, ↓i_isBridge, ↓i_isTheme, ↓i_isBarge, i_lt, i_le, i_eq, i_clamp, i_upd, i_m1, Int32.toInt_toInt64, Int32.toInt_add, Int32.toInt_sub, Int32.toInt_mul, bm32, Int32.reduceToInt, Int64.reduceToInt, Nat.reduceLT, Nat.reduceEqDiff, reduceIte] <;> omega))), ?_⟩
        have v_4 := p_stampOf (G := (upd (upd w_4m0 32 ((w_4m0 32) + 1)) 33 ((w_4m0 33) - w_4l6))) (f10 := f10) (c_ := c_) (t_ := t_) (from_ := ((w_4m0 33) - w_4l6))
        try simp (disch := omega) only [↓i_in, ↓i_isCouple, ↓i_isBridge, ↓i_isTheme, ↓i_isBarge, i_lt, i_le, i_eq, i_clamp, i_upd, i_m1, Int32.toInt_toInt64, Int32.toInt_add, Int32.toInt_sub, Int32.toInt_mul, bm32, Int32.reduceToInt, Int64.reduceToInt, Nat.reduceLT, Nat.reduceEqDiff, reduceIte] at v_4
        exact ih (f_m_stampOf (upd (upd w_4m0 32 ((w_4m0 32) + 1)) 33 ((w_4m0 33) - w_4l6)) f10 c_ t_ ((w_4m0 33) - w_4l6)) (w_4l5 + w_4l6) (upd (upd w_4m0 32 ((w_4m0 32) + 1)) 33 ((w_4m0 33) - w_4l6)) (by first | omega | (simp (disch := omega) only [↓i_in, ↓i_isCouple, ↓i_isBridge, ↓i_isTheme, ↓i_isBarge, i_lt, i_le, i_eq, i_clamp, i_upd, i_m1, Int32.toInt_toInt64, Int32.toInt_add, Int32.toInt_sub, Int32.toInt_mul, bm32, Int32.reduceToInt, Int64.reduceToInt, Nat.reduceLT, Nat.reduceEqDiff, reduceIte] <;> omega)) (by first | omega | (simp (disch := omega) only [↓i_in, ↓i_isCouple, ↓i_isBridge, ↓i_isTheme, ↓i_isBarge, i_lt, i_le, i_eq, i_clamp, i_upd, i_m1, Int32.toInt_toInt64, Int32.toInt_add, Int32.toInt_sub, Int32.toInt_mul, bm32, Int32.reduceToInt, Int64.reduceToInt, Nat.reduceLT, Nat.reduceEqDiff, reduceIte] <;> omega))
set_option maxHeartbeats 4000000 in
theorem s_quarrels {G : Nat → Int32} {f10 : Nat → Int32} {c_ : Int32} {t_ : Int32} {from_ : Int32} {need_ : Int32} (h_0 : 0 ≤ c_.toInt) (h_1 : c_.toInt < 6) (h_2 : 0 ≤ t_.toInt) (h_3 : t_.toInt < 5) : S_m_quarrels G f10 c_ t_ from_ need_ := by
  unfold S_m_quarrels
  refine ⟨(s_stampOf (by first | omega | (simp (disch := omega) only [↓i_in, ↓i_isCouple, ↓i_isBridge, ↓i_isTheme, ↓i_isBarge, i_lt, i_le, i_eq, i_clamp, i_upd, i_m1, Int32.toInt_toInt64, Int32.toInt_add, Int32.toInt_sub, Int32.toInt_mul, bm32, Int32.reduceToInt, Int64.reduceToInt, Nat.reduceLT, Nat.reduceEqDiff, reduceIte] <;> omega)) (by first | omega | (simp (disch := omega) only [↓i_in, ↓i_isCouple, ↓i_isBridge, ↓i_isTheme, ↓i_isBarge, i_lt, i_le, i_eq, i_clamp, i_upd, i_m1, Int32.toInt_toInt64, Int32.toInt_add, Int32.toInt_sub, Int32.toInt_mul, bm32, Int32.reduceToInt, Int64.reduceToInt, Nat.reduceLT, Nat.reduceEqDiff, reduceIte] <;> omega)) (by first | omega | (simp (disch := omega) only [↓i_in, ↓i_isCouple, ↓i_isBridge, ↓i_isTheme, ↓i_isBarge, i_lt, i_le, i_eq, i_clamp, i_upd, i_m1, Int32.toInt_toInt64, Int32.toInt_add, Int32.toInt_sub, Int32.toInt_mul, bm32, Int32.reduceToInt, Int64.reduceToInt, Nat.reduceLT, Nat.reduceEqDiff, reduceIte] <;> omega)) (by first | omega | (simp (disch := omega) only [↓i_in, ↓i_isCouple, ↓i_isBridge, ↓i_isTheme, ↓i_isBarge, i_lt, i_le, i_eq, i_clamp, i_upd, i_m1, Int32.toInt_toInt64, Int32.toInt_add, Int32.toInt_sub, Int32.toInt_mul, bm32, Int32.reduceToInt, Int64.reduceToInt, Nat.reduceLT, Nat.reduceEqDiff, reduceIte] <;> omega))), ?_⟩
  have v_1 := p_stampOf (G := (upd (upd G 32 0) 33 from_)) (f10 := f10) (c_ := c_) (t_ := t_) (from_ := from_)
  try simp (disch := omega) only [↓i_in, ↓i_isCouple, ↓i_isBridge, ↓i_isTheme, ↓i_isBarge, i_lt, i_le, i_eq, i_clamp, i_upd, i_m1, Int32.toInt_toInt64, Int32.toInt_add, Int32.toInt_sub, Int32.toInt_mul, bm32, Int32.reduceToInt, Int64.reduceToInt, Nat.reduceLT, Nat.reduceEqDiff, reduceIte] at v_1
  refine sl_quarrels_25 (by first | omega | (simp (disch := omega) only [↓i_in, ↓i_isCouple, ↓i_isBridge, ↓i_isTheme, ↓i_isBarge, i_lt, i_le, i_eq, i_clamp, i_upd, i_m1, Int32.toInt_toInt64, Int32.toInt_add, Int32.toInt_sub, Int32.toInt_mul, bm32, Int32.reduceToInt, Int64.reduceToInt, Nat.reduceLT, Nat.reduceEqDiff, reduceIte] <;> omega)) (by first | omega | (simp (disch := omega) only [↓i_in, ↓i_isCouple, ↓i_isBridge, ↓i_isTheme, ↓i_isBarge, i_lt, i_le, i_eq, i_clamp, i_upd, i_m1, Int32.toInt_toInt64, Int32.toInt_add, Int32.toInt_sub, Int32.toInt_mul, bm32, Int32.reduceToInt, Int64.reduceToInt, Nat.reduceLT, Nat.reduceEqDiff, reduceIte] <;> omega)) (by first | omega | (simp (disch := omega) only [↓i_in, ↓i_isCouple, ↓i_isBridge, ↓i_isTheme, ↓i_isBarge, i_lt, i_le, i_eq, i_clamp, i_upd, i_m1, Int32.toInt_toInt64, Int32.toInt_add, Int32.toInt_sub, Int32.toInt_mul, bm32, Int32.reduceToInt, Int64.reduceToInt, Nat.reduceLT, Nat.reduceEqDiff, reduceIte] <;> omega)) (by first | omega | (simp (disch := omega) only [↓i_in, ↓i_isCouple, ↓i_isBridge, ↓i_isTheme, ↓i_isBarge, i_lt, i_le, i_eq, i_clamp, i_upd, i_m1, Int32.toInt_toInt64, Int32.toInt_add, Int32.toInt_sub, Int32.toInt_mul, bm32, Int32.reduceToInt, Int64.reduceToInt, Nat.reduceLT, Nat.reduceEqDiff, reduceIte] <;> omega)) ?_ ((from_ : Int32).toInt.toNat + 2) (f_m_stampOf (upd (upd G 32 0) 33 from_) f10 c_ t_ from_) 0 (upd (upd G 32 0) 33 from_) (by first | omega | (simp (disch := omega) only [↓i_in, ↓i_isCouple, ↓i_isBridge, ↓i_isTheme, ↓i_isBarge, i_lt, i_le, i_eq, i_clamp, i_upd, i_m1, Int32.toInt_toInt64, Int32.toInt_add, Int32.toInt_sub, Int32.toInt_mul, bm32, Int32.reduceToInt, Int64.reduceToInt, Nat.reduceLT, Nat.reduceEqDiff, reduceIte] <;> omega)) (by first | omega | (simp (disch := omega) only [↓i_in, ↓i_isCouple, ↓i_isBridge, ↓i_isTheme, ↓i_isBarge, i_lt, i_le, i_eq, i_clamp, i_upd, i_m1, Int32.toInt_toInt64, Int32.toInt_add, Int32.toInt_sub, Int32.toInt_mul, bm32, Int32.reduceToInt, Int64.reduceToInt, Nat.reduceLT, Nat.reduceEqDiff, reduceIte] <;> omega))
  intro w_4l6 w_4l5 w_4m0 i_2
  have i_3 := i_2
  refine ⟨fun c_4 => ?_, fun c_4 => ?_⟩
  · exact trivial
  · exact trivial
theorem pl_quarrels_25 {G f10 : Nat → Int32} {c_ t_ need_ : Int32} : ∀ (n : Nat) (a b : Int32) (m : Nat → Int32), QG G m → QG G (f_m_quarrels_25 f10 c_ t_ need_ n a b m).2.2 := by
  intro n
  induction n with
  | zero => intro a b m h; exact h
  | succ n ih =>
    intro a b m h
    rw [f_m_quarrels_25_s]
    by_cases c : a ≤ 0
    · rw [if_pos c]
      exact h
    · rw [if_neg c]
      by_cases d : need_ ≤ b
      · rw [if_pos d]
        exact h
      · rw [if_neg d]
        exact ih _ _ _ (QG_upd (QG_upd h (by decide) (by decide)) (by decide) (by decide))
theorem p_quarrels {G f10 : Nat → Int32} {c_ t_ from_ need_ : Int32} : QG G (f_m_quarrels G f10 c_ t_ from_ need_) := by
  unfold f_m_quarrels
  have q := pl_quarrels_25 (G := G) (f10 := f10) (c_ := c_) (t_ := t_) (need_ := need_) ((from_ : Int32).toInt.toNat + 2) (f_m_stampOf (upd (upd G 32 0) 33 from_) f10 c_ t_ from_) 0 (upd (upd G 32 0) 33 from_) (QG_upd (QG_upd (QG.refl _) (by decide) (by decide)) (by decide) (by decide))
  generalize f_m_quarrels_25 _ _ _ _ _ _ _ _ = x at q
  obtain ⟨a, b, c⟩ := x
  show QG G (if b < need_ then (upd c 34 0) else (upd c 34 1))
  split <;> exact QG_upd q (by decide) (by decide)
set_option maxHeartbeats 4000000 in
theorem s_told {G : Nat → Int32} {f0 : Nat → Int32} {w_ : Int32} (h_0 : GI G) : S_m_told G f0 w_ := by
  unfold S_m_told
  have h_0_g := h_0
  obtain ⟨⟨h_0_2a, h_0_2b⟩, ⟨h_0_3a, h_0_3b⟩, ⟨h_0_4a, h_0_4b⟩, ⟨h_0_5a, h_0_5b⟩, ⟨h_0_6a, h_0_6b⟩, ⟨h_0_14a, h_0_14b⟩, ⟨h_0_42a, h_0_42b⟩⟩ := h_0_g
  refine ⟨fun c_1 => ?_, fun c_1 => ?_⟩
  · exact trivial
  · skip
    try simp (disch := omega) only [↓i_in, ↓i_isCouple, ↓i_isBridge, ↓i_isTheme, ↓i_isBarge, i_lt, i_le, i_eq, i_clamp, i_upd, i_m1, Int32.toInt_toInt64, Int32.toInt_add, Int32.toInt_sub, Int32.toInt_mul, bm32, Int32.reduceToInt, Int64.reduceToInt, Nat.reduceLT, Nat.reduceEqDiff, reduceIte] at c_1
    refine ⟨fun c_2 => ?_, fun c_2 => ?_⟩
    · exact trivial
    · skip
      try simp (disch := omega) only [↓i_in, ↓i_isCouple, ↓i_isBridge, ↓i_isTheme, ↓i_isBarge, i_lt, i_le, i_eq, i_clamp, i_upd, i_m1, Int32.toInt_toInt64, Int32.toInt_add, Int32.toInt_sub, Int32.toInt_mul, bm32, Int32.reduceToInt, Int64.reduceToInt, Nat.reduceLT, Nat.reduceEqDiff, reduceIte] at c_2
      refine ⟨fun c_3 => ?_, fun c_3 => ?_⟩
      · exact trivial
      · skip
        try simp (disch := omega) only [↓i_in, ↓i_isCouple, ↓i_isBridge, ↓i_isTheme, ↓i_isBarge, i_lt, i_le, i_eq, i_clamp, i_upd, i_m1, Int32.toInt_toInt64, Int32.toInt_add, Int32.toInt_sub, Int32.toInt_mul, bm32, Int32.reduceToInt, Int64.reduceToInt, Nat.reduceLT, Nat.reduceEqDiff, reduceIte] at c_3
        refine ⟨fun c_4 => ?_, fun c_4 => ?_⟩
        · exact trivial
        · skip
          try simp (disch := omega) only [↓i_in, ↓i_isCouple, ↓i_isBridge, ↓i_isTheme, ↓i_isBarge, i_lt, i_le, i_eq, i_clamp, i_upd, i_m1, Int32.toInt_toInt64, Int32.toInt_add, Int32.toInt_sub, Int32.toInt_mul, bm32, Int32.reduceToInt, Int64.reduceToInt, Nat.reduceLT, Nat.reduceEqDiff, reduceIte] at c_4
          refine ⟨fun c_5 => ?_, fun c_5 => ?_⟩
          · exact trivial
          · skip
            try simp (disch := omega) only [↓i_in, ↓i_isCouple, ↓i_isBridge, ↓i_isTheme, ↓i_isBarge, i_lt, i_le, i_eq, i_clamp, i_upd, i_m1, Int32.toInt_toInt64, Int32.toInt_add, Int32.toInt_sub, Int32.toInt_mul, bm32, Int32.reduceToInt, Int64.reduceToInt, Nat.reduceLT, Nat.reduceEqDiff, reduceIte] at c_5
            refine ⟨fun c_6 => ?_, fun c_6 => ?_⟩
            · exact trivial
            · skip
              try simp (disch := omega) only [↓i_in, ↓i_isCouple, ↓i_isBridge, ↓i_isTheme, ↓i_isBarge, i_lt, i_le, i_eq, i_clamp, i_upd, i_m1, Int32.toInt_toInt64, Int32.toInt_add, Int32.toInt_sub, Int32.toInt_mul, bm32, Int32.reduceToInt, Int64.reduceToInt, Nat.reduceLT, Nat.reduceEqDiff, reduceIte] at c_6
              refine ⟨fun c_7 => ?_, fun c_7 => ?_⟩
              · exact trivial
              · skip
                try simp (disch := omega) only [↓i_in, ↓i_isCouple, ↓i_isBridge, ↓i_isTheme, ↓i_isBarge, i_lt, i_le, i_eq, i_clamp, i_upd, i_m1, Int32.toInt_toInt64, Int32.toInt_add, Int32.toInt_sub, Int32.toInt_mul, bm32, Int32.reduceToInt, Int64.reduceToInt, Nat.reduceLT, Nat.reduceEqDiff, reduceIte] at c_7
                refine ⟨fun c_8 => ?_, fun c_8 => ?_⟩
                · exact trivial
                · skip
                  try simp (disch := omega) only [↓i_in, ↓i_isCouple, ↓i_isBridge, ↓i_isTheme, ↓i_isBarge, i_lt, i_le, i_eq, i_clamp, i_upd, i_m1, Int32.toInt_toInt64, Int32.toInt_add, Int32.toInt_sub, Int32.toInt_mul, bm32, Int32.reduceToInt, Int64.reduceToInt, Nat.reduceLT, Nat.reduceEqDiff, reduceIte] at c_8
                  refine ⟨fun c_9 => ?_, fun c_9 => ?_⟩
                  · skip
                    try simp (disch := omega) only [↓i_in, ↓i_isCouple, ↓i_isBridge, ↓i_isTheme, ↓i_isBarge, i_lt, i_le, i_eq, i_clamp, i_upd, i_m1, Int32.toInt_toInt64, Int32.toInt_add, Int32.toInt_sub, Int32.toInt_mul, bm32, Int32.reduceToInt, Int64.reduceToInt, Nat.reduceLT, Nat.reduceEqDiff, reduceIte] at c_9
                    refine ⟨s_in, ?_⟩
                    refine ⟨fun c_10 => ?_, fun c_10 => ?_⟩
                    · exact trivial
                    · skip
                      try simp (disch := omega) only [↓i_in, ↓i_isCouple, ↓i_isBridge, ↓i_isTheme, ↓i_isBarge, i_lt, i_le, i_eq, i_clamp, i_upd, i_m1, Int32.toInt_toInt64, Int32.toInt_add, Int32.toInt_sub, Int32.toInt_mul, bm32, Int32.reduceToInt, Int64.reduceToInt, Nat.reduceLT, Nat.reduceEqDiff, reduceIte] at c_10
                      refine ⟨(s_bargesThat h_0), ?_⟩
                      exact trivial
                  · skip
                    try simp (disch := omega) only [↓i_in, ↓i_isCouple, ↓i_isBridge, ↓i_isTheme, ↓i_isBarge, i_lt, i_le, i_eq, i_clamp, i_upd, i_m1, Int32.toInt_toInt64, Int32.toInt_add, Int32.toInt_sub, Int32.toInt_mul, bm32, Int32.reduceToInt, Int64.reduceToInt, Nat.reduceLT, Nat.reduceEqDiff, reduceIte] at c_9
                    refine ⟨fun c_11 => ?_, fun c_11 => ?_⟩
                    · skip
                      try simp (disch := omega) only [↓i_in, ↓i_isCouple, ↓i_isBridge, ↓i_isTheme, ↓i_isBarge, i_lt, i_le, i_eq, i_clamp, i_upd, i_m1, Int32.toInt_toInt64, Int32.toInt_add, Int32.toInt_sub, Int32.toInt_mul, bm32, Int32.reduceToInt, Int64.reduceToInt, Nat.reduceLT, Nat.reduceEqDiff, reduceIte] at c_11
                      refine ⟨s_in, ?_⟩
                      refine ⟨fun c_12 => ?_, fun c_12 => ?_⟩
                      · exact trivial
                      · skip
                        try simp (disch := omega) only [↓i_in, ↓i_isCouple, ↓i_isBridge, ↓i_isTheme, ↓i_isBarge, i_lt, i_le, i_eq, i_clamp, i_upd, i_m1, Int32.toInt_toInt64, Int32.toInt_add, Int32.toInt_sub, Int32.toInt_mul, bm32, Int32.reduceToInt, Int64.reduceToInt, Nat.reduceLT, Nat.reduceEqDiff, reduceIte] at c_12
                        refine ⟨(s_bargesThat h_0), ?_⟩
                        exact trivial
                    · skip
                      try simp (disch := omega) only [↓i_in, ↓i_isCouple, ↓i_isBridge, ↓i_isTheme, ↓i_isBarge, i_lt, i_le, i_eq, i_clamp, i_upd, i_m1, Int32.toInt_toInt64, Int32.toInt_add, Int32.toInt_sub, Int32.toInt_mul, bm32, Int32.reduceToInt, Int64.reduceToInt, Nat.reduceLT, Nat.reduceEqDiff, reduceIte] at c_11
                      refine ⟨fun c_13 => ?_, fun c_13 => ?_⟩
                      · skip
                        try simp (disch := omega) only [↓i_in, ↓i_isCouple, ↓i_isBridge, ↓i_isTheme, ↓i_isBarge, i_lt, i_le, i_eq, i_clamp, i_upd, i_m1, Int32.toInt_toInt64, Int32.toInt_add, Int32.toInt_sub, Int32.toInt_mul, bm32, Int32.reduceToInt, Int64.reduceToInt, Nat.reduceLT, Nat.reduceEqDiff, reduceIte] at c_13
                        refine ⟨s_in, ?_⟩
                        refine ⟨fun c_14 => ?_, fun c_14 => ?_⟩
                        · exact trivial
                        · skip
                          try simp (disch := omega) only [↓i_in, ↓i_isCouple, ↓i_isBridge, ↓i_isTheme, ↓i_isBarge, i_lt, i_le, i_eq, i_clamp, i_upd, i_m1, Int32.toInt_toInt64, Int32.toInt_add, Int32.toInt_sub, Int32.toInt_mul, bm32, Int32.reduceToInt, Int64.reduceToInt, Nat.reduceLT, Nat.reduceEqDiff, reduceIte] at c_14
                          refine ⟨(s_bargesThat h_0), ?_⟩
                          exact trivial
                      · skip
                        try simp (disch := omega) only [↓i_in, ↓i_isCouple, ↓i_isBridge, ↓i_isTheme, ↓i_isBarge, i_lt, i_le, i_eq, i_clamp, i_upd, i_m1, Int32.toInt_toInt64, Int32.toInt_add, Int32.toInt_sub, Int32.toInt_mul, bm32, Int32.reduceToInt, Int64.reduceToInt, Nat.reduceLT, Nat.reduceEqDiff, reduceIte] at c_13
                        refine ⟨fun c_15 => ?_, fun c_15 => ?_⟩
                        · skip
                          try simp (disch := omega) only [↓i_in, ↓i_isCouple, ↓i_isBridge, ↓i_isTheme, ↓i_isBarge, i_lt, i_le, i_eq, i_clamp, i_upd, i_m1, Int32.toInt_toInt64, Int32.toInt_add, Int32.toInt_sub, Int32.toInt_mul, bm32, Int32.reduceToInt, Int64.reduceToInt, Nat.reduceLT, Nat.reduceEqDiff, reduceIte] at c_15
                          refine ⟨(s_griefOf h_0), ?_⟩
                          exact trivial
                        · skip
                          try simp (disch := omega) only [↓i_in, ↓i_isCouple, ↓i_isBridge, ↓i_isTheme, ↓i_isBarge, i_lt, i_le, i_eq, i_clamp, i_upd, i_m1, Int32.toInt_toInt64, Int32.toInt_add, Int32.toInt_sub, Int32.toInt_mul, bm32, Int32.reduceToInt, Int64.reduceToInt, Nat.reduceLT, Nat.reduceEqDiff, reduceIte] at c_15
                          refine ⟨fun c_16 => ?_, fun c_16 => ?_⟩
                          · exact trivial
                          · skip
                            try simp (disch := omega) only [↓i_in, ↓i_isCouple, ↓i_isBridge, ↓i_isTheme, ↓i_isBarge, i_lt, i_le, i_eq, i_clamp, i_upd, i_m1, Int32.toInt_toInt64, Int32.toInt_add, Int32.toInt_sub, Int32.toInt_mul, bm32, Int32.reduceToInt, Int64.reduceToInt, Nat.reduceLT, Nat.reduceEqDiff, reduceIte] at c_16
                            refine ⟨fun c_17 => ?_, fun c_17 => ?_⟩
                            · exact trivial
                            · skip
                              try simp (disch := omega) only [↓i_in, ↓i_isCouple, ↓i_isBridge, ↓i_isTheme, ↓i_isBarge, i_lt, i_le, i_eq, i_clamp, i_upd, i_m1, Int32.toInt_toInt64, Int32.toInt_add, Int32.toInt_sub, Int32.toInt_mul, bm32, Int32.reduceToInt, Int64.reduceToInt, Nat.reduceLT, Nat.reduceEqDiff, reduceIte] at c_17
                              refine ⟨s_in, ?_⟩
                              refine ⟨fun c_18 => ?_, fun c_18 => ?_⟩
                              · exact trivial
                              · skip
                                try simp (disch := omega) only [↓i_in, ↓i_isCouple, ↓i_isBridge, ↓i_isTheme, ↓i_isBarge, i_lt, i_le, i_eq, i_clamp, i_upd, i_m1, Int32.toInt_toInt64, Int32.toInt_add, Int32.toInt_sub, Int32.toInt_mul, bm32, Int32.reduceToInt, Int64.reduceToInt, Nat.reduceLT, Nat.reduceEqDiff, reduceIte] at c_18
                                refine ⟨(s_bargesThat h_0), ?_⟩
                                exact trivial
set_option maxHeartbeats 4000000 in
theorem s_bridge {G : Nat → Int32} {f0 : Nat → Int32} {f8 : Nat → Int32} {b_ : Int32} {w_ : Int32} (h_0 : GI G) : S_m_bridge G f0 f8 b_ w_ := by
  unfold S_m_bridge
  have h_0_g := h_0
  obtain ⟨⟨h_0_2a, h_0_2b⟩, ⟨h_0_3a, h_0_3b⟩, ⟨h_0_4a, h_0_4b⟩, ⟨h_0_5a, h_0_5b⟩, ⟨h_0_6a, h_0_6b⟩, ⟨h_0_14a, h_0_14b⟩, ⟨h_0_42a, h_0_42b⟩⟩ := h_0_g
  refine ⟨s_isBridge, ?_⟩
  refine ⟨fun c_1 => ?_, fun c_1 => ?_⟩
  · exact trivial
  · skip
    try simp (disch := omega) only [↓i_in, ↓i_isCouple, ↓i_isBridge, ↓i_isTheme, ↓i_isBarge, i_lt, i_le, i_eq, i_clamp, i_upd, i_m1, Int32.toInt_toInt64, Int32.toInt_add, Int32.toInt_sub, Int32.toInt_mul, bm32, Int32.reduceToInt, Int64.reduceToInt, Nat.reduceLT, Nat.reduceEqDiff, reduceIte] at c_1
    refine ⟨fun c_2 => ?_, fun c_2 => ?_⟩
    · skip
      try simp (disch := omega) only [↓i_in, ↓i_isCouple, ↓i_isBridge, ↓i_isTheme, ↓i_isBarge, i_lt, i_le, i_eq, i_clamp, i_upd, i_m1, Int32.toInt_toInt64, Int32.toInt_add, Int32.toInt_sub, Int32.toInt_mul, bm32, Int32.reduceToInt, Int64.reduceToInt, Nat.reduceLT, Nat.reduceEqDiff, reduceIte] at c_2
      refine ⟨vp_in_iff.mpr (by first | omega | (simp (disch := omega) only [↓i_in, ↓i_isCouple, ↓i_isBridge, ↓i_isTheme, ↓i_isBarge, i_lt, i_le, i_eq, i_clamp, i_upd, i_m1, Int32.toInt_toInt64, Int32.toInt_add, Int32.toInt_sub, Int32.toInt_mul, bm32, Int32.reduceToInt, Int64.reduceToInt, Nat.reduceLT, Nat.reduceEqDiff, reduceIte] <;> omega)), ?_⟩
      exact trivial
    · skip
      try simp (disch := omega) only [↓i_in, ↓i_isCouple, ↓i_isBridge, ↓i_isTheme, ↓i_isBarge, i_lt, i_le, i_eq, i_clamp, i_upd, i_m1, Int32.toInt_toInt64, Int32.toInt_add, Int32.toInt_sub, Int32.toInt_mul, bm32, Int32.reduceToInt, Int64.reduceToInt, Nat.reduceLT, Nat.reduceEqDiff, reduceIte] at c_2
      refine ⟨fun c_3 => ?_, fun c_3 => ?_⟩
      · skip
        try simp (disch := omega) only [↓i_in, ↓i_isCouple, ↓i_isBridge, ↓i_isTheme, ↓i_isBarge, i_lt, i_le, i_eq, i_clamp, i_upd, i_m1, Int32.toInt_toInt64, Int32.toInt_add, Int32.toInt_sub, Int32.toInt_mul, bm32, Int32.reduceToInt, Int64.reduceToInt, Nat.reduceLT, Nat.reduceEqDiff, reduceIte] at c_3
        refine ⟨(s_whoIsAt h_0 (by first | omega | (simp (disch := omega) only [↓i_in, ↓i_isCouple, ↓i_isBridge, ↓i_isTheme, ↓i_isBarge, i_lt, i_le, i_eq, i_clamp, i_upd, i_m1, Int32.toInt_toInt64, Int32.toInt_add, Int32.toInt_sub, Int32.toInt_mul, bm32, Int32.reduceToInt, Int64.reduceToInt, Nat.reduceLT, Nat.reduceEqDiff, reduceIte] <;> omega)) (by first | omega | (simp (disch := omega) only [↓i_in, ↓i_isCouple, ↓i_isBridge, ↓i_isTheme, ↓i_isBarge, i_lt, i_le, i_eq, i_clamp, i_upd, i_m1, Int32.toInt_toInt64, Int32.toInt_add, Int32.toInt_sub, Int32.toInt_mul, bm32, Int32.reduceToInt, Int64.reduceToInt, Nat.reduceLT, Nat.reduceEqDiff, reduceIte] <;> omega))), ?_⟩
        have v_4 := p_whoIsAt (G := G) (f0 := f0) (h_ := 0) (b_ := b_) h_0 (by first | omega | (simp (disch := omega) only [↓i_in, ↓i_isCouple, ↓i_isBridge, ↓i_isTheme, ↓i_isBarge, i_lt, i_le, i_eq, i_clamp, i_upd, i_m1, Int32.toInt_toInt64, Int32.toInt_add, Int32.toInt_sub, Int32.toInt_mul, bm32, Int32.reduceToInt, Int64.reduceToInt, Nat.reduceLT, Nat.reduceEqDiff, reduceIte] <;> omega)) (by first | omega | (simp (disch := omega) only [↓i_in, ↓i_isCouple, ↓i_isBridge, ↓i_isTheme, ↓i_isBarge, i_lt, i_le, i_eq, i_clamp, i_upd, i_m1, Int32.toInt_toInt64, Int32.toInt_add, Int32.toInt_sub, Int32.toInt_mul, bm32, Int32.reduceToInt, Int64.reduceToInt, Nat.reduceLT, Nat.reduceEqDiff, reduceIte] <;> omega))
        try simp (disch := omega) only [↓i_in, ↓i_isCouple, ↓i_isBridge, ↓i_isTheme, ↓i_isBarge, i_lt, i_le, i_eq, i_clamp, i_upd, i_m1, Int32.toInt_toInt64, Int32.toInt_add, Int32.toInt_sub, Int32.toInt_mul, bm32, Int32.reduceToInt, Int64.reduceToInt, Nat.reduceLT, Nat.reduceEqDiff, reduceIte] at v_4
        exact trivial
      · exact trivial
set_option maxHeartbeats 4000000 in
theorem s_couple {G : Nat → Int32} {f0 : Nat → Int32} {f9 : Nat → Int32} {c_ : Int32} {w_ : Int32} (h_0 : GI G) : S_m_couple G f0 f9 c_ w_ := by
  unfold S_m_couple
  have h_0_g := h_0
  obtain ⟨⟨h_0_2a, h_0_2b⟩, ⟨h_0_3a, h_0_3b⟩, ⟨h_0_4a, h_0_4b⟩, ⟨h_0_5a, h_0_5b⟩, ⟨h_0_6a, h_0_6b⟩, ⟨h_0_14a, h_0_14b⟩, ⟨h_0_42a, h_0_42b⟩⟩ := h_0_g
  refine ⟨s_isCouple, ?_⟩
  refine ⟨fun c_1 => ?_, fun c_1 => ?_⟩
  · exact trivial
  · skip
    try simp (disch := omega) only [↓i_in, ↓i_isCouple, ↓i_isBridge, ↓i_isTheme, ↓i_isBarge, i_lt, i_le, i_eq, i_clamp, i_upd, i_m1, Int32.toInt_toInt64, Int32.toInt_add, Int32.toInt_sub, Int32.toInt_mul, bm32, Int32.reduceToInt, Int64.reduceToInt, Nat.reduceLT, Nat.reduceEqDiff, reduceIte] at c_1
    refine ⟨fun c_2 => ?_, fun c_2 => ?_⟩
    · skip
      try simp (disch := omega) only [↓i_in, ↓i_isCouple, ↓i_isBridge, ↓i_isTheme, ↓i_isBarge, i_lt, i_le, i_eq, i_clamp, i_upd, i_m1, Int32.toInt_toInt64, Int32.toInt_add, Int32.toInt_sub, Int32.toInt_mul, bm32, Int32.reduceToInt, Int64.reduceToInt, Nat.reduceLT, Nat.reduceEqDiff, reduceIte] at c_2
      refine ⟨vp_in_iff.mpr (by first | omega | (simp (disch := omega) only [↓i_in, ↓i_isCouple, ↓i_isBridge, ↓i_isTheme, ↓i_isBarge, i_lt, i_le, i_eq, i_clamp, i_upd, i_m1, Int32.toInt_toInt64, Int32.toInt_add, Int32.toInt_sub, Int32.toInt_mul, bm32, Int32.reduceToInt, Int64.reduceToInt, Nat.reduceLT, Nat.reduceEqDiff, reduceIte] <;> omega)), ?_⟩
      exact trivial
    · skip
      try simp (disch := omega) only [↓i_in, ↓i_isCouple, ↓i_isBridge, ↓i_isTheme, ↓i_isBarge, i_lt, i_le, i_eq, i_clamp, i_upd, i_m1, Int32.toInt_toInt64, Int32.toInt_add, Int32.toInt_sub, Int32.toInt_mul, bm32, Int32.reduceToInt, Int64.reduceToInt, Nat.reduceLT, Nat.reduceEqDiff, reduceIte] at c_2
      refine ⟨fun c_3 => ?_, fun c_3 => ?_⟩
      · skip
        try simp (disch := omega) only [↓i_in, ↓i_isCouple, ↓i_isBridge, ↓i_isTheme, ↓i_isBarge, i_lt, i_le, i_eq, i_clamp, i_upd, i_m1, Int32.toInt_toInt64, Int32.toInt_add, Int32.toInt_sub, Int32.toInt_mul, bm32, Int32.reduceToInt, Int64.reduceToInt, Nat.reduceLT, Nat.reduceEqDiff, reduceIte] at c_3
        refine ⟨vp_in_iff.mpr (by first | omega | (simp (disch := omega) only [↓i_in, ↓i_isCouple, ↓i_isBridge, ↓i_isTheme, ↓i_isBarge, i_lt, i_le, i_eq, i_clamp, i_upd, i_m1, Int32.toInt_toInt64, Int32.toInt_add, Int32.toInt_sub, Int32.toInt_mul, bm32, Int32.reduceToInt, Int64.reduceToInt, Nat.reduceLT, Nat.reduceEqDiff, reduceIte] <;> omega)), ?_⟩
        exact trivial
      · skip
        try simp (disch := omega) only [↓i_in, ↓i_isCouple, ↓i_isBridge, ↓i_isTheme, ↓i_isBarge, i_lt, i_le, i_eq, i_clamp, i_upd, i_m1, Int32.toInt_toInt64, Int32.toInt_add, Int32.toInt_sub, Int32.toInt_mul, bm32, Int32.reduceToInt, Int64.reduceToInt, Nat.reduceLT, Nat.reduceEqDiff, reduceIte] at c_3
        refine ⟨fun c_4 => ?_, fun c_4 => ?_⟩
        · skip
          try simp (disch := omega) only [↓i_in, ↓i_isCouple, ↓i_isBridge, ↓i_isTheme, ↓i_isBarge, i_lt, i_le, i_eq, i_clamp, i_upd, i_m1, Int32.toInt_toInt64, Int32.toInt_add, Int32.toInt_sub, Int32.toInt_mul, bm32, Int32.reduceToInt, Int64.reduceToInt, Nat.reduceLT, Nat.reduceEqDiff, reduceIte] at c_4
          refine ⟨vp_in_iff.mpr (by first | omega | (simp (disch := omega) only [↓i_in, ↓i_isCouple, ↓i_isBridge, ↓i_isTheme, ↓i_isBarge, i_lt, i_le, i_eq, i_clamp, i_upd, i_m1, Int32.toInt_toInt64, Int32.toInt_add, Int32.toInt_sub, Int32.toInt_mul, bm32, Int32.reduceToInt, Int64.reduceToInt, Nat.reduceLT, Nat.reduceEqDiff, reduceIte] <;> omega)), ?_⟩
          exact trivial
        · skip
          try simp (disch := omega) only [↓i_in, ↓i_isCouple, ↓i_isBridge, ↓i_isTheme, ↓i_isBarge, i_lt, i_le, i_eq, i_clamp, i_upd, i_m1, Int32.toInt_toInt64, Int32.toInt_add, Int32.toInt_sub, Int32.toInt_mul, bm32, Int32.reduceToInt, Int64.reduceToInt, Nat.reduceLT, Nat.reduceEqDiff, reduceIte] at c_4
          refine ⟨fun c_5 => ?_, fun c_5 => ?_⟩
          · skip
            try simp (disch := omega) only [↓i_in, ↓i_isCouple, ↓i_isBridge, ↓i_isTheme, ↓i_isBarge, i_lt, i_le, i_eq, i_clamp, i_upd, i_m1, Int32.toInt_toInt64, Int32.toInt_add, Int32.toInt_sub, Int32.toInt_mul, bm32, Int32.reduceToInt, Int64.reduceToInt, Nat.reduceLT, Nat.reduceEqDiff, reduceIte] at c_5
            refine ⟨vp_in_iff.mpr (by first | omega | (simp (disch := omega) only [↓i_in, ↓i_isCouple, ↓i_isBridge, ↓i_isTheme, ↓i_isBarge, i_lt, i_le, i_eq, i_clamp, i_upd, i_m1, Int32.toInt_toInt64, Int32.toInt_add, Int32.toInt_sub, Int32.toInt_mul, bm32, Int32.reduceToInt, Int64.reduceToInt, Nat.reduceLT, Nat.reduceEqDiff, reduceIte] <;> omega)), ?_⟩
            exact trivial
          · skip
            try simp (disch := omega) only [↓i_in, ↓i_isCouple, ↓i_isBridge, ↓i_isTheme, ↓i_isBarge, i_lt, i_le, i_eq, i_clamp, i_upd, i_m1, Int32.toInt_toInt64, Int32.toInt_add, Int32.toInt_sub, Int32.toInt_mul, bm32, Int32.reduceToInt, Int64.reduceToInt, Nat.reduceLT, Nat.reduceEqDiff, reduceIte] at c_5
            refine ⟨fun c_6 => ?_, fun c_6 => ?_⟩
            · skip
              try simp (disch := omega) only [↓i_in, ↓i_isCouple, ↓i_isBridge, ↓i_isTheme, ↓i_isBarge, i_lt, i_le, i_eq, i_clamp, i_upd, i_m1, Int32.toInt_toInt64, Int32.toInt_add, Int32.toInt_sub, Int32.toInt_mul, bm32, Int32.reduceToInt, Int64.reduceToInt, Nat.reduceLT, Nat.reduceEqDiff, reduceIte] at c_6
              refine ⟨s_isDone, ?_⟩
              refine ⟨fun c_7 => ?_, fun c_7 => ?_⟩
              · exact trivial
              · exact trivial
            · exact trivial
set_option maxHeartbeats 4000000 in
theorem s_force {G : Nat → Int32} {f10 : Nat → Int32} {c_ : Int32} {t_ : Int32} (h_0 : GI G) : S_m_force G f10 c_ t_ := by
  unfold S_m_force
  have h_0_g := h_0
  obtain ⟨⟨h_0_2a, h_0_2b⟩, ⟨h_0_3a, h_0_3b⟩, ⟨h_0_4a, h_0_4b⟩, ⟨h_0_5a, h_0_5b⟩, ⟨h_0_6a, h_0_6b⟩, ⟨h_0_14a, h_0_14b⟩, ⟨h_0_42a, h_0_42b⟩⟩ := h_0_g
  refine ⟨s_isCouple, ?_⟩
  refine ⟨fun c_1 => ?_, fun c_1 => ?_⟩
  · exact trivial
  · skip
    try simp (disch := omega) only [↓i_in, ↓i_isCouple, ↓i_isBridge, ↓i_isTheme, ↓i_isBarge, i_lt, i_le, i_eq, i_clamp, i_upd, i_m1, Int32.toInt_toInt64, Int32.toInt_add, Int32.toInt_sub, Int32.toInt_mul, bm32, Int32.reduceToInt, Int64.reduceToInt, Nat.reduceLT, Nat.reduceEqDiff, reduceIte] at c_1
    refine ⟨s_isTheme, ?_⟩
    refine ⟨fun c_2 => ?_, fun c_2 => ?_⟩
    · exact trivial
    · skip
      try simp (disch := omega) only [↓i_in, ↓i_isCouple, ↓i_isBridge, ↓i_isTheme, ↓i_isBarge, i_lt, i_le, i_eq, i_clamp, i_upd, i_m1, Int32.toInt_toInt64, Int32.toInt_add, Int32.toInt_sub, Int32.toInt_mul, bm32, Int32.reduceToInt, Int64.reduceToInt, Nat.reduceLT, Nat.reduceEqDiff, reduceIte] at c_2
      refine ⟨vp_in_iff.mpr (by first | omega | (simp (disch := omega) only [↓i_in, ↓i_isCouple, ↓i_isBridge, ↓i_isTheme, ↓i_isBarge, i_lt, i_le, i_eq, i_clamp, i_upd, i_m1, Int32.toInt_toInt64, Int32.toInt_add, Int32.toInt_sub, Int32.toInt_mul, bm32, Int32.reduceToInt, Int64.reduceToInt, Nat.reduceLT, Nat.reduceEqDiff, reduceIte] <;> omega)), ?_⟩
      exact trivial
set_option maxHeartbeats 4000000 in
theorem s_barge {G : Nat → Int32} {f0 : Nat → Int32} {f11 : Nat → Int32} {f12 : Nat → Int32} {v_ : Int32} {w_ : Int32} (h_0 : GI G) : S_m_barge G f0 f11 f12 v_ w_ := by
  unfold S_m_barge
  have h_0_g := h_0
  obtain ⟨⟨h_0_2a, h_0_2b⟩, ⟨h_0_3a, h_0_3b⟩, ⟨h_0_4a, h_0_4b⟩, ⟨h_0_5a, h_0_5b⟩, ⟨h_0_6a, h_0_6b⟩, ⟨h_0_14a, h_0_14b⟩, ⟨h_0_42a, h_0_42b⟩⟩ := h_0_g
  refine ⟨s_isBarge, ?_⟩
  refine ⟨fun c_1 => ?_, fun c_1 => ?_⟩
  · exact trivial
  · skip
    try simp (disch := omega) only [↓i_in, ↓i_isCouple, ↓i_isBridge, ↓i_isTheme, ↓i_isBarge, i_lt, i_le, i_eq, i_clamp, i_upd, i_m1, Int32.toInt_toInt64, Int32.toInt_add, Int32.toInt_sub, Int32.toInt_mul, bm32, Int32.reduceToInt, Int64.reduceToInt, Nat.reduceLT, Nat.reduceEqDiff, reduceIte] at c_1
    refine ⟨fun c_2 => ?_, fun c_2 => ?_⟩
    · skip
      try simp (disch := omega) only [↓i_in, ↓i_isCouple, ↓i_isBridge, ↓i_isTheme, ↓i_isBarge, i_lt, i_le, i_eq, i_clamp, i_upd, i_m1, Int32.toInt_toInt64, Int32.toInt_add, Int32.toInt_sub, Int32.toInt_mul, bm32, Int32.reduceToInt, Int64.reduceToInt, Nat.reduceLT, Nat.reduceEqDiff, reduceIte] at c_2
      refine ⟨vp_in_iff.mpr (by first | omega | (simp (disch := omega) only [↓i_in, ↓i_isCouple, ↓i_isBridge, ↓i_isTheme, ↓i_isBarge, i_lt, i_le, i_eq, i_clamp, i_upd, i_m1, Int32.toInt_toInt64, Int32.toInt_add, Int32.toInt_sub, Int32.toInt_mul, bm32, Int32.reduceToInt, Int64.reduceToInt, Nat.reduceLT, Nat.reduceEqDiff, reduceIte] <;> omega)), ?_⟩
      exact trivial
    · skip
      try simp (disch := omega) only [↓i_in, ↓i_isCouple, ↓i_isBridge, ↓i_isTheme, ↓i_isBarge, i_lt, i_le, i_eq, i_clamp, i_upd, i_m1, Int32.toInt_toInt64, Int32.toInt_add, Int32.toInt_sub, Int32.toInt_mul, bm32, Int32.reduceToInt, Int64.reduceToInt, Nat.reduceLT, Nat.reduceEqDiff, reduceIte] at c_2
      refine ⟨fun c_3 => ?_, fun c_3 => ?_⟩
      · skip
        try simp (disch := omega) only [↓i_in, ↓i_isCouple, ↓i_isBridge, ↓i_isTheme, ↓i_isBarge, i_lt, i_le, i_eq, i_clamp, i_upd, i_m1, Int32.toInt_toInt64, Int32.toInt_add, Int32.toInt_sub, Int32.toInt_mul, bm32, Int32.reduceToInt, Int64.reduceToInt, Nat.reduceLT, Nat.reduceEqDiff, reduceIte] at c_3
        refine ⟨vp_in_iff.mpr (by first | omega | (simp (disch := omega) only [↓i_in, ↓i_isCouple, ↓i_isBridge, ↓i_isTheme, ↓i_isBarge, i_lt, i_le, i_eq, i_clamp, i_upd, i_m1, Int32.toInt_toInt64, Int32.toInt_add, Int32.toInt_sub, Int32.toInt_mul, bm32, Int32.reduceToInt, Int64.reduceToInt, Nat.reduceLT, Nat.reduceEqDiff, reduceIte] <;> omega)), ?_⟩
        exact trivial
      · skip
        try simp (disch := omega) only [↓i_in, ↓i_isCouple, ↓i_isBridge, ↓i_isTheme, ↓i_isBarge, i_lt, i_le, i_eq, i_clamp, i_upd, i_m1, Int32.toInt_toInt64, Int32.toInt_add, Int32.toInt_sub, Int32.toInt_mul, bm32, Int32.reduceToInt, Int64.reduceToInt, Nat.reduceLT, Nat.reduceEqDiff, reduceIte] at c_3
        refine ⟨fun c_4 => ?_, fun c_4 => ?_⟩
        · skip
          try simp (disch := omega) only [↓i_in, ↓i_isCouple, ↓i_isBridge, ↓i_isTheme, ↓i_isBarge, i_lt, i_le, i_eq, i_clamp, i_upd, i_m1, Int32.toInt_toInt64, Int32.toInt_add, Int32.toInt_sub, Int32.toInt_mul, bm32, Int32.reduceToInt, Int64.reduceToInt, Nat.reduceLT, Nat.reduceEqDiff, reduceIte] at c_4
          refine ⟨vp_in_iff.mpr (by first | omega | (simp (disch := omega) only [↓i_in, ↓i_isCouple, ↓i_isBridge, ↓i_isTheme, ↓i_isBarge, i_lt, i_le, i_eq, i_clamp, i_upd, i_m1, Int32.toInt_toInt64, Int32.toInt_add, Int32.toInt_sub, Int32.toInt_mul, bm32, Int32.reduceToInt, Int64.reduceToInt, Nat.reduceLT, Nat.reduceEqDiff, reduceIte] <;> omega)), ?_⟩
          exact trivial
        · skip
          try simp (disch := omega) only [↓i_in, ↓i_isCouple, ↓i_isBridge, ↓i_isTheme, ↓i_isBarge, i_lt, i_le, i_eq, i_clamp, i_upd, i_m1, Int32.toInt_toInt64, Int32.toInt_add, Int32.toInt_sub, Int32.toInt_mul, bm32, Int32.reduceToInt, Int64.reduceToInt, Nat.reduceLT, Nat.reduceEqDiff, reduceIte] at c_4
          refine ⟨fun c_5 => ?_, fun c_5 => ?_⟩
          · skip
            try simp (disch := omega) only [↓i_in, ↓i_isCouple, ↓i_isBridge, ↓i_isTheme, ↓i_isBarge, i_lt, i_le, i_eq, i_clamp, i_upd, i_m1, Int32.toInt_toInt64, Int32.toInt_add, Int32.toInt_sub, Int32.toInt_mul, bm32, Int32.reduceToInt, Int64.reduceToInt, Nat.reduceLT, Nat.reduceEqDiff, reduceIte] at c_5
            refine ⟨vp_in_iff.mpr (by first | omega | (simp (disch := omega) only [↓i_in, ↓i_isCouple, ↓i_isBridge, ↓i_isTheme, ↓i_isBarge, i_lt, i_le, i_eq, i_clamp, i_upd, i_m1, Int32.toInt_toInt64, Int32.toInt_add, Int32.toInt_sub, Int32.toInt_mul, bm32, Int32.reduceToInt, Int64.reduceToInt, Nat.reduceLT, Nat.reduceEqDiff, reduceIte] <;> omega)), ?_⟩
            exact trivial
          · skip
            try simp (disch := omega) only [↓i_in, ↓i_isCouple, ↓i_isBridge, ↓i_isTheme, ↓i_isBarge, i_lt, i_le, i_eq, i_clamp, i_upd, i_m1, Int32.toInt_toInt64, Int32.toInt_add, Int32.toInt_sub, Int32.toInt_mul, bm32, Int32.reduceToInt, Int64.reduceToInt, Nat.reduceLT, Nat.reduceEqDiff, reduceIte] at c_5
            refine ⟨fun c_6 => ?_, fun c_6 => ?_⟩
            · skip
              try simp (disch := omega) only [↓i_in, ↓i_isCouple, ↓i_isBridge, ↓i_isTheme, ↓i_isBarge, i_lt, i_le, i_eq, i_clamp, i_upd, i_m1, Int32.toInt_toInt64, Int32.toInt_add, Int32.toInt_sub, Int32.toInt_mul, bm32, Int32.reduceToInt, Int64.reduceToInt, Nat.reduceLT, Nat.reduceEqDiff, reduceIte] at c_6
              refine ⟨vp_in_iff.mpr (by first | omega | (simp (disch := omega) only [↓i_in, ↓i_isCouple, ↓i_isBridge, ↓i_isTheme, ↓i_isBarge, i_lt, i_le, i_eq, i_clamp, i_upd, i_m1, Int32.toInt_toInt64, Int32.toInt_add, Int32.toInt_sub, Int32.toInt_mul, bm32, Int32.reduceToInt, Int64.reduceToInt, Nat.reduceLT, Nat.reduceEqDiff, reduceIte] <;> omega)), ?_⟩
              exact trivial
            · exact trivial
set_option maxHeartbeats 4000000 in
theorem s_feed {G : Nat → Int32} {f13 : Nat → Int32} {c_ : Int32} (h_0 : GI G) : S_m_feed G f13 c_ := by
  unfold S_m_feed
  have h_0_g := h_0
  obtain ⟨⟨h_0_2a, h_0_2b⟩, ⟨h_0_3a, h_0_3b⟩, ⟨h_0_4a, h_0_4b⟩, ⟨h_0_5a, h_0_5b⟩, ⟨h_0_6a, h_0_6b⟩, ⟨h_0_14a, h_0_14b⟩, ⟨h_0_42a, h_0_42b⟩⟩ := h_0_g
  refine ⟨s_in, ?_⟩
  refine ⟨fun c_1 => ?_, fun c_1 => ?_⟩
  · exact trivial
  · skip
    try simp (disch := omega) only [↓i_in, ↓i_isCouple, ↓i_isBridge, ↓i_isTheme, ↓i_isBarge, i_lt, i_le, i_eq, i_clamp, i_upd, i_m1, Int32.toInt_toInt64, Int32.toInt_add, Int32.toInt_sub, Int32.toInt_mul, bm32, Int32.reduceToInt, Int64.reduceToInt, Nat.reduceLT, Nat.reduceEqDiff, reduceIte] at c_1
    refine ⟨fun c_2 => ?_, fun c_2 => ?_⟩
    · exact trivial
    · skip
      try simp (disch := omega) only [↓i_in, ↓i_isCouple, ↓i_isBridge, ↓i_isTheme, ↓i_isBarge, i_lt, i_le, i_eq, i_clamp, i_upd, i_m1, Int32.toInt_toInt64, Int32.toInt_add, Int32.toInt_sub, Int32.toInt_mul, bm32, Int32.reduceToInt, Int64.reduceToInt, Nat.reduceLT, Nat.reduceEqDiff, reduceIte] at c_2
      refine ⟨vp_in_iff.mpr (by first | omega | (simp (disch := omega) only [↓i_in, ↓i_isCouple, ↓i_isBridge, ↓i_isTheme, ↓i_isBarge, i_lt, i_le, i_eq, i_clamp, i_upd, i_m1, Int32.toInt_toInt64, Int32.toInt_add, Int32.toInt_sub, Int32.toInt_mul, bm32, Int32.reduceToInt, Int64.reduceToInt, Nat.reduceLT, Nat.reduceEqDiff, reduceIte] <;> omega)), ?_⟩
      exact trivial
set_option maxHeartbeats 4000000 in
theorem s_write {G : Nat → Int32} {f43 : Nat → Int32} {f44 : Nat → Int32} {c_ : Int32} {g_ : Int32} (h_0 : GI G) : S_m_write G f43 f44 c_ g_ := by
  unfold S_m_write
  have h_0_g := h_0
  obtain ⟨⟨h_0_2a, h_0_2b⟩, ⟨h_0_3a, h_0_3b⟩, ⟨h_0_4a, h_0_4b⟩, ⟨h_0_5a, h_0_5b⟩, ⟨h_0_6a, h_0_6b⟩, ⟨h_0_14a, h_0_14b⟩, ⟨h_0_42a, h_0_42b⟩⟩ := h_0_g
  refine ⟨s_isCouple, ?_⟩
  refine ⟨fun c_1 => ?_, fun c_1 => ?_⟩
  · exact trivial
  · skip
    try simp (disch := omega) only [↓i_in, ↓i_isCouple, ↓i_isBridge, ↓i_isTheme, ↓i_isBarge, i_lt, i_le, i_eq, i_clamp, i_upd, i_m1, Int32.toInt_toInt64, Int32.toInt_add, Int32.toInt_sub, Int32.toInt_mul, bm32, Int32.reduceToInt, Int64.reduceToInt, Nat.reduceLT, Nat.reduceEqDiff, reduceIte] at c_1
    refine ⟨s_in, ?_⟩
    refine ⟨fun c_2 => ?_, fun c_2 => ?_⟩
    · exact trivial
    · skip
      try simp (disch := omega) only [↓i_in, ↓i_isCouple, ↓i_isBridge, ↓i_isTheme, ↓i_isBarge, i_lt, i_le, i_eq, i_clamp, i_upd, i_m1, Int32.toInt_toInt64, Int32.toInt_add, Int32.toInt_sub, Int32.toInt_mul, bm32, Int32.reduceToInt, Int64.reduceToInt, Nat.reduceLT, Nat.reduceEqDiff, reduceIte] at c_2
      refine ⟨fun c_3 => ?_, fun c_3 => ?_⟩
      · exact trivial
      · skip
        try simp (disch := omega) only [↓i_in, ↓i_isCouple, ↓i_isBridge, ↓i_isTheme, ↓i_isBarge, i_lt, i_le, i_eq, i_clamp, i_upd, i_m1, Int32.toInt_toInt64, Int32.toInt_add, Int32.toInt_sub, Int32.toInt_mul, bm32, Int32.reduceToInt, Int64.reduceToInt, Nat.reduceLT, Nat.reduceEqDiff, reduceIte] at c_3
        refine ⟨vp_in_iff.mpr (by first | omega | (simp (disch := omega) only [↓i_in, ↓i_isCouple, ↓i_isBridge, ↓i_isTheme, ↓i_isBarge, i_lt, i_le, i_eq, i_clamp, i_upd, i_m1, Int32.toInt_toInt64, Int32.toInt_add, Int32.toInt_sub, Int32.toInt_mul, bm32, Int32.reduceToInt, Int64.reduceToInt, Nat.reduceLT, Nat.reduceEqDiff, reduceIte] <;> omega)), ?_⟩
        refine ⟨vp_in_iff.mpr (by first | omega | (simp (disch := omega) only [↓i_in, ↓i_isCouple, ↓i_isBridge, ↓i_isTheme, ↓i_isBarge, i_lt, i_le, i_eq, i_clamp, i_upd, i_m1, Int32.toInt_toInt64, Int32.toInt_add, Int32.toInt_sub, Int32.toInt_mul, bm32, Int32.reduceToInt, Int64.reduceToInt, Nat.reduceLT, Nat.reduceEqDiff, reduceIte] <;> omega)), ?_⟩
        exact trivial
set_option maxHeartbeats 4000000 in
theorem s_keep {G : Nat → Int32} {f0 : Nat → Int32} {f1 : Nat → Int32} {i_ : Int32} (h_0 : GI G) : S_m_keep G f0 f1 i_ := by
  unfold S_m_keep
  have h_0_g := h_0
  obtain ⟨⟨h_0_2a, h_0_2b⟩, ⟨h_0_3a, h_0_3b⟩, ⟨h_0_4a, h_0_4b⟩, ⟨h_0_5a, h_0_5b⟩, ⟨h_0_6a, h_0_6b⟩, ⟨h_0_14a, h_0_14b⟩, ⟨h_0_42a, h_0_42b⟩⟩ := h_0_g
  refine ⟨s_in, ?_⟩
  refine ⟨fun c_1 => ?_, fun c_1 => ?_⟩
  · exact trivial
  · skip
    try simp (disch := omega) only [↓i_in, ↓i_isCouple, ↓i_isBridge, ↓i_isTheme, ↓i_isBarge, i_lt, i_le, i_eq, i_clamp, i_upd, i_m1, Int32.toInt_toInt64, Int32.toInt_add, Int32.toInt_sub, Int32.toInt_mul, bm32, Int32.reduceToInt, Int64.reduceToInt, Nat.reduceLT, Nat.reduceEqDiff, reduceIte] at c_1
    refine ⟨(s_copy (by first | omega | (simp (disch := omega) only [↓i_in, ↓i_isCouple, ↓i_isBridge, ↓i_isTheme, ↓i_isBarge, i_lt, i_le, i_eq, i_clamp, i_upd, i_m1, Int32.toInt_toInt64, Int32.toInt_add, Int32.toInt_sub, Int32.toInt_mul, bm32, Int32.reduceToInt, Int64.reduceToInt, Nat.reduceLT, Nat.reduceEqDiff, reduceIte] <;> omega)) (by first | omega | (simp (disch := omega) only [↓i_in, ↓i_isCouple, ↓i_isBridge, ↓i_isTheme, ↓i_isBarge, i_lt, i_le, i_eq, i_clamp, i_upd, i_m1, Int32.toInt_toInt64, Int32.toInt_add, Int32.toInt_sub, Int32.toInt_mul, bm32, Int32.reduceToInt, Int64.reduceToInt, Nat.reduceLT, Nat.reduceEqDiff, reduceIte] <;> omega)) (by first | omega | (simp (disch := omega) only [↓i_in, ↓i_isCouple, ↓i_isBridge, ↓i_isTheme, ↓i_isBarge, i_lt, i_le, i_eq, i_clamp, i_upd, i_m1, Int32.toInt_toInt64, Int32.toInt_add, Int32.toInt_sub, Int32.toInt_mul, bm32, Int32.reduceToInt, Int64.reduceToInt, Nat.reduceLT, Nat.reduceEqDiff, reduceIte] <;> omega)) (by first | omega | (simp (disch := omega) only [↓i_in, ↓i_isCouple, ↓i_isBridge, ↓i_isTheme, ↓i_isBarge, i_lt, i_le, i_eq, i_clamp, i_upd, i_m1, Int32.toInt_toInt64, Int32.toInt_add, Int32.toInt_sub, Int32.toInt_mul, bm32, Int32.reduceToInt, Int64.reduceToInt, Nat.reduceLT, Nat.reduceEqDiff, reduceIte] <;> omega))), ?_⟩
    refine ⟨vp_in_iff.mpr (by first | omega | (simp (disch := omega) only [↓i_in, ↓i_isCouple, ↓i_isBridge, ↓i_isTheme, ↓i_isBarge, i_lt, i_le, i_eq, i_clamp, i_upd, i_m1, Int32.toInt_toInt64, Int32.toInt_add, Int32.toInt_sub, Int32.toInt_mul, bm32, Int32.reduceToInt, Int64.reduceToInt, Nat.reduceLT, Nat.reduceEqDiff, reduceIte] <;> omega)), ?_⟩
    exact trivial
set_option maxHeartbeats 4000000 in
theorem s_goBack {G : Nat → Int32} {f0 : Nat → Int32} {f1 : Nat → Int32} {i_ : Int32} (h_0 : GI G) : S_m_goBack G f0 f1 i_ := by
  unfold S_m_goBack
  have h_0_g := h_0
  obtain ⟨⟨h_0_2a, h_0_2b⟩, ⟨h_0_3a, h_0_3b⟩, ⟨h_0_4a, h_0_4b⟩, ⟨h_0_5a, h_0_5b⟩, ⟨h_0_6a, h_0_6b⟩, ⟨h_0_14a, h_0_14b⟩, ⟨h_0_42a, h_0_42b⟩⟩ := h_0_g
  refine ⟨s_in, ?_⟩
  refine ⟨fun c_1 => ?_, fun c_1 => ?_⟩
  · exact trivial
  · skip
    try simp (disch := omega) only [↓i_in, ↓i_isCouple, ↓i_isBridge, ↓i_isTheme, ↓i_isBarge, i_lt, i_le, i_eq, i_clamp, i_upd, i_m1, Int32.toInt_toInt64, Int32.toInt_add, Int32.toInt_sub, Int32.toInt_mul, bm32, Int32.reduceToInt, Int64.reduceToInt, Nat.reduceLT, Nat.reduceEqDiff, reduceIte] at c_1
    refine ⟨vp_in_iff.mpr (by first | omega | (simp (disch := omega) only [↓i_in, ↓i_isCouple, ↓i_isBridge, ↓i_isTheme, ↓i_isBarge, i_lt, i_le, i_eq, i_clamp, i_upd, i_m1, Int32.toInt_toInt64, Int32.toInt_add, Int32.toInt_sub, Int32.toInt_mul, bm32, Int32.reduceToInt, Int64.reduceToInt, Nat.reduceLT, Nat.reduceEqDiff, reduceIte] <;> omega)), ?_⟩
    refine ⟨fun c_2 => ?_, fun c_2 => ?_⟩
    · exact trivial
    · skip
      try simp (disch := omega) only [↓i_in, ↓i_isCouple, ↓i_isBridge, ↓i_isTheme, ↓i_isBarge, i_lt, i_le, i_eq, i_clamp, i_upd, i_m1, Int32.toInt_toInt64, Int32.toInt_add, Int32.toInt_sub, Int32.toInt_mul, bm32, Int32.reduceToInt, Int64.reduceToInt, Nat.reduceLT, Nat.reduceEqDiff, reduceIte] at c_2
      refine ⟨(s_copy (by first | omega | (simp (disch := omega) only [↓i_in, ↓i_isCouple, ↓i_isBridge, ↓i_isTheme, ↓i_isBarge, i_lt, i_le, i_eq, i_clamp, i_upd, i_m1, Int32.toInt_toInt64, Int32.toInt_add, Int32.toInt_sub, Int32.toInt_mul, bm32, Int32.reduceToInt, Int64.reduceToInt, Nat.reduceLT, Nat.reduceEqDiff, reduceIte] <;> omega)) (by first | omega | (simp (disch := omega) only [↓i_in, ↓i_isCouple, ↓i_isBridge, ↓i_isTheme, ↓i_isBarge, i_lt, i_le, i_eq, i_clamp, i_upd, i_m1, Int32.toInt_toInt64, Int32.toInt_add, Int32.toInt_sub, Int32.toInt_mul, bm32, Int32.reduceToInt, Int64.reduceToInt, Nat.reduceLT, Nat.reduceEqDiff, reduceIte] <;> omega)) (by first | omega | (simp (disch := omega) only [↓i_in, ↓i_isCouple, ↓i_isBridge, ↓i_isTheme, ↓i_isBarge, i_lt, i_le, i_eq, i_clamp, i_upd, i_m1, Int32.toInt_toInt64, Int32.toInt_add, Int32.toInt_sub, Int32.toInt_mul, bm32, Int32.reduceToInt, Int64.reduceToInt, Nat.reduceLT, Nat.reduceEqDiff, reduceIte] <;> omega)) (by first | omega | (simp (disch := omega) only [↓i_in, ↓i_isCouple, ↓i_isBridge, ↓i_isTheme, ↓i_isBarge, i_lt, i_le, i_eq, i_clamp, i_upd, i_m1, Int32.toInt_toInt64, Int32.toInt_add, Int32.toInt_sub, Int32.toInt_mul, bm32, Int32.reduceToInt, Int64.reduceToInt, Nat.reduceLT, Nat.reduceEqDiff, reduceIte] <;> omega))), ?_⟩
      exact trivial
set_option maxHeartbeats 4000000 in
theorem s_undo {G : Nat → Int32} {f0 : Nat → Int32} (h_0 : GI G) : S_m_undo G f0 := by
  unfold S_m_undo
  have h_0_g := h_0
  obtain ⟨⟨h_0_2a, h_0_2b⟩, ⟨h_0_3a, h_0_3b⟩, ⟨h_0_4a, h_0_4b⟩, ⟨h_0_5a, h_0_5b⟩, ⟨h_0_6a, h_0_6b⟩, ⟨h_0_14a, h_0_14b⟩, ⟨h_0_42a, h_0_42b⟩⟩ := h_0_g
  refine ⟨fun c_1 => ?_, fun c_1 => ?_⟩
  · exact trivial
  · skip
    try simp (disch := omega) only [↓i_in, ↓i_isCouple, ↓i_isBridge, ↓i_isTheme, ↓i_isBarge, i_lt, i_le, i_eq, i_clamp, i_upd, i_m1, Int32.toInt_toInt64, Int32.toInt_add, Int32.toInt_sub, Int32.toInt_mul, bm32, Int32.reduceToInt, Int64.reduceToInt, Nat.reduceLT, Nat.reduceEqDiff, reduceIte] at c_1
    refine ⟨(s_copy (by first | omega | (simp (disch := omega) only [↓i_in, ↓i_isCouple, ↓i_isBridge, ↓i_isTheme, ↓i_isBarge, i_lt, i_le, i_eq, i_clamp, i_upd, i_m1, Int32.toInt_toInt64, Int32.toInt_add, Int32.toInt_sub, Int32.toInt_mul, bm32, Int32.reduceToInt, Int64.reduceToInt, Nat.reduceLT, Nat.reduceEqDiff, reduceIte] <;> omega)) (by first | omega | (simp (disch := omega) only [↓i_in, ↓i_isCouple, ↓i_isBridge, ↓i_isTheme, ↓i_isBarge, i_lt, i_le, i_eq, i_clamp, i_upd, i_m1, Int32.toInt_toInt64, Int32.toInt_add, Int32.toInt_sub, Int32.toInt_mul, bm32, Int32.reduceToInt, Int64.reduceToInt, Nat.reduceLT, Nat.reduceEqDiff, reduceIte] <;> omega)) (by first | omega | (simp (disch := omega) only [↓i_in, ↓i_isCouple, ↓i_isBridge, ↓i_isTheme, ↓i_isBarge, i_lt, i_le, i_eq, i_clamp, i_upd, i_m1, Int32.toInt_toInt64, Int32.toInt_add, Int32.toInt_sub, Int32.toInt_mul, bm32, Int32.reduceToInt, Int64.reduceToInt, Nat.reduceLT, Nat.reduceEqDiff, reduceIte] <;> omega)) (by first | omega | (simp (disch := omega) only [↓i_in, ↓i_isCouple, ↓i_isBridge, ↓i_isTheme, ↓i_isBarge, i_lt, i_le, i_eq, i_clamp, i_upd, i_m1, Int32.toInt_toInt64, Int32.toInt_add, Int32.toInt_sub, Int32.toInt_mul, bm32, Int32.reduceToInt, Int64.reduceToInt, Nat.reduceLT, Nat.reduceEqDiff, reduceIte] <;> omega))), ?_⟩
    exact trivial
set_option maxHeartbeats 4000000 in
theorem s_send {G : Nat → Int32} {f0 : Nat → Int32} {c_ : Int32} {b_ : Int32} {t_ : Int32} (h_0 : GI G) (h_1 : WI f0) : S_m_send G f0 c_ b_ t_ := by
  unfold S_m_send
  have h_0_g := h_0
  obtain ⟨⟨h_0_2a, h_0_2b⟩, ⟨h_0_3a, h_0_3b⟩, ⟨h_0_4a, h_0_4b⟩, ⟨h_0_5a, h_0_5b⟩, ⟨h_0_6a, h_0_6b⟩, ⟨h_0_14a, h_0_14b⟩, ⟨h_0_42a, h_0_42b⟩⟩ := h_0_g
  refine ⟨s_isCouple, ?_⟩
  refine ⟨fun c_1 => ?_, fun c_1 => ?_⟩
  · exact trivial
  · skip
    try simp (disch := omega) only [↓i_in, ↓i_isCouple, ↓i_isBridge, ↓i_isTheme, ↓i_isBarge, i_lt, i_le, i_eq, i_clamp, i_upd, i_m1, Int32.toInt_toInt64, Int32.toInt_add, Int32.toInt_sub, Int32.toInt_mul, bm32, Int32.reduceToInt, Int64.reduceToInt, Nat.reduceLT, Nat.reduceEqDiff, reduceIte] at c_1
    refine ⟨s_isBridge, ?_⟩
    refine ⟨fun c_2 => ?_, fun c_2 => ?_⟩
    · exact trivial
    · skip
      try simp (disch := omega) only [↓i_in, ↓i_isCouple, ↓i_isBridge, ↓i_isTheme, ↓i_isBarge, i_lt, i_le, i_eq, i_clamp, i_upd, i_m1, Int32.toInt_toInt64, Int32.toInt_add, Int32.toInt_sub, Int32.toInt_mul, bm32, Int32.reduceToInt, Int64.reduceToInt, Nat.reduceLT, Nat.reduceEqDiff, reduceIte] at c_2
      refine ⟨s_isTheme, ?_⟩
      refine ⟨fun c_3 => ?_, fun c_3 => ?_⟩
      · exact trivial
      · skip
        try simp (disch := omega) only [↓i_in, ↓i_isCouple, ↓i_isBridge, ↓i_isTheme, ↓i_isBarge, i_lt, i_le, i_eq, i_clamp, i_upd, i_m1, Int32.toInt_toInt64, Int32.toInt_add, Int32.toInt_sub, Int32.toInt_mul, bm32, Int32.reduceToInt, Int64.reduceToInt, Nat.reduceLT, Nat.reduceEqDiff, reduceIte] at c_3
        refine ⟨(s_whoIsAt h_0 (by first | omega | (simp (disch := omega) only [↓i_in, ↓i_isCouple, ↓i_isBridge, ↓i_isTheme, ↓i_isBarge, i_lt, i_le, i_eq, i_clamp, i_upd, i_m1, Int32.toInt_toInt64, Int32.toInt_add, Int32.toInt_sub, Int32.toInt_mul, bm32, Int32.reduceToInt, Int64.reduceToInt, Nat.reduceLT, Nat.reduceEqDiff, reduceIte] <;> omega)) (by first | omega | (simp (disch := omega) only [↓i_in, ↓i_isCouple, ↓i_isBridge, ↓i_isTheme, ↓i_isBarge, i_lt, i_le, i_eq, i_clamp, i_upd, i_m1, Int32.toInt_toInt64, Int32.toInt_add, Int32.toInt_sub, Int32.toInt_mul, bm32, Int32.reduceToInt, Int64.reduceToInt, Nat.reduceLT, Nat.reduceEqDiff, reduceIte] <;> omega))), ?_⟩
        have v_4 := p_whoIsAt (G := G) (f0 := f0) (h_ := 0) (b_ := b_) h_0 (by first | omega | (simp (disch := omega) only [↓i_in, ↓i_isCouple, ↓i_isBridge, ↓i_isTheme, ↓i_isBarge, i_lt, i_le, i_eq, i_clamp, i_upd, i_m1, Int32.toInt_toInt64, Int32.toInt_add, Int32.toInt_sub, Int32.toInt_mul, bm32, Int32.reduceToInt, Int64.reduceToInt, Nat.reduceLT, Nat.reduceEqDiff, reduceIte] <;> omega)) (by first | omega | (simp (disch := omega) only [↓i_in, ↓i_isCouple, ↓i_isBridge, ↓i_isTheme, ↓i_isBarge, i_lt, i_le, i_eq, i_clamp, i_upd, i_m1, Int32.toInt_toInt64, Int32.toInt_add, Int32.toInt_sub, Int32.toInt_mul, bm32, Int32.reduceToInt, Int64.reduceToInt, Nat.reduceLT, Nat.reduceEqDiff, reduceIte] <;> omega))
        try simp (disch := omega) only [↓i_in, ↓i_isCouple, ↓i_isBridge, ↓i_isTheme, ↓i_isBarge, i_lt, i_le, i_eq, i_clamp, i_upd, i_m1, Int32.toInt_toInt64, Int32.toInt_add, Int32.toInt_sub, Int32.toInt_mul, bm32, Int32.reduceToInt, Int64.reduceToInt, Nat.reduceLT, Nat.reduceEqDiff, reduceIte] at v_4
        refine ⟨s_isDone, ?_⟩
        refine ⟨fun c_5 => ?_, fun c_5 => ?_⟩
        · skip
          try simp (disch := omega) only [↓i_in, ↓i_isCouple, ↓i_isBridge, ↓i_isTheme, ↓i_isBarge, i_lt, i_le, i_eq, i_clamp, i_upd, i_m1, Int32.toInt_toInt64, Int32.toInt_add, Int32.toInt_sub, Int32.toInt_mul, bm32, Int32.reduceToInt, Int64.reduceToInt, Nat.reduceLT, Nat.reduceEqDiff, reduceIte] at c_5
          refine ⟨fun c_6 => ?_, fun c_6 => ?_⟩
          · skip
            try simp (disch := omega) only [↓i_in, ↓i_isCouple, ↓i_isBridge, ↓i_isTheme, ↓i_isBarge, i_lt, i_le, i_eq, i_clamp, i_upd, i_m1, Int32.toInt_toInt64, Int32.toInt_add, Int32.toInt_sub, Int32.toInt_mul, bm32, Int32.reduceToInt, Int64.reduceToInt, Nat.reduceLT, Nat.reduceEqDiff, reduceIte] at c_6
            refine ⟨(s_minds h_0 h_1), ?_⟩
            intro o_24 o_25 e_7
            have p_8 := p_minds h_0 h_1 _ _ e_7.symm
            obtain ⟨i_9, i_10, i_11⟩ := p_8
            have i_9_g := i_9
            obtain ⟨⟨i_9_2a, i_9_2b⟩, ⟨i_9_3a, i_9_3b⟩, ⟨i_9_4a, i_9_4b⟩, ⟨i_9_5a, i_9_5b⟩, ⟨i_9_6a, i_9_6b⟩, ⟨i_9_14a, i_9_14b⟩, ⟨i_9_42a, i_9_42b⟩⟩ := i_9_g
            have o_24_3 := i_11 3 (by decide)
            have o_24_4 := i_11 4 (by decide)
            have o_24_5 := i_11 5 (by decide)
            have o_24_6 := i_11 6 (by decide)
            have o_24_14 := i_11 14 (by decide)
            have o_24_42 := i_11 42 (by decide)
            refine ⟨vp_in_iff.mpr (by first | omega | (simp (disch := omega) only [↓i_in, ↓i_isCouple, ↓i_isBridge, ↓i_isTheme, ↓i_isBarge, i_lt, i_le, i_eq, i_clamp, i_upd, i_m1, Int32.toInt_toInt64, Int32.toInt_add, Int32.toInt_sub, Int32.toInt_mul, bm32, Int32.reduceToInt, Int64.reduceToInt, Nat.reduceLT, Nat.reduceEqDiff, reduceIte, o_24_3, o_24_4, o_24_5, o_24_6, o_24_14, o_24_42] <;> omega)), ?_⟩
            refine ⟨vp_in_iff.mpr (by first | omega | (simp (disch := omega) only [↓i_in, ↓i_isCouple, ↓i_isBridge, ↓i_isTheme, ↓i_isBarge, i_lt, i_le, i_eq, i_clamp, i_upd, i_m1, Int32.toInt_toInt64, Int32.toInt_add, Int32.toInt_sub, Int32.toInt_mul, bm32, Int32.reduceToInt, Int64.reduceToInt, Nat.reduceLT, Nat.reduceEqDiff, reduceIte, o_24_3, o_24_4, o_24_5, o_24_6, o_24_14, o_24_42] <;> omega)), ?_⟩
            refine ⟨vp_in_iff.mpr (by first | omega | (simp (disch := omega) only [↓i_in, ↓i_isCouple, ↓i_isBridge, ↓i_isTheme, ↓i_isBarge, i_lt, i_le, i_eq, i_clamp, i_upd, i_m1, Int32.toInt_toInt64, Int32.toInt_add, Int32.toInt_sub, Int32.toInt_mul, bm32, Int32.reduceToInt, Int64.reduceToInt, Nat.reduceLT, Nat.reduceEqDiff, reduceIte, o_24_3, o_24_4, o_24_5, o_24_6, o_24_14, o_24_42] <;> omega)), ?_⟩
            exact trivial
          · skip
            try simp (disch := omega) only [↓i_in, ↓i_isCouple, ↓i_isBridge, ↓i_isTheme, ↓i_isBarge, i_lt, i_le, i_eq, i_clamp, i_upd, i_m1, Int32.toInt_toInt64, Int32.toInt_add, Int32.toInt_sub, Int32.toInt_mul, bm32, Int32.reduceToInt, Int64.reduceToInt, Nat.reduceLT, Nat.reduceEqDiff, reduceIte] at c_6
            refine ⟨fun c_12 => ?_, fun c_12 => ?_⟩
            · skip
              try simp (disch := omega) only [↓i_in, ↓i_isCouple, ↓i_isBridge, ↓i_isTheme, ↓i_isBarge, i_lt, i_le, i_eq, i_clamp, i_upd, i_m1, Int32.toInt_toInt64, Int32.toInt_add, Int32.toInt_sub, Int32.toInt_mul, bm32, Int32.reduceToInt, Int64.reduceToInt, Nat.reduceLT, Nat.reduceEqDiff, reduceIte] at c_12
              refine ⟨(s_minds h_0 h_1), ?_⟩
              intro o_33 o_34 e_13
              have p_14 := p_minds h_0 h_1 _ _ e_13.symm
              obtain ⟨i_15, i_16, i_17⟩ := p_14
              have i_15_g := i_15
              obtain ⟨⟨i_15_2a, i_15_2b⟩, ⟨i_15_3a, i_15_3b⟩, ⟨i_15_4a, i_15_4b⟩, ⟨i_15_5a, i_15_5b⟩, ⟨i_15_6a, i_15_6b⟩, ⟨i_15_14a, i_15_14b⟩, ⟨i_15_42a, i_15_42b⟩⟩ := i_15_g
              have o_33_3 := i_17 3 (by decide)
              have o_33_4 := i_17 4 (by decide)
              have o_33_5 := i_17 5 (by decide)
              have o_33_6 := i_17 6 (by decide)
              have o_33_14 := i_17 14 (by decide)
              have o_33_42 := i_17 42 (by decide)
              refine ⟨vp_in_iff.mpr (by first | omega | (simp (disch := omega) only [↓i_in, ↓i_isCouple, ↓i_isBridge, ↓i_isTheme, ↓i_isBarge, i_lt, i_le, i_eq, i_clamp, i_upd, i_m1, Int32.toInt_toInt64, Int32.toInt_add, Int32.toInt_sub, Int32.toInt_mul, bm32, Int32.reduceToInt, Int64.reduceToInt, Nat.reduceLT, Nat.reduceEqDiff, reduceIte, o_33_3, o_33_4, o_33_5, o_33_6, o_33_14, o_33_42] <;> omega)), ?_⟩
              refine ⟨vp_in_iff.mpr (by first | omega | (simp (disch := omega) only [↓i_in, ↓i_isCouple, ↓i_isBridge, ↓i_isTheme, ↓i_isBarge, i_lt, i_le, i_eq, i_clamp, i_upd, i_m1, Int32.toInt_toInt64, Int32.toInt_add, Int32.toInt_sub, Int32.toInt_mul, bm32, Int32.reduceToInt, Int64.reduceToInt, Nat.reduceLT, Nat.reduceEqDiff, reduceIte, o_33_3, o_33_4, o_33_5, o_33_6, o_33_14, o_33_42] <;> omega)), ?_⟩
              refine ⟨vp_in_iff.mpr (by first | omega | (simp (disch := omega) only [↓i_in, ↓i_isCouple, ↓i_isBridge, ↓i_isTheme, ↓i_isBarge, i_lt, i_le, i_eq, i_clamp, i_upd, i_m1, Int32.toInt_toInt64, Int32.toInt_add, Int32.toInt_sub, Int32.toInt_mul, bm32, Int32.reduceToInt, Int64.reduceToInt, Nat.reduceLT, Nat.reduceEqDiff, reduceIte, o_33_3, o_33_4, o_33_5, o_33_6, o_33_14, o_33_42] <;> omega)), ?_⟩
              exact trivial
            · exact trivial
        · exact trivial
set_option maxHeartbeats 4000000 in
theorem s_home {G : Nat → Int32} {f0 : Nat → Int32} {c_ : Int32} (h_0 : GI G) (h_1 : WI f0) : S_m_home G f0 c_ := by
  unfold S_m_home
  have h_0_g := h_0
  obtain ⟨⟨h_0_2a, h_0_2b⟩, ⟨h_0_3a, h_0_3b⟩, ⟨h_0_4a, h_0_4b⟩, ⟨h_0_5a, h_0_5b⟩, ⟨h_0_6a, h_0_6b⟩, ⟨h_0_14a, h_0_14b⟩, ⟨h_0_42a, h_0_42b⟩⟩ := h_0_g
  refine ⟨s_isCouple, ?_⟩
  refine ⟨fun c_1 => ?_, fun c_1 => ?_⟩
  · exact trivial
  · skip
    try simp (disch := omega) only [↓i_in, ↓i_isCouple, ↓i_isBridge, ↓i_isTheme, ↓i_isBarge, i_lt, i_le, i_eq, i_clamp, i_upd, i_m1, Int32.toInt_toInt64, Int32.toInt_add, Int32.toInt_sub, Int32.toInt_mul, bm32, Int32.reduceToInt, Int64.reduceToInt, Nat.reduceLT, Nat.reduceEqDiff, reduceIte] at c_1
    refine ⟨vp_in_iff.mpr (by first | omega | (simp (disch := omega) only [↓i_in, ↓i_isCouple, ↓i_isBridge, ↓i_isTheme, ↓i_isBarge, i_lt, i_le, i_eq, i_clamp, i_upd, i_m1, Int32.toInt_toInt64, Int32.toInt_add, Int32.toInt_sub, Int32.toInt_mul, bm32, Int32.reduceToInt, Int64.reduceToInt, Nat.reduceLT, Nat.reduceEqDiff, reduceIte] <;> omega)), ?_⟩
    refine ⟨fun c_2 => ?_, fun c_2 => ?_⟩
    · exact trivial
    · skip
      try simp (disch := omega) only [↓i_in, ↓i_isCouple, ↓i_isBridge, ↓i_isTheme, ↓i_isBarge, i_lt, i_le, i_eq, i_clamp, i_upd, i_m1, Int32.toInt_toInt64, Int32.toInt_add, Int32.toInt_sub, Int32.toInt_mul, bm32, Int32.reduceToInt, Int64.reduceToInt, Nat.reduceLT, Nat.reduceEqDiff, reduceIte] at c_2
      refine ⟨(s_minds h_0 h_1), ?_⟩
      intro o_10 o_11 e_3
      have p_4 := p_minds h_0 h_1 _ _ e_3.symm
      obtain ⟨i_5, i_6, i_7⟩ := p_4
      have i_5_g := i_5
      obtain ⟨⟨i_5_2a, i_5_2b⟩, ⟨i_5_3a, i_5_3b⟩, ⟨i_5_4a, i_5_4b⟩, ⟨i_5_5a, i_5_5b⟩, ⟨i_5_6a, i_5_6b⟩, ⟨i_5_14a, i_5_14b⟩, ⟨i_5_42a, i_5_42b⟩⟩ := i_5_g
      have o_10_3 := i_7 3 (by decide)
      have o_10_4 := i_7 4 (by decide)
      have o_10_5 := i_7 5 (by decide)
      have o_10_6 := i_7 6 (by decide)
      have o_10_14 := i_7 14 (by decide)
      have o_10_42 := i_7 42 (by decide)
      refine ⟨vp_in_iff.mpr (by first | omega | (simp (disch := omega) only [↓i_in, ↓i_isCouple, ↓i_isBridge, ↓i_isTheme, ↓i_isBarge, i_lt, i_le, i_eq, i_clamp, i_upd, i_m1, Int32.toInt_toInt64, Int32.toInt_add, Int32.toInt_sub, Int32.toInt_mul, bm32, Int32.reduceToInt, Int64.reduceToInt, Nat.reduceLT, Nat.reduceEqDiff, reduceIte, o_10_3, o_10_4, o_10_5, o_10_6, o_10_14, o_10_42] <;> omega)), ?_⟩
      exact trivial
set_option maxHeartbeats 4000000 in
theorem s_grieve {G : Nat → Int32} {f0 : Nat → Int32} {c_ : Int32} {v_ : Int32} (h_0 : GI G) (h_1 : WI f0) : S_m_grieve G f0 c_ v_ := by
  unfold S_m_grieve
  have h_0_g := h_0
  obtain ⟨⟨h_0_2a, h_0_2b⟩, ⟨h_0_3a, h_0_3b⟩, ⟨h_0_4a, h_0_4b⟩, ⟨h_0_5a, h_0_5b⟩, ⟨h_0_6a, h_0_6b⟩, ⟨h_0_14a, h_0_14b⟩, ⟨h_0_42a, h_0_42b⟩⟩ := h_0_g
  refine ⟨s_isCouple, ?_⟩
  refine ⟨fun c_1 => ?_, fun c_1 => ?_⟩
  · exact trivial
  · skip
    try simp (disch := omega) only [↓i_in, ↓i_isCouple, ↓i_isBridge, ↓i_isTheme, ↓i_isBarge, i_lt, i_le, i_eq, i_clamp, i_upd, i_m1, Int32.toInt_toInt64, Int32.toInt_add, Int32.toInt_sub, Int32.toInt_mul, bm32, Int32.reduceToInt, Int64.reduceToInt, Nat.reduceLT, Nat.reduceEqDiff, reduceIte] at c_1
    refine ⟨s_in, ?_⟩
    refine ⟨fun c_2 => ?_, fun c_2 => ?_⟩
    · exact trivial
    · skip
      try simp (disch := omega) only [↓i_in, ↓i_isCouple, ↓i_isBridge, ↓i_isTheme, ↓i_isBarge, i_lt, i_le, i_eq, i_clamp, i_upd, i_m1, Int32.toInt_toInt64, Int32.toInt_add, Int32.toInt_sub, Int32.toInt_mul, bm32, Int32.reduceToInt, Int64.reduceToInt, Nat.reduceLT, Nat.reduceEqDiff, reduceIte] at c_2
      refine ⟨s_isDone, ?_⟩
      refine ⟨fun c_3 => ?_, fun c_3 => ?_⟩
      · skip
        try simp (disch := omega) only [↓i_in, ↓i_isCouple, ↓i_isBridge, ↓i_isTheme, ↓i_isBarge, i_lt, i_le, i_eq, i_clamp, i_upd, i_m1, Int32.toInt_toInt64, Int32.toInt_add, Int32.toInt_sub, Int32.toInt_mul, bm32, Int32.reduceToInt, Int64.reduceToInt, Nat.reduceLT, Nat.reduceEqDiff, reduceIte] at c_3
        refine ⟨(s_minds h_0 h_1), ?_⟩
        intro o_16 o_17 e_4
        have p_5 := p_minds h_0 h_1 _ _ e_4.symm
        obtain ⟨i_6, i_7, i_8⟩ := p_5
        have i_6_g := i_6
        obtain ⟨⟨i_6_2a, i_6_2b⟩, ⟨i_6_3a, i_6_3b⟩, ⟨i_6_4a, i_6_4b⟩, ⟨i_6_5a, i_6_5b⟩, ⟨i_6_6a, i_6_6b⟩, ⟨i_6_14a, i_6_14b⟩, ⟨i_6_42a, i_6_42b⟩⟩ := i_6_g
        have o_16_3 := i_8 3 (by decide)
        have o_16_4 := i_8 4 (by decide)
        have o_16_5 := i_8 5 (by decide)
        have o_16_6 := i_8 6 (by decide)
        have o_16_14 := i_8 14 (by decide)
        have o_16_42 := i_8 42 (by decide)
        refine ⟨(s_grieves (by first | omega | (simp (disch := omega) only [↓i_in, ↓i_isCouple, ↓i_isBridge, ↓i_isTheme, ↓i_isBarge, i_lt, i_le, i_eq, i_clamp, i_upd, i_m1, Int32.toInt_toInt64, Int32.toInt_add, Int32.toInt_sub, Int32.toInt_mul, bm32, Int32.reduceToInt, Int64.reduceToInt, Nat.reduceLT, Nat.reduceEqDiff, reduceIte, o_16_3, o_16_4, o_16_5, o_16_6, o_16_14, o_16_42] <;> omega)) (by first | omega | (simp (disch := omega) only [↓i_in, ↓i_isCouple, ↓i_isBridge, ↓i_isTheme, ↓i_isBarge, i_lt, i_le, i_eq, i_clamp, i_upd, i_m1, Int32.toInt_toInt64, Int32.toInt_add, Int32.toInt_sub, Int32.toInt_mul, bm32, Int32.reduceToInt, Int64.reduceToInt, Nat.reduceLT, Nat.reduceEqDiff, reduceIte, o_16_3, o_16_4, o_16_5, o_16_6, o_16_14, o_16_42] <;> omega))), ?_⟩
        refine ⟨vp_in_iff.mpr (by first | omega | (simp (disch := omega) only [↓i_in, ↓i_isCouple, ↓i_isBridge, ↓i_isTheme, ↓i_isBarge, i_lt, i_le, i_eq, i_clamp, i_upd, i_m1, Int32.toInt_toInt64, Int32.toInt_add, Int32.toInt_sub, Int32.toInt_mul, bm32, Int32.reduceToInt, Int64.reduceToInt, Nat.reduceLT, Nat.reduceEqDiff, reduceIte, o_16_3, o_16_4, o_16_5, o_16_6, o_16_14, o_16_42] <;> omega)), ?_⟩
        exact trivial
      · exact trivial
set_option maxHeartbeats 4000000 in
theorem p_opens {G : Nat → Int32} {f0 : Nat → Int32} {f10 : Nat → Int32} {f8 : Nat → Int32} {c_ : Int32} {b_ : Int32} {t_ : Int32} : ∀ (r : Int32) (u : (Nat → Int32)), f_m_opens G f0 f10 f8 c_ b_ t_ = (r, u) → QG G u := by
  intro r u e
  unfold f_m_opens at e
  by_cases c_1 : ((f_m_quarrels G f10 c_ t_ (f0 ((0 + c_) : Int32).toNatClampNeg) (f8 (b_ : Int32).toNatClampNeg)) 34) = 0
  · rw [if_pos c_1] at e
    try simp (disch := omega) only [↓i_in, ↓i_isCouple, ↓i_isBridge, ↓i_isTheme, ↓i_isBarge, i_lt, i_le, i_eq, i_clamp, i_upd, i_m1, Int32.toInt_toInt64, Int32.toInt_add, Int32.toInt_sub, Int32.toInt_mul, bm32, Int32.reduceToInt, Int64.reduceToInt, Nat.reduceLT, Nat.reduceEqDiff, reduceIte] at c_1
    cases e
    exact (QG.trans (QG.refl _) p_quarrels)
  · rw [if_neg c_1] at e
    try simp (disch := omega) only [↓i_in, ↓i_isCouple, ↓i_isBridge, ↓i_isTheme, ↓i_isBarge, i_lt, i_le, i_eq, i_clamp, i_upd, i_m1, Int32.toInt_toInt64, Int32.toInt_add, Int32.toInt_sub, Int32.toInt_mul, bm32, Int32.reduceToInt, Int64.reduceToInt, Nat.reduceLT, Nat.reduceEqDiff, reduceIte] at c_1
    by_cases c_2 : (f_m_isDone f0 c_) = 0
    · rw [if_pos c_2] at e
      try simp (disch := omega) only [↓i_in, ↓i_isCouple, ↓i_isBridge, ↓i_isTheme, ↓i_isBarge, i_lt, i_le, i_eq, i_clamp, i_upd, i_m1, Int32.toInt_toInt64, Int32.toInt_add, Int32.toInt_sub, Int32.toInt_mul, bm32, Int32.reduceToInt, Int64.reduceToInt, Nat.reduceLT, Nat.reduceEqDiff, reduceIte] at c_2
      cases e
      exact (QG.trans (QG.refl _) p_quarrels)
    · rw [if_neg c_2] at e
      try simp (disch := omega) only [↓i_in, ↓i_isCouple, ↓i_isBridge, ↓i_isTheme, ↓i_isBarge, i_lt, i_le, i_eq, i_clamp, i_upd, i_m1, Int32.toInt_toInt64, Int32.toInt_add, Int32.toInt_sub, Int32.toInt_mul, bm32, Int32.reduceToInt, Int64.reduceToInt, Nat.reduceLT, Nat.reduceEqDiff, reduceIte] at c_2
      cases e
      exact (QG.trans (QG.refl _) p_quarrels)
set_option maxHeartbeats 4000000 in
theorem s_opens {G : Nat → Int32} {f0 : Nat → Int32} {f10 : Nat → Int32} {f8 : Nat → Int32} {c_ : Int32} {b_ : Int32} {t_ : Int32} (h_0 : 0 ≤ c_.toInt) (h_1 : c_.toInt < 6) (h_2 : 0 ≤ b_.toInt) (h_3 : b_.toInt < 6) (h_4 : 0 ≤ t_.toInt) (h_5 : t_.toInt < 5) : S_m_opens G f0 f10 f8 c_ b_ t_ := by
  unfold S_m_opens
  refine ⟨vp_in_iff.mpr (by first | omega | (simp (disch := omega) only [↓i_in, ↓i_isCouple, ↓i_isBridge, ↓i_isTheme, ↓i_isBarge, i_lt, i_le, i_eq, i_clamp, i_upd, i_m1, Int32.toInt_toInt64, Int32.toInt_add, Int32.toInt_sub, Int32.toInt_mul, bm32, Int32.reduceToInt, Int64.reduceToInt, Nat.reduceLT, Nat.reduceEqDiff, reduceIte] <;> omega)), ?_⟩
  refine ⟨vp_in_iff.mpr (by first | omega | (simp (disch := omega) only [↓i_in, ↓i_isCouple, ↓i_isBridge, ↓i_isTheme, ↓i_isBarge, i_lt, i_le, i_eq, i_clamp, i_upd, i_m1, Int32.toInt_toInt64, Int32.toInt_add, Int32.toInt_sub, Int32.toInt_mul, bm32, Int32.reduceToInt, Int64.reduceToInt, Nat.reduceLT, Nat.reduceEqDiff, reduceIte] <;> omega)), ?_⟩
  refine ⟨(s_quarrels (by first | omega | (simp (disch := omega) only [↓i_in, ↓i_isCouple, ↓i_isBridge, ↓i_isTheme, ↓i_isBarge, i_lt, i_le, i_eq, i_clamp, i_upd, i_m1, Int32.toInt_toInt64, Int32.toInt_add, Int32.toInt_sub, Int32.toInt_mul, bm32, Int32.reduceToInt, Int64.reduceToInt, Nat.reduceLT, Nat.reduceEqDiff, reduceIte] <;> omega)) (by first | omega | (simp (disch := omega) only [↓i_in, ↓i_isCouple, ↓i_isBridge, ↓i_isTheme, ↓i_isBarge, i_lt, i_le, i_eq, i_clamp, i_upd, i_m1, Int32.toInt_toInt64, Int32.toInt_add, Int32.toInt_sub, Int32.toInt_mul, bm32, Int32.reduceToInt, Int64.reduceToInt, Nat.reduceLT, Nat.reduceEqDiff, reduceIte] <;> omega)) (by first | omega | (simp (disch := omega) only [↓i_in, ↓i_isCouple, ↓i_isBridge, ↓i_isTheme, ↓i_isBarge, i_lt, i_le, i_eq, i_clamp, i_upd, i_m1, Int32.toInt_toInt64, Int32.toInt_add, Int32.toInt_sub, Int32.toInt_mul, bm32, Int32.reduceToInt, Int64.reduceToInt, Nat.reduceLT, Nat.reduceEqDiff, reduceIte] <;> omega)) (by first | omega | (simp (disch := omega) only [↓i_in, ↓i_isCouple, ↓i_isBridge, ↓i_isTheme, ↓i_isBarge, i_lt, i_le, i_eq, i_clamp, i_upd, i_m1, Int32.toInt_toInt64, Int32.toInt_add, Int32.toInt_sub, Int32.toInt_mul, bm32, Int32.reduceToInt, Int64.reduceToInt, Nat.reduceLT, Nat.reduceEqDiff, reduceIte] <;> omega))), ?_⟩
  refine ⟨fun c_1 => ?_, fun c_1 => ?_⟩
  · exact trivial
  · skip
    try simp (disch := omega) only [↓i_in, ↓i_isCouple, ↓i_isBridge, ↓i_isTheme, ↓i_isBarge, i_lt, i_le, i_eq, i_clamp, i_upd, i_m1, Int32.toInt_toInt64, Int32.toInt_add, Int32.toInt_sub, Int32.toInt_mul, bm32, Int32.reduceToInt, Int64.reduceToInt, Nat.reduceLT, Nat.reduceEqDiff, reduceIte] at c_1
    refine ⟨s_isDone, ?_⟩
    refine ⟨fun c_2 => ?_, fun c_2 => ?_⟩
    · exact trivial
    · exact trivial
set_option maxHeartbeats 4000000 in
theorem p_could {G : Nat → Int32} {f0 : Nat → Int32} {f10 : Nat → Int32} {f8 : Nat → Int32} {c_ : Int32} {b_ : Int32} {t_ : Int32} {w_ : Int32} : ∀ (r : Int32) (u : (Nat → Int32)), f_m_could G f0 f10 f8 c_ b_ t_ w_ = (r, u) → QG G u := by
  intro r u e
  unfold f_m_could at e
  by_cases c_1 : (f_m_isCouple G c_) = 0
  · rw [if_pos c_1] at e
    try simp (disch := omega) only [↓i_in, ↓i_isCouple, ↓i_isBridge, ↓i_isTheme, ↓i_isBarge, i_lt, i_le, i_eq, i_clamp, i_upd, i_m1, Int32.toInt_toInt64, Int32.toInt_add, Int32.toInt_sub, Int32.toInt_mul, bm32, Int32.reduceToInt, Int64.reduceToInt, Nat.reduceLT, Nat.reduceEqDiff, reduceIte] at c_1
    cases e
    exact (QG.refl _)
  · rw [if_neg c_1] at e
    try simp (disch := omega) only [↓i_in, ↓i_isCouple, ↓i_isBridge, ↓i_isTheme, ↓i_isBarge, i_lt, i_le, i_eq, i_clamp, i_upd, i_m1, Int32.toInt_toInt64, Int32.toInt_add, Int32.toInt_sub, Int32.toInt_mul, bm32, Int32.reduceToInt, Int64.reduceToInt, Nat.reduceLT, Nat.reduceEqDiff, reduceIte] at c_1
    by_cases c_2 : (f_m_isBridge G b_) = 0
    · rw [if_pos c_2] at e
      try simp (disch := omega) only [↓i_in, ↓i_isCouple, ↓i_isBridge, ↓i_isTheme, ↓i_isBarge, i_lt, i_le, i_eq, i_clamp, i_upd, i_m1, Int32.toInt_toInt64, Int32.toInt_add, Int32.toInt_sub, Int32.toInt_mul, bm32, Int32.reduceToInt, Int64.reduceToInt, Nat.reduceLT, Nat.reduceEqDiff, reduceIte] at c_2
      cases e
      exact (QG.refl _)
    · rw [if_neg c_2] at e
      try simp (disch := omega) only [↓i_in, ↓i_isCouple, ↓i_isBridge, ↓i_isTheme, ↓i_isBarge, i_lt, i_le, i_eq, i_clamp, i_upd, i_m1, Int32.toInt_toInt64, Int32.toInt_add, Int32.toInt_sub, Int32.toInt_mul, bm32, Int32.reduceToInt, Int64.reduceToInt, Nat.reduceLT, Nat.reduceEqDiff, reduceIte] at c_2
      by_cases c_3 : (f_m_isTheme G t_) = 0
      · rw [if_pos c_3] at e
        try simp (disch := omega) only [↓i_in, ↓i_isCouple, ↓i_isBridge, ↓i_isTheme, ↓i_isBarge, i_lt, i_le, i_eq, i_clamp, i_upd, i_m1, Int32.toInt_toInt64, Int32.toInt_add, Int32.toInt_sub, Int32.toInt_mul, bm32, Int32.reduceToInt, Int64.reduceToInt, Nat.reduceLT, Nat.reduceEqDiff, reduceIte] at c_3
        cases e
        exact (QG.refl _)
      · rw [if_neg c_3] at e
        try simp (disch := omega) only [↓i_in, ↓i_isCouple, ↓i_isBridge, ↓i_isTheme, ↓i_isBarge, i_lt, i_le, i_eq, i_clamp, i_upd, i_m1, Int32.toInt_toInt64, Int32.toInt_add, Int32.toInt_sub, Int32.toInt_mul, bm32, Int32.reduceToInt, Int64.reduceToInt, Nat.reduceLT, Nat.reduceEqDiff, reduceIte] at c_3
        by_cases c_4 : (f_m_in w_.toInt64 0 1) = 0
        · rw [if_pos c_4] at e
          try simp (disch := omega) only [↓i_in, ↓i_isCouple, ↓i_isBridge, ↓i_isTheme, ↓i_isBarge, i_lt, i_le, i_eq, i_clamp, i_upd, i_m1, Int32.toInt_toInt64, Int32.toInt_add, Int32.toInt_sub, Int32.toInt_mul, bm32, Int32.reduceToInt, Int64.reduceToInt, Nat.reduceLT, Nat.reduceEqDiff, reduceIte] at c_4
          cases e
          exact (QG.refl _)
        · rw [if_neg c_4] at e
          try simp (disch := omega) only [↓i_in, ↓i_isCouple, ↓i_isBridge, ↓i_isTheme, ↓i_isBarge, i_lt, i_le, i_eq, i_clamp, i_upd, i_m1, Int32.toInt_toInt64, Int32.toInt_add, Int32.toInt_sub, Int32.toInt_mul, bm32, Int32.reduceToInt, Int64.reduceToInt, Nat.reduceLT, Nat.reduceEqDiff, reduceIte] at c_4
          generalize x_5 : (f_m_opens G f0 f10 f8 c_ b_ t_) = z_6 at e
          obtain ⟨r_19, u_18⟩ := z_6
          replace e : ((if r_19 = 0 then ((-1), u_18) else (if w_ = 0 then ((u_18 32), u_18) else (((f0 ((0 + c_) : Int32).toNatClampNeg) - (u_18 33)), u_18)))) = (r, u) := e
          have p_7 := p_opens _ _ x_5
          have i_8 := p_7
          obtain ⟨u_18_2, u_18_3, u_18_4, u_18_5, u_18_6, u_18_14, u_18_42⟩ := QGs i_8
          by_cases c_9 : r_19 = 0
          · rw [if_pos c_9] at e
            try simp (disch := omega) only [↓i_in, ↓i_isCouple, ↓i_isBridge, ↓i_isTheme, ↓i_isBarge, i_lt, i_le, i_eq, i_clamp, i_upd, i_m1, Int32.toInt_toInt64, Int32.toInt_add, Int32.toInt_sub, Int32.toInt_mul, bm32, Int32.reduceToInt, Int64.reduceToInt, Nat.reduceLT, Nat.reduceEqDiff, reduceIte, u_18_2, u_18_3, u_18_4, u_18_5, u_18_6, u_18_14, u_18_42] at c_9
            cases e
            exact i_8
          · rw [if_neg c_9] at e
            try simp (disch := omega) only [↓i_in, ↓i_isCouple, ↓i_isBridge, ↓i_isTheme, ↓i_isBarge, i_lt, i_le, i_eq, i_clamp, i_upd, i_m1, Int32.toInt_toInt64, Int32.toInt_add, Int32.toInt_sub, Int32.toInt_mul, bm32, Int32.reduceToInt, Int64.reduceToInt, Nat.reduceLT, Nat.reduceEqDiff, reduceIte, u_18_2, u_18_3, u_18_4, u_18_5, u_18_6, u_18_14, u_18_42] at c_9
            by_cases c_10 : w_ = 0
            · rw [if_pos c_10] at e
              try simp (disch := omega) only [↓i_in, ↓i_isCouple, ↓i_isBridge, ↓i_isTheme, ↓i_isBarge, i_lt, i_le, i_eq, i_clamp, i_upd, i_m1, Int32.toInt_toInt64, Int32.toInt_add, Int32.toInt_sub, Int32.toInt_mul, bm32, Int32.reduceToInt, Int64.reduceToInt, Nat.reduceLT, Nat.reduceEqDiff, reduceIte, u_18_2, u_18_3, u_18_4, u_18_5, u_18_6, u_18_14, u_18_42] at c_10
              cases e
              exact i_8
            · rw [if_neg c_10] at e
              try simp (disch := omega) only [↓i_in, ↓i_isCouple, ↓i_isBridge, ↓i_isTheme, ↓i_isBarge, i_lt, i_le, i_eq, i_clamp, i_upd, i_m1, Int32.toInt_toInt64, Int32.toInt_add, Int32.toInt_sub, Int32.toInt_mul, bm32, Int32.reduceToInt, Int64.reduceToInt, Nat.reduceLT, Nat.reduceEqDiff, reduceIte, u_18_2, u_18_3, u_18_4, u_18_5, u_18_6, u_18_14, u_18_42] at c_10
              cases e
              exact i_8
set_option maxHeartbeats 4000000 in
theorem s_could {G : Nat → Int32} {f0 : Nat → Int32} {f10 : Nat → Int32} {f8 : Nat → Int32} {c_ : Int32} {b_ : Int32} {t_ : Int32} {w_ : Int32} (h_0 : GI G) : S_m_could G f0 f10 f8 c_ b_ t_ w_ := by
  unfold S_m_could
  have h_0_g := h_0
  obtain ⟨⟨h_0_2a, h_0_2b⟩, ⟨h_0_3a, h_0_3b⟩, ⟨h_0_4a, h_0_4b⟩, ⟨h_0_5a, h_0_5b⟩, ⟨h_0_6a, h_0_6b⟩, ⟨h_0_14a, h_0_14b⟩, ⟨h_0_42a, h_0_42b⟩⟩ := h_0_g
  refine ⟨s_isCouple, ?_⟩
  refine ⟨fun c_1 => ?_, fun c_1 => ?_⟩
  · exact trivial
  · skip
    try simp (disch := omega) only [↓i_in, ↓i_isCouple, ↓i_isBridge, ↓i_isTheme, ↓i_isBarge, i_lt, i_le, i_eq, i_clamp, i_upd, i_m1, Int32.toInt_toInt64, Int32.toInt_add, Int32.toInt_sub, Int32.toInt_mul, bm32, Int32.reduceToInt, Int64.reduceToInt, Nat.reduceLT, Nat.reduceEqDiff, reduceIte] at c_1
    refine ⟨s_isBridge, ?_⟩
    refine ⟨fun c_2 => ?_, fun c_2 => ?_⟩
    · exact trivial
    · skip
      try simp (disch := omega) only [↓i_in, ↓i_isCouple, ↓i_isBridge, ↓i_isTheme, ↓i_isBarge, i_lt, i_le, i_eq, i_clamp, i_upd, i_m1, Int32.toInt_toInt64, Int32.toInt_add, Int32.toInt_sub, Int32.toInt_mul, bm32, Int32.reduceToInt, Int64.reduceToInt, Nat.reduceLT, Nat.reduceEqDiff, reduceIte] at c_2
      refine ⟨s_isTheme, ?_⟩
      refine ⟨fun c_3 => ?_, fun c_3 => ?_⟩
      · exact trivial
      · skip
        try simp (disch := omega) only [↓i_in, ↓i_isCouple, ↓i_isBridge, ↓i_isTheme, ↓i_isBarge, i_lt, i_le, i_eq, i_clamp, i_upd, i_m1, Int32.toInt_toInt64, Int32.toInt_add, Int32.toInt_sub, Int32.toInt_mul, bm32, Int32.reduceToInt, Int64.reduceToInt, Nat.reduceLT, Nat.reduceEqDiff, reduceIte] at c_3
        refine ⟨s_in, ?_⟩
        refine ⟨fun c_4 => ?_, fun c_4 => ?_⟩
        · exact trivial
        · skip
          try simp (disch := omega) only [↓i_in, ↓i_isCouple, ↓i_isBridge, ↓i_isTheme, ↓i_isBarge, i_lt, i_le, i_eq, i_clamp, i_upd, i_m1, Int32.toInt_toInt64, Int32.toInt_add, Int32.toInt_sub, Int32.toInt_mul, bm32, Int32.reduceToInt, Int64.reduceToInt, Nat.reduceLT, Nat.reduceEqDiff, reduceIte] at c_4
          refine ⟨(s_opens (by first | omega | (simp (disch := omega) only [↓i_in, ↓i_isCouple, ↓i_isBridge, ↓i_isTheme, ↓i_isBarge, i_lt, i_le, i_eq, i_clamp, i_upd, i_m1, Int32.toInt_toInt64, Int32.toInt_add, Int32.toInt_sub, Int32.toInt_mul, bm32, Int32.reduceToInt, Int64.reduceToInt, Nat.reduceLT, Nat.reduceEqDiff, reduceIte] <;> omega)) (by first | omega | (simp (disch := omega) only [↓i_in, ↓i_isCouple, ↓i_isBridge, ↓i_isTheme, ↓i_isBarge, i_lt, i_le, i_eq, i_clamp, i_upd, i_m1, Int32.toInt_toInt64, Int32.toInt_add, Int32.toInt_sub, Int32.toInt_mul, bm32, Int32.reduceToInt, Int64.reduceToInt, Nat.reduceLT, Nat.reduceEqDiff, reduceIte] <;> omega)) (by first | omega | (simp (disch := omega) only [↓i_in, ↓i_isCouple, ↓i_isBridge, ↓i_isTheme, ↓i_isBarge, i_lt, i_le, i_eq, i_clamp, i_upd, i_m1, Int32.toInt_toInt64, Int32.toInt_add, Int32.toInt_sub, Int32.toInt_mul, bm32, Int32.reduceToInt, Int64.reduceToInt, Nat.reduceLT, Nat.reduceEqDiff, reduceIte] <;> omega)) (by first | omega | (simp (disch := omega) only [↓i_in, ↓i_isCouple, ↓i_isBridge, ↓i_isTheme, ↓i_isBarge, i_lt, i_le, i_eq, i_clamp, i_upd, i_m1, Int32.toInt_toInt64, Int32.toInt_add, Int32.toInt_sub, Int32.toInt_mul, bm32, Int32.reduceToInt, Int64.reduceToInt, Nat.reduceLT, Nat.reduceEqDiff, reduceIte] <;> omega)) (by first | omega | (simp (disch := omega) only [↓i_in, ↓i_isCouple, ↓i_isBridge, ↓i_isTheme, ↓i_isBarge, i_lt, i_le, i_eq, i_clamp, i_upd, i_m1, Int32.toInt_toInt64, Int32.toInt_add, Int32.toInt_sub, Int32.toInt_mul, bm32, Int32.reduceToInt, Int64.reduceToInt, Nat.reduceLT, Nat.reduceEqDiff, reduceIte] <;> omega)) (by first | omega | (simp (disch := omega) only [↓i_in, ↓i_isCouple, ↓i_isBridge, ↓i_isTheme, ↓i_isBarge, i_lt, i_le, i_eq, i_clamp, i_upd, i_m1, Int32.toInt_toInt64, Int32.toInt_add, Int32.toInt_sub, Int32.toInt_mul, bm32, Int32.reduceToInt, Int64.reduceToInt, Nat.reduceLT, Nat.reduceEqDiff, reduceIte] <;> omega))), ?_⟩
          intro r_19 u_18 e_5
          have p_6 := p_opens _ _ e_5.symm
          have i_7 := p_6
          obtain ⟨u_18_2, u_18_3, u_18_4, u_18_5, u_18_6, u_18_14, u_18_42⟩ := QGs i_7
          refine ⟨fun c_8 => ?_, fun c_8 => ?_⟩
          · exact trivial
          · skip
            try simp (disch := omega) only [↓i_in, ↓i_isCouple, ↓i_isBridge, ↓i_isTheme, ↓i_isBarge, i_lt, i_le, i_eq, i_clamp, i_upd, i_m1, Int32.toInt_toInt64, Int32.toInt_add, Int32.toInt_sub, Int32.toInt_mul, bm32, Int32.reduceToInt, Int64.reduceToInt, Nat.reduceLT, Nat.reduceEqDiff, reduceIte, u_18_2, u_18_3, u_18_4, u_18_5, u_18_6, u_18_14, u_18_42] at c_8
            refine ⟨fun c_9 => ?_, fun c_9 => ?_⟩
            · exact trivial
            · skip
              try simp (disch := omega) only [↓i_in, ↓i_isCouple, ↓i_isBridge, ↓i_isTheme, ↓i_isBarge, i_lt, i_le, i_eq, i_clamp, i_upd, i_m1, Int32.toInt_toInt64, Int32.toInt_add, Int32.toInt_sub, Int32.toInt_mul, bm32, Int32.reduceToInt, Int64.reduceToInt, Nat.reduceLT, Nat.reduceEqDiff, reduceIte, u_18_2, u_18_3, u_18_4, u_18_5, u_18_6, u_18_14, u_18_42] at c_9
              refine ⟨vp_in_iff.mpr (by first | omega | (simp (disch := omega) only [↓i_in, ↓i_isCouple, ↓i_isBridge, ↓i_isTheme, ↓i_isBarge, i_lt, i_le, i_eq, i_clamp, i_upd, i_m1, Int32.toInt_toInt64, Int32.toInt_add, Int32.toInt_sub, Int32.toInt_mul, bm32, Int32.reduceToInt, Int64.reduceToInt, Nat.reduceLT, Nat.reduceEqDiff, reduceIte, u_18_2, u_18_3, u_18_4, u_18_5, u_18_6, u_18_14, u_18_42] <;> omega)), ?_⟩
              exact trivial
set_option maxHeartbeats 4000000 in
theorem p_lastsOf {G : Nat → Int32} {f0 : Nat → Int32} {f10 : Nat → Int32} {c_ : Int32} {t_ : Int32} : ∀ (r : Int32) (u : (Nat → Int32)), f_m_lastsOf G f0 f10 c_ t_ = (r, u) → QG G u := by
  intro r u e
  unfold f_m_lastsOf at e
  by_cases c_1 : ((f_m_quarrels G f10 c_ t_ (f0 ((0 + c_) : Int32).toNatClampNeg) 1000000000) 33) = 0
  · rw [if_pos c_1] at e
    try simp (disch := omega) only [↓i_in, ↓i_isCouple, ↓i_isBridge, ↓i_isTheme, ↓i_isBarge, i_lt, i_le, i_eq, i_clamp, i_upd, i_m1, Int32.toInt_toInt64, Int32.toInt_add, Int32.toInt_sub, Int32.toInt_mul, bm32, Int32.reduceToInt, Int64.reduceToInt, Nat.reduceLT, Nat.reduceEqDiff, reduceIte] at c_1
    by_cases c_2 : ((f_m_quarrels G f10 c_ t_ (f0 ((0 + c_) : Int32).toNatClampNeg) 1000000000) 32) ≤ 0
    · rw [if_pos c_2] at e
      try simp (disch := omega) only [↓i_in, ↓i_isCouple, ↓i_isBridge, ↓i_isTheme, ↓i_isBarge, i_lt, i_le, i_eq, i_clamp, i_upd, i_m1, Int32.toInt_toInt64, Int32.toInt_add, Int32.toInt_sub, Int32.toInt_mul, bm32, Int32.reduceToInt, Int64.reduceToInt, Nat.reduceLT, Nat.reduceEqDiff, reduceIte] at c_2
      cases e
      exact (QG.trans (QG.refl _) p_quarrels)
    · rw [if_neg c_2] at e
      try simp (disch := omega) only [↓i_in, ↓i_isCouple, ↓i_isBridge, ↓i_isTheme, ↓i_isBarge, i_lt, i_le, i_eq, i_clamp, i_upd, i_m1, Int32.toInt_toInt64, Int32.toInt_add, Int32.toInt_sub, Int32.toInt_mul, bm32, Int32.reduceToInt, Int64.reduceToInt, Nat.reduceLT, Nat.reduceEqDiff, reduceIte] at c_2
      cases e
      exact (QG.trans (QG.refl _) p_quarrels)
  · rw [if_neg c_1] at e
    try simp (disch := omega) only [↓i_in, ↓i_isCouple, ↓i_isBridge, ↓i_isTheme, ↓i_isBarge, i_lt, i_le, i_eq, i_clamp, i_upd, i_m1, Int32.toInt_toInt64, Int32.toInt_add, Int32.toInt_sub, Int32.toInt_mul, bm32, Int32.reduceToInt, Int64.reduceToInt, Nat.reduceLT, Nat.reduceEqDiff, reduceIte] at c_1
    cases e
    exact (QG.trans (QG.refl _) p_quarrels)
set_option maxHeartbeats 4000000 in
theorem s_lastsOf {G : Nat → Int32} {f0 : Nat → Int32} {f10 : Nat → Int32} {c_ : Int32} {t_ : Int32} (h_0 : 0 ≤ c_.toInt) (h_1 : c_.toInt < 6) (h_2 : 0 ≤ t_.toInt) (h_3 : t_.toInt < 5) : S_m_lastsOf G f0 f10 c_ t_ := by
  unfold S_m_lastsOf
  refine ⟨vp_in_iff.mpr (by first | omega | (simp (disch := omega) only [↓i_in, ↓i_isCouple, ↓i_isBridge, ↓i_isTheme, ↓i_isBarge, i_lt, i_le, i_eq, i_clamp, i_upd, i_m1, Int32.toInt_toInt64, Int32.toInt_add, Int32.toInt_sub, Int32.toInt_mul, bm32, Int32.reduceToInt, Int64.reduceToInt, Nat.reduceLT, Nat.reduceEqDiff, reduceIte] <;> omega)), ?_⟩
  refine ⟨(s_quarrels (by first | omega | (simp (disch := omega) only [↓i_in, ↓i_isCouple, ↓i_isBridge, ↓i_isTheme, ↓i_isBarge, i_lt, i_le, i_eq, i_clamp, i_upd, i_m1, Int32.toInt_toInt64, Int32.toInt_add, Int32.toInt_sub, Int32.toInt_mul, bm32, Int32.reduceToInt, Int64.reduceToInt, Nat.reduceLT, Nat.reduceEqDiff, reduceIte] <;> omega)) (by first | omega | (simp (disch := omega) only [↓i_in, ↓i_isCouple, ↓i_isBridge, ↓i_isTheme, ↓i_isBarge, i_lt, i_le, i_eq, i_clamp, i_upd, i_m1, Int32.toInt_toInt64, Int32.toInt_add, Int32.toInt_sub, Int32.toInt_mul, bm32, Int32.reduceToInt, Int64.reduceToInt, Nat.reduceLT, Nat.reduceEqDiff, reduceIte] <;> omega)) (by first | omega | (simp (disch := omega) only [↓i_in, ↓i_isCouple, ↓i_isBridge, ↓i_isTheme, ↓i_isBarge, i_lt, i_le, i_eq, i_clamp, i_upd, i_m1, Int32.toInt_toInt64, Int32.toInt_add, Int32.toInt_sub, Int32.toInt_mul, bm32, Int32.reduceToInt, Int64.reduceToInt, Nat.reduceLT, Nat.reduceEqDiff, reduceIte] <;> omega)) (by first | omega | (simp (disch := omega) only [↓i_in, ↓i_isCouple, ↓i_isBridge, ↓i_isTheme, ↓i_isBarge, i_lt, i_le, i_eq, i_clamp, i_upd, i_m1, Int32.toInt_toInt64, Int32.toInt_add, Int32.toInt_sub, Int32.toInt_mul, bm32, Int32.reduceToInt, Int64.reduceToInt, Nat.reduceLT, Nat.reduceEqDiff, reduceIte] <;> omega))), ?_⟩
  refine ⟨fun c_1 => ?_, fun c_1 => ?_⟩
  · skip
    try simp (disch := omega) only [↓i_in, ↓i_isCouple, ↓i_isBridge, ↓i_isTheme, ↓i_isBarge, i_lt, i_le, i_eq, i_clamp, i_upd, i_m1, Int32.toInt_toInt64, Int32.toInt_add, Int32.toInt_sub, Int32.toInt_mul, bm32, Int32.reduceToInt, Int64.reduceToInt, Nat.reduceLT, Nat.reduceEqDiff, reduceIte] at c_1
    refine ⟨fun c_2 => ?_, fun c_2 => ?_⟩
    · exact trivial
    · exact trivial
  · exact trivial
set_option maxHeartbeats 4000000 in
theorem p_lasts {G : Nat → Int32} {f0 : Nat → Int32} {f10 : Nat → Int32} {c_ : Int32} {t_ : Int32} : ∀ (r : Int32) (u : (Nat → Int32)), f_m_lasts G f0 f10 c_ t_ = (r, u) → QG G u := by
  intro r u e
  unfold f_m_lasts at e
  by_cases c_1 : (f_m_isCouple G c_) = 0
  · rw [if_pos c_1] at e
    try simp (disch := omega) only [↓i_in, ↓i_isCouple, ↓i_isBridge, ↓i_isTheme, ↓i_isBarge, i_lt, i_le, i_eq, i_clamp, i_upd, i_m1, Int32.toInt_toInt64, Int32.toInt_add, Int32.toInt_sub, Int32.toInt_mul, bm32, Int32.reduceToInt, Int64.reduceToInt, Nat.reduceLT, Nat.reduceEqDiff, reduceIte] at c_1
    cases e
    exact (QG.refl _)
  · rw [if_neg c_1] at e
    try simp (disch := omega) only [↓i_in, ↓i_isCouple, ↓i_isBridge, ↓i_isTheme, ↓i_isBarge, i_lt, i_le, i_eq, i_clamp, i_upd, i_m1, Int32.toInt_toInt64, Int32.toInt_add, Int32.toInt_sub, Int32.toInt_mul, bm32, Int32.reduceToInt, Int64.reduceToInt, Nat.reduceLT, Nat.reduceEqDiff, reduceIte] at c_1
    by_cases c_2 : (f_m_isTheme G t_) = 0
    · rw [if_pos c_2] at e
      try simp (disch := omega) only [↓i_in, ↓i_isCouple, ↓i_isBridge, ↓i_isTheme, ↓i_isBarge, i_lt, i_le, i_eq, i_clamp, i_upd, i_m1, Int32.toInt_toInt64, Int32.toInt_add, Int32.toInt_sub, Int32.toInt_mul, bm32, Int32.reduceToInt, Int64.reduceToInt, Nat.reduceLT, Nat.reduceEqDiff, reduceIte] at c_2
      cases e
      exact (QG.refl _)
    · rw [if_neg c_2] at e
      try simp (disch := omega) only [↓i_in, ↓i_isCouple, ↓i_isBridge, ↓i_isTheme, ↓i_isBarge, i_lt, i_le, i_eq, i_clamp, i_upd, i_m1, Int32.toInt_toInt64, Int32.toInt_add, Int32.toInt_sub, Int32.toInt_mul, bm32, Int32.reduceToInt, Int64.reduceToInt, Nat.reduceLT, Nat.reduceEqDiff, reduceIte] at c_2
      by_cases c_3 : (f_m_isDone f0 c_) = 0
      · rw [if_pos c_3] at e
        try simp (disch := omega) only [↓i_in, ↓i_isCouple, ↓i_isBridge, ↓i_isTheme, ↓i_isBarge, i_lt, i_le, i_eq, i_clamp, i_upd, i_m1, Int32.toInt_toInt64, Int32.toInt_add, Int32.toInt_sub, Int32.toInt_mul, bm32, Int32.reduceToInt, Int64.reduceToInt, Nat.reduceLT, Nat.reduceEqDiff, reduceIte] at c_3
        generalize x_4 : (f_m_lastsOf G f0 f10 c_ t_) = z_5 at e
        obtain ⟨r_15, u_14⟩ := z_5
        replace e : ((r_15, u_14)) = (r, u) := e
        have p_6 := p_lastsOf _ _ x_4
        have i_7 := p_6
        obtain ⟨u_14_2, u_14_3, u_14_4, u_14_5, u_14_6, u_14_14, u_14_42⟩ := QGs i_7
        cases e
        exact i_7
      · rw [if_neg c_3] at e
        try simp (disch := omega) only [↓i_in, ↓i_isCouple, ↓i_isBridge, ↓i_isTheme, ↓i_isBarge, i_lt, i_le, i_eq, i_clamp, i_upd, i_m1, Int32.toInt_toInt64, Int32.toInt_add, Int32.toInt_sub, Int32.toInt_mul, bm32, Int32.reduceToInt, Int64.reduceToInt, Nat.reduceLT, Nat.reduceEqDiff, reduceIte] at c_3
        cases e
        exact (QG.refl _)
set_option maxHeartbeats 4000000 in
theorem s_lasts {G : Nat → Int32} {f0 : Nat → Int32} {f10 : Nat → Int32} {c_ : Int32} {t_ : Int32} (h_0 : GI G) : S_m_lasts G f0 f10 c_ t_ := by
  unfold S_m_lasts
  have h_0_g := h_0
  obtain ⟨⟨h_0_2a, h_0_2b⟩, ⟨h_0_3a, h_0_3b⟩, ⟨h_0_4a, h_0_4b⟩, ⟨h_0_5a, h_0_5b⟩, ⟨h_0_6a, h_0_6b⟩, ⟨h_0_14a, h_0_14b⟩, ⟨h_0_42a, h_0_42b⟩⟩ := h_0_g
  refine ⟨s_isCouple, ?_⟩
  refine ⟨fun c_1 => ?_, fun c_1 => ?_⟩
  · exact trivial
  · skip
    try simp (disch := omega) only [↓i_in, ↓i_isCouple, ↓i_isBridge, ↓i_isTheme, ↓i_isBarge, i_lt, i_le, i_eq, i_clamp, i_upd, i_m1, Int32.toInt_toInt64, Int32.toInt_add, Int32.toInt_sub, Int32.toInt_mul, bm32, Int32.reduceToInt, Int64.reduceToInt, Nat.reduceLT, Nat.reduceEqDiff, reduceIte] at c_1
    refine ⟨s_isTheme, ?_⟩
    refine ⟨fun c_2 => ?_, fun c_2 => ?_⟩
    · exact trivial
    · skip
      try simp (disch := omega) only [↓i_in, ↓i_isCouple, ↓i_isBridge, ↓i_isTheme, ↓i_isBarge, i_lt, i_le, i_eq, i_clamp, i_upd, i_m1, Int32.toInt_toInt64, Int32.toInt_add, Int32.toInt_sub, Int32.toInt_mul, bm32, Int32.reduceToInt, Int64.reduceToInt, Nat.reduceLT, Nat.reduceEqDiff, reduceIte] at c_2
      refine ⟨s_isDone, ?_⟩
      refine ⟨fun c_3 => ?_, fun c_3 => ?_⟩
      · skip
        try simp (disch := omega) only [↓i_in, ↓i_isCouple, ↓i_isBridge, ↓i_isTheme, ↓i_isBarge, i_lt, i_le, i_eq, i_clamp, i_upd, i_m1, Int32.toInt_toInt64, Int32.toInt_add, Int32.toInt_sub, Int32.toInt_mul, bm32, Int32.reduceToInt, Int64.reduceToInt, Nat.reduceLT, Nat.reduceEqDiff, reduceIte] at c_3
        refine ⟨(s_lastsOf (by first | omega | (simp (disch := omega) only [↓i_in, ↓i_isCouple, ↓i_isBridge, ↓i_isTheme, ↓i_isBarge, i_lt, i_le, i_eq, i_clamp, i_upd, i_m1, Int32.toInt_toInt64, Int32.toInt_add, Int32.toInt_sub, Int32.toInt_mul, bm32, Int32.reduceToInt, Int64.reduceToInt, Nat.reduceLT, Nat.reduceEqDiff, reduceIte] <;> omega)) (by first | omega | (simp (disch := omega) only [↓i_in, ↓i_isCouple, ↓i_isBridge, ↓i_isTheme, ↓i_isBarge, i_lt, i_le, i_eq, i_clamp, i_upd, i_m1, Int32.toInt_toInt64, Int32.toInt_add, Int32.toInt_sub, Int32.toInt_mul, bm32, Int32.reduceToInt, Int64.reduceToInt, Nat.reduceLT, Nat.reduceEqDiff, reduceIte] <;> omega)) (by first | omega | (simp (disch := omega) only [↓i_in, ↓i_isCouple, ↓i_isBridge, ↓i_isTheme, ↓i_isBarge, i_lt, i_le, i_eq, i_clamp, i_upd, i_m1, Int32.toInt_toInt64, Int32.toInt_add, Int32.toInt_sub, Int32.toInt_mul, bm32, Int32.reduceToInt, Int64.reduceToInt, Nat.reduceLT, Nat.reduceEqDiff, reduceIte] <;> omega)) (by first | omega | (simp (disch := omega) only [↓i_in, ↓i_isCouple, ↓i_isBridge, ↓i_isTheme, ↓i_isBarge, i_lt, i_le, i_eq, i_clamp, i_upd, i_m1, Int32.toInt_toInt64, Int32.toInt_add, Int32.toInt_sub, Int32.toInt_mul, bm32, Int32.reduceToInt, Int64.reduceToInt, Nat.reduceLT, Nat.reduceEqDiff, reduceIte] <;> omega))), ?_⟩
        intro r_15 u_14 e_4
        have p_5 := p_lastsOf _ _ e_4.symm
        have i_6 := p_5
        obtain ⟨u_14_2, u_14_3, u_14_4, u_14_5, u_14_6, u_14_14, u_14_42⟩ := QGs i_6
        exact trivial
      · exact trivial
end
section
set_option maxHeartbeats 4000000 in
theorem sl_best_17 {G : Nat → Int32} {f0 : Nat → Int32} {f10 : Nat → Int32} {f8 : Nat → Int32} {c_ : Int32} {b_ : Int32} {K : Int32 → Int32 → Int32 → (Nat → Int32) → Prop} (h_0 : GI G) (h_1 : 0 ≤ c_.toInt) (h_2 : c_.toInt < 6) (h_3 : 0 ≤ b_.toInt) (h_4 : b_.toInt < 6) (hK : ∀ w_1l5 w_1l4 w_1l3 w_1m0, (QG G w_1m0 ∧ (0 ≤ w_1l5.toInt) ∧ (w_1l5.toInt ≤ 5)) → K w_1l5 w_1l4 w_1l3 w_1m0) : ∀ (n : Nat) w_1l5 w_1l4 w_1l3 w_1m0, (QG G w_1m0 ∧ (0 ≤ w_1l5.toInt) ∧ (w_1l5.toInt ≤ 5)) → (6 - w_1l5.toInt).toNat < n → S_m_best_17 f0 f10 f8 c_ b_ K n w_1l5 w_1l4 w_1l3 w_1m0 := by
  have h_0_g := h_0
  obtain ⟨⟨h_0_2a, h_0_2b⟩, ⟨h_0_3a, h_0_3b⟩, ⟨h_0_4a, h_0_4b⟩, ⟨h_0_5a, h_0_5b⟩, ⟨h_0_6a, h_0_6b⟩, ⟨h_0_14a, h_0_14b⟩, ⟨h_0_42a, h_0_42b⟩⟩ := h_0_g
  intro n
  induction n with
  | zero => intro w_1l5 w_1l4 w_1l3 w_1m0 hI hm; exact absurd hm (Nat.not_lt_zero _)
  | succ n ih =>
    intro w_1l5 w_1l4 w_1l3 w_1m0 hI hm
    rw [S_m_best_17_s]
    have hI0 := hI
    obtain ⟨i_1, i_2, i_3⟩ := hI0
    obtain ⟨w_1m0_2, w_1m0_3, w_1m0_4, w_1m0_5, w_1m0_6, w_1m0_14, w_1m0_42⟩ := QGs i_1
    refine ⟨fun c_4 => ?_, fun c_4 => ?_⟩
    · skip
      try simp (disch := omega) only [↓i_in, ↓i_isCouple, ↓i_isBridge, ↓i_isTheme, ↓i_isBarge, i_lt, i_le, i_eq, i_clamp, i_upd, i_m1, Int32.toInt_toInt64, Int32.toInt_add, Int32.toInt_sub, Int32.toInt_mul, bm32, Int32.reduceToInt, Int64.reduceToInt, Nat.reduceLT, Nat.reduceEqDiff, reduceIte, w_1m0_2, w_1m0_3, w_1m0_4, w_1m0_5, w_1m0_6, w_1m0_14, w_1m0_42] at c_4
      exact hK w_1l5 w_1l4 w_1l3 w_1m0 hI
    · skip
      try simp (disch := omega) only [↓i_in, ↓i_isCouple, ↓i_isBridge, ↓i_isTheme, ↓i_isBarge, i_lt, i_le, i_eq, i_clamp, i_upd, i_m1, Int32.toInt_toInt64, Int32.toInt_add, Int32.toInt_sub, Int32.toInt_mul, bm32, Int32.reduceToInt, Int64.reduceToInt, Nat.reduceLT, Nat.reduceEqDiff, reduceIte, w_1m0_2, w_1m0_3, w_1m0_4, w_1m0_5, w_1m0_6, w_1m0_14, w_1m0_42] at c_4
      refine ⟨(s_opens (by first | omega | (simp (disch := omega) only [↓i_in, ↓i_isCouple, ↓i_isBridge, ↓i_isTheme, ↓i_isBarge, i_lt, i_le, i_eq, i_clamp, i_upd, i_m1, Int32.toInt_toInt64, Int32.toInt_add, Int32.toInt_sub, Int32.toInt_mul, bm32, Int32.reduceToInt, Int64.reduceToInt, Nat.reduceLT, Nat.reduceEqDiff, reduceIte, w_1m0_2, w_1m0_3, w_1m0_4, w_1m0_5, w_1m0_6, w_1m0_14, w_1m0_42] <;> omega)) (by first | omega | (simp (disch := omega) only [↓i_in, ↓i_isCouple, ↓i_isBridge, ↓i_isTheme, ↓i_isBarge, i_lt, i_le, i_eq, i_clamp, i_upd, i_m1, Int32.toInt_toInt64, Int32.toInt_add, Int32.toInt_sub, Int32.toInt_mul, bm32, Int32.reduceToInt, Int64.reduceToInt, Nat.reduceLT, Nat.reduceEqDiff, reduceIte, w_1m0_2, w_1m0_3, w_1m0_4, w_1m0_5, w_1m0_6, w_1m0_14, w_1m0_42] <;> omega)) (by first | omega | (simp (disch := omega) only [↓i_in, ↓i_isCouple, ↓i_isBridge, ↓i_isTheme, ↓i_isBarge, i_lt, i_le, i_eq, i_clamp, i_upd, i_m1, Int32.toInt_toInt64, Int32.toInt_add, Int32.toInt_sub, Int32.toInt_mul, bm32, Int32.reduceToInt, Int64.reduceToInt, Nat.reduceLT, Nat.reduceEqDiff, reduceIte, w_1m0_2, w_1m0_3, w_1m0_4, w_1m0_5, w_1m0_6, w_1m0_14, w_1m0_42] <;> omega)) (by first | omega | (simp (disch := omega) only [↓i_in, ↓i_isCouple, ↓i_isBridge, ↓i_isTheme, ↓i_isBarge, i_lt, i_le, i_eq, i_clamp, i_upd, i_m1, Int32.toInt_toInt64, Int32.toInt_add, Int32.toInt_sub, Int32.toInt_mul, bm32, Int32.reduceToInt, Int64.reduceToInt, Nat.reduceLT, Nat.reduceEqDiff, reduceIte, w_1m0_2, w_1m0_3, w_1m0_4, w_1m0_5, w_1m0_6, w_1m0_14, w_1m0_42] <;> omega)) (by first | omega | (simp (disch := omega) only [↓i_in, ↓i_isCouple, ↓i_isBridge, ↓i_isTheme, ↓i_isBarge, i_lt, i_le, i_eq, i_clamp, i_upd, i_m1, Int32.toInt_toInt64, Int32.toInt_add, Int32.toInt_sub, Int32.toInt_mul, bm32, Int32.reduceToInt, Int64.reduceToInt, Nat.reduceLT, Nat.reduceEqDiff, reduceIte, w_1m0_2, w_1m0_3, w_1m0_4, w_1m0_5, w_1m0_6, w_1m0_14, w_1m0_42] <;> omega)) (by first | omega | (simp (disch := omega) only [↓i_in, ↓i_isCouple, ↓i_isBridge, ↓i_isTheme, ↓i_isBarge, i_lt, i_le, i_eq, i_clamp, i_upd, i_m1, Int32.toInt_toInt64, Int32.toInt_add, Int32.toInt_sub, Int32.toInt_mul, bm32, Int32.reduceToInt, Int64.reduceToInt, Nat.reduceLT, Nat.reduceEqDiff, reduceIte, w_1m0_2, w_1m0_3, w_1m0_4, w_1m0_5, w_1m0_6, w_1m0_14, w_1m0_42] <;> omega))), ?_⟩
      intro r_5 u_4 e_5
      have p_6 := p_opens _ _ e_5.symm
      have i_7 := p_6
      replace i_7 := QG.trans i_1 i_7
      obtain ⟨u_4_2, u_4_3, u_4_4, u_4_5, u_4_6, u_4_14, u_4_42⟩ := QGs i_7
      refine ⟨fun c_8 => ?_, fun c_8 => ?_⟩
      · skip
        try simp (disch := omega) only [↓i_in, ↓i_isCouple, ↓i_isBridge, ↓i_isTheme, ↓i_isBarge, i_lt, i_le, i_eq, i_clamp, i_upd, i_m1, Int32.toInt_toInt64, Int32.toInt_add, Int32.toInt_sub, Int32.toInt_mul, bm32, Int32.reduceToInt, Int64.reduceToInt, Nat.reduceLT, Nat.reduceEqDiff, reduceIte, w_1m0_2, w_1m0_3, w_1m0_4, w_1m0_5, w_1m0_6, w_1m0_14, w_1m0_42, u_4_2, u_4_3, u_4_4, u_4_5, u_4_6, u_4_14, u_4_42] at c_8
        exact ih (w_1l5 + 1) w_1l4 w_1l3 u_4 (⟨i_7, (by first | omega | (simp (disch := omega) only [↓i_in, ↓i_isCouple, ↓i_isBridge, ↓i_isTheme, ↓i_isBarge, i_lt, i_le, i_eq, i_clamp, i_upd, i_m1, Int32.toInt_toInt64, Int32.toInt_add, Int32.toInt_sub, Int32.toInt_mul, bm32, Int32.reduceToInt, Int64.reduceToInt, Nat.reduceLT, Nat.reduceEqDiff, reduceIte, w_1m0_2, w_1m0_3, w_1m0_4, w_1m0_5, w_1m0_6, w_1m0_14, w_1m0_42, u_4_2, u_4_3, u_4_4, u_4_5, u_4_6, u_4_14, u_4_42] <;> omega)), (by first | omega | (simp (disch := omega) only [↓i_in, ↓i_isCouple, ↓i_isBridge, ↓i_isTheme, ↓i_isBarge, i_lt, i_le, i_eq, i_clamp, i_upd, i_m1, Int32.toInt_toInt64, Int32.toInt_add, Int32.toInt_sub, Int32.toInt_mul, bm32, Int32.reduceToInt, Int64.reduceToInt, Nat.reduceLT, Nat.reduceEqDiff, reduceIte, w_1m0_2, w_1m0_3, w_1m0_4, w_1m0_5, w_1m0_6, w_1m0_14, w_1m0_42, u_4_2, u_4_3, u_4_4, u_4_5, u_4_6, u_4_14, u_4_42] <;> omega))⟩) (by first | omega | (simp (disch := omega) only [↓i_in, ↓i_isCouple, ↓i_isBridge, ↓i_isTheme, ↓i_isBarge, i_lt, i_le, i_eq, i_clamp, i_upd, i_m1, Int32.toInt_toInt64, Int32.toInt_add, Int32.toInt_sub, Int32.toInt_mul, bm32, Int32.reduceToInt, Int64.reduceToInt, Nat.reduceLT, Nat.reduceEqDiff, reduceIte, w_1m0_2, w_1m0_3, w_1m0_4, w_1m0_5, w_1m0_6, w_1m0_14, w_1m0_42, u_4_2, u_4_3, u_4_4, u_4_5, u_4_6, u_4_14, u_4_42] <;> omega))
      · skip
        try simp (disch := omega) only [↓i_in, ↓i_isCouple, ↓i_isBridge, ↓i_isTheme, ↓i_isBarge, i_lt, i_le, i_eq, i_clamp, i_upd, i_m1, Int32.toInt_toInt64, Int32.toInt_add, Int32.toInt_sub, Int32.toInt_mul, bm32, Int32.reduceToInt, Int64.reduceToInt, Nat.reduceLT, Nat.reduceEqDiff, reduceIte, w_1m0_2, w_1m0_3, w_1m0_4, w_1m0_5, w_1m0_6, w_1m0_14, w_1m0_42, u_4_2, u_4_3, u_4_4, u_4_5, u_4_6, u_4_14, u_4_42] at c_8
        refine ⟨vp_in_iff.mpr (by first | omega | (simp (disch := omega) only [↓i_in, ↓i_isCouple, ↓i_isBridge, ↓i_isTheme, ↓i_isBarge, i_lt, i_le, i_eq, i_clamp, i_upd, i_m1, Int32.toInt_toInt64, Int32.toInt_add, Int32.toInt_sub, Int32.toInt_mul, bm32, Int32.reduceToInt, Int64.reduceToInt, Nat.reduceLT, Nat.reduceEqDiff, reduceIte, w_1m0_2, w_1m0_3, w_1m0_4, w_1m0_5, w_1m0_6, w_1m0_14, w_1m0_42, u_4_2, u_4_3, u_4_4, u_4_5, u_4_6, u_4_14, u_4_42] <;> omega)), ?_⟩
        refine ⟨fun c_9 => ?_, fun c_9 => ?_⟩
        · skip
          try simp (disch := omega) only [↓i_in, ↓i_isCouple, ↓i_isBridge, ↓i_isTheme, ↓i_isBarge, i_lt, i_le, i_eq, i_clamp, i_upd, i_m1, Int32.toInt_toInt64, Int32.toInt_add, Int32.toInt_sub, Int32.toInt_mul, bm32, Int32.reduceToInt, Int64.reduceToInt, Nat.reduceLT, Nat.reduceEqDiff, reduceIte, w_1m0_2, w_1m0_3, w_1m0_4, w_1m0_5, w_1m0_6, w_1m0_14, w_1m0_42, u_4_2, u_4_3, u_4_4, u_4_5, u_4_6, u_4_14, u_4_42] at c_9
          exact ih (w_1l5 + 1) (u_4 32) w_1l5 (upd u_4 35 ((f0 ((0 + c_) : Int32).toNatClampNeg) - (u_4 33))) (⟨(QG_upd i_7 (by decide) (by decide)), (by first | omega | (simp (disch := omega) only [↓i_in, ↓i_isCouple, ↓i_isBridge, ↓i_isTheme, ↓i_isBarge, i_lt, i_le, i_eq, i_clamp, i_upd, i_m1, Int32.toInt_toInt64, Int32.toInt_add, Int32.toInt_sub, Int32.toInt_mul, bm32, Int32.reduceToInt, Int64.reduceToInt, Nat.reduceLT, Nat.reduceEqDiff, reduceIte, w_1m0_2, w_1m0_3, w_1m0_4, w_1m0_5, w_1m0_6, w_1m0_14, w_1m0_42, u_4_2, u_4_3, u_4_4, u_4_5, u_4_6, u_4_14, u_4_42] <;> omega)), (by first | omega | (simp (disch := omega) only [↓i_in, ↓i_isCouple, ↓i_isBridge, ↓i_isTheme, ↓i_isBarge, i_lt, i_le, i_eq, i_clamp, i_upd, i_m1, Int32.toInt_toInt64, Int32.toInt_add, Int32.toInt_sub, Int32.toInt_mul, bm32, Int32.reduceToInt, Int64.reduceToInt, Nat.reduceLT, Nat.reduceEqDiff, reduceIte, w_1m0_2, w_1m0_3, w_1m0_4, w_1m0_5, w_1m0_6, w_1m0_14, w_1m0_42, u_4_2, u_4_3, u_4_4, u_4_5, u_4_6, u_4_14, u_4_42] <;> omega))⟩) (by first | omega | (simp (disch := omega) only [↓i_in, ↓i_isCouple, ↓i_isBridge, ↓i_isTheme, ↓i_isBarge, i_lt, i_le, i_eq, i_clamp, i_upd, i_m1, Int32.toInt_toInt64, Int32.toInt_add, Int32.toInt_sub, Int32.toInt_mul, bm32, Int32.reduceToInt, Int64.reduceToInt, Nat.reduceLT, Nat.reduceEqDiff, reduceIte, w_1m0_2, w_1m0_3, w_1m0_4, w_1m0_5, w_1m0_6, w_1m0_14, w_1m0_42, u_4_2, u_4_3, u_4_4, u_4_5, u_4_6, u_4_14, u_4_42] <;> omega))
        · skip
          try simp (disch := omega) only [↓i_in, ↓i_isCouple, ↓i_isBridge, ↓i_isTheme, ↓i_isBarge, i_lt, i_le, i_eq, i_clamp, i_upd, i_m1, Int32.toInt_toInt64, Int32.toInt_add, Int32.toInt_sub, Int32.toInt_mul, bm32, Int32.reduceToInt, Int64.reduceToInt, Nat.reduceLT, Nat.reduceEqDiff, reduceIte, w_1m0_2, w_1m0_3, w_1m0_4, w_1m0_5, w_1m0_6, w_1m0_14, w_1m0_42, u_4_2, u_4_3, u_4_4, u_4_5, u_4_6, u_4_14, u_4_42] at c_9
          refine ⟨fun c_10 => ?_, fun c_10 => ?_⟩
          · skip
            try simp (disch := omega) only [↓i_in, ↓i_isCouple, ↓i_isBridge, ↓i_isTheme, ↓i_isBarge, i_lt, i_le, i_eq, i_clamp, i_upd, i_m1, Int32.toInt_toInt64, Int32.toInt_add, Int32.toInt_sub, Int32.toInt_mul, bm32, Int32.reduceToInt, Int64.reduceToInt, Nat.reduceLT, Nat.reduceEqDiff, reduceIte, w_1m0_2, w_1m0_3, w_1m0_4, w_1m0_5, w_1m0_6, w_1m0_14, w_1m0_42, u_4_2, u_4_3, u_4_4, u_4_5, u_4_6, u_4_14, u_4_42] at c_10
            refine ⟨fun c_11 => ?_, fun c_11 => ?_⟩
            · skip
              try simp (disch := omega) only [↓i_in, ↓i_isCouple, ↓i_isBridge, ↓i_isTheme, ↓i_isBarge, i_lt, i_le, i_eq, i_clamp, i_upd, i_m1, Int32.toInt_toInt64, Int32.toInt_add, Int32.toInt_sub, Int32.toInt_mul, bm32, Int32.reduceToInt, Int64.reduceToInt, Nat.reduceLT, Nat.reduceEqDiff, reduceIte, w_1m0_2, w_1m0_3, w_1m0_4, w_1m0_5, w_1m0_6, w_1m0_14, w_1m0_42, u_4_2, u_4_3, u_4_4, u_4_5, u_4_6, u_4_14, u_4_42] at c_11
              exact ih (w_1l5 + 1) w_1l4 w_1l3 (upd u_4 35 (u_4 35)) (⟨(QG_upd i_7 (by decide) (by decide)), (by first | omega | (simp (disch := omega) only [↓i_in, ↓i_isCouple, ↓i_isBridge, ↓i_isTheme, ↓i_isBarge, i_lt, i_le, i_eq, i_clamp, i_upd, i_m1, Int32.toInt_toInt64, Int32.toInt_add, Int32.toInt_sub, Int32.toInt_mul, bm32, Int32.reduceToInt, Int64.reduceToInt, Nat.reduceLT, Nat.reduceEqDiff, reduceIte, w_1m0_2, w_1m0_3, w_1m0_4, w_1m0_5, w_1m0_6, w_1m0_14, w_1m0_42, u_4_2, u_4_3, u_4_4, u_4_5, u_4_6, u_4_14, u_4_42] <;> omega)), (by first | omega | (simp (disch := omega) only [↓i_in, ↓i_isCouple, ↓i_isBridge, ↓i_isTheme, ↓i_isBarge, i_lt, i_le, i_eq, i_clamp, i_upd, i_m1, Int32.toInt_toInt64, Int32.toInt_add, Int32.toInt_sub, Int32.toInt_mul, bm32, Int32.reduceToInt, Int64.reduceToInt, Nat.reduceLT, Nat.reduceEqDiff, reduceIte, w_1m0_2, w_1m0_3, w_1m0_4, w_1m0_5, w_1m0_6, w_1m0_14, w_1m0_42, u_4_2, u_4_3, u_4_4, u_4_5, u_4_6, u_4_14, u_4_42] <;> omega))⟩) (by first | omega | (simp (disch := omega) only [↓i_in, ↓i_isCouple, ↓i_isBridge, ↓i_isTheme, ↓i_isBarge, i_lt, i_le, i_eq, i_clamp, i_upd, i_m1, Int32.toInt_toInt64, Int32.toInt_add, Int32.toInt_sub, Int32.toInt_mul, bm32, Int32.reduceToInt, Int64.reduceToInt, Nat.reduceLT, Nat.reduceEqDiff, reduceIte, w_1m0_2, w_1m0_3, w_1m0_4, w_1m0_5, w_1m0_6, w_1m0_14, w_1m0_42, u_4_2, u_4_3, u_4_4, u_4_5, u_4_6, u_4_14, u_4_42] <;> omega))
            · skip
              try simp (disch := omega) only [↓i_in, ↓i_isCouple, ↓i_isBridge, ↓i_isTheme, ↓i_isBarge, i_lt, i_le, i_eq, i_clamp, i_upd, i_m1, Int32.toInt_toInt64, Int32.toInt_add, Int32.toInt_sub, Int32.toInt_mul, bm32, Int32.reduceToInt, Int64.reduceToInt, Nat.reduceLT, Nat.reduceEqDiff, reduceIte, w_1m0_2, w_1m0_3, w_1m0_4, w_1m0_5, w_1m0_6, w_1m0_14, w_1m0_42, u_4_2, u_4_3, u_4_4, u_4_5, u_4_6, u_4_14, u_4_42] at c_11
              exact ih (w_1l5 + 1) (u_4 32) w_1l5 (upd u_4 35 ((f0 ((0 + c_) : Int32).toNatClampNeg) - (u_4 33))) (⟨(QG_upd i_7 (by decide) (by decide)), (by first | omega | (simp (disch := omega) only [↓i_in, ↓i_isCouple, ↓i_isBridge, ↓i_isTheme, ↓i_isBarge, i_lt, i_le, i_eq, i_clamp, i_upd, i_m1, Int32.toInt_toInt64, Int32.toInt_add, Int32.toInt_sub, Int32.toInt_mul, bm32, Int32.reduceToInt, Int64.reduceToInt, Nat.reduceLT, Nat.reduceEqDiff, reduceIte, w_1m0_2, w_1m0_3, w_1m0_4, w_1m0_5, w_1m0_6, w_1m0_14, w_1m0_42, u_4_2, u_4_3, u_4_4, u_4_5, u_4_6, u_4_14, u_4_42] <;> omega)), (by first | omega | (simp (disch := omega) only [↓i_in, ↓i_isCouple, ↓i_isBridge, ↓i_isTheme, ↓i_isBarge, i_lt, i_le, i_eq, i_clamp, i_upd, i_m1, Int32.toInt_toInt64, Int32.toInt_add, Int32.toInt_sub, Int32.toInt_mul, bm32, Int32.reduceToInt, Int64.reduceToInt, Nat.reduceLT, Nat.reduceEqDiff, reduceIte, w_1m0_2, w_1m0_3, w_1m0_4, w_1m0_5, w_1m0_6, w_1m0_14, w_1m0_42, u_4_2, u_4_3, u_4_4, u_4_5, u_4_6, u_4_14, u_4_42] <;> omega))⟩) (by first | omega | (simp (disch := omega) only [↓i_in, ↓i_isCouple, ↓i_isBridge, ↓i_isTheme, ↓i_isBarge, i_lt, i_le, i_eq, i_clamp, i_upd, i_m1, Int32.toInt_toInt64, Int32.toInt_add, Int32.toInt_sub, Int32.toInt_mul, bm32, Int32.reduceToInt, Int64.reduceToInt, Nat.reduceLT, Nat.reduceEqDiff, reduceIte, w_1m0_2, w_1m0_3, w_1m0_4, w_1m0_5, w_1m0_6, w_1m0_14, w_1m0_42, u_4_2, u_4_3, u_4_4, u_4_5, u_4_6, u_4_14, u_4_42] <;> omega))
          · skip
            try simp (disch := omega) only [↓i_in, ↓i_isCouple, ↓i_isBridge, ↓i_isTheme, ↓i_isBarge, i_lt, i_le, i_eq, i_clamp, i_upd, i_m1, Int32.toInt_toInt64, Int32.toInt_add, Int32.toInt_sub, Int32.toInt_mul, bm32, Int32.reduceToInt, Int64.reduceToInt, Nat.reduceLT, Nat.reduceEqDiff, reduceIte, w_1m0_2, w_1m0_3, w_1m0_4, w_1m0_5, w_1m0_6, w_1m0_14, w_1m0_42, u_4_2, u_4_3, u_4_4, u_4_5, u_4_6, u_4_14, u_4_42] at c_10
            exact ih (w_1l5 + 1) w_1l4 w_1l3 (upd u_4 35 (u_4 35)) (⟨(QG_upd i_7 (by decide) (by decide)), (by first | omega | (simp (disch := omega) only [↓i_in, ↓i_isCouple, ↓i_isBridge, ↓i_isTheme, ↓i_isBarge, i_lt, i_le, i_eq, i_clamp, i_upd, i_m1, Int32.toInt_toInt64, Int32.toInt_add, Int32.toInt_sub, Int32.toInt_mul, bm32, Int32.reduceToInt, Int64.reduceToInt, Nat.reduceLT, Nat.reduceEqDiff, reduceIte, w_1m0_2, w_1m0_3, w_1m0_4, w_1m0_5, w_1m0_6, w_1m0_14, w_1m0_42, u_4_2, u_4_3, u_4_4, u_4_5, u_4_6, u_4_14, u_4_42] <;> omega)), (by first | omega | (simp (disch := omega) only [↓i_in, ↓i_isCouple, ↓i_isBridge, ↓i_isTheme, ↓i_isBarge, i_lt, i_le, i_eq, i_clamp, i_upd, i_m1, Int32.toInt_toInt64, Int32.toInt_add, Int32.toInt_sub, Int32.toInt_mul, bm32, Int32.reduceToInt, Int64.reduceToInt, Nat.reduceLT, Nat.reduceEqDiff, reduceIte, w_1m0_2, w_1m0_3, w_1m0_4, w_1m0_5, w_1m0_6, w_1m0_14, w_1m0_42, u_4_2, u_4_3, u_4_4, u_4_5, u_4_6, u_4_14, u_4_42] <;> omega))⟩) (by first | omega | (simp (disch := omega) only [↓i_in, ↓i_isCouple, ↓i_isBridge, ↓i_isTheme, ↓i_isBarge, i_lt, i_le, i_eq, i_clamp, i_upd, i_m1, Int32.toInt_toInt64, Int32.toInt_add, Int32.toInt_sub, Int32.toInt_mul, bm32, Int32.reduceToInt, Int64.reduceToInt, Nat.reduceLT, Nat.reduceEqDiff, reduceIte, w_1m0_2, w_1m0_3, w_1m0_4, w_1m0_5, w_1m0_6, w_1m0_14, w_1m0_42, u_4_2, u_4_3, u_4_4, u_4_5, u_4_6, u_4_14, u_4_42] <;> omega))
set_option maxHeartbeats 4000000 in
theorem pl_best_17 {G : Nat → Int32} {f0 : Nat → Int32} {f10 : Nat → Int32} {f8 : Nat → Int32} {c_ : Int32} {b_ : Int32} (h_0 : GI G) (h_1 : 0 ≤ c_.toInt) (h_2 : c_.toInt < 6) (h_3 : 0 ≤ b_.toInt) (h_4 : b_.toInt < 6) : ∀ (n : Nat) w_1l5 w_1l4 w_1l3 w_1m0, (QG G w_1m0 ∧ (0 ≤ w_1l5.toInt) ∧ (w_1l5.toInt ≤ 5)) → ∀ r0 r1 r2 r3, f_m_best_17 f0 f10 f8 c_ b_ n w_1l5 w_1l4 w_1l3 w_1m0 = (r0, r1, r2, r3) → QG G r3 ∧ (0 ≤ r0.toInt) ∧ (r0.toInt ≤ 5) := by
  have h_0_g := h_0
  obtain ⟨⟨h_0_2a, h_0_2b⟩, ⟨h_0_3a, h_0_3b⟩, ⟨h_0_4a, h_0_4b⟩, ⟨h_0_5a, h_0_5b⟩, ⟨h_0_6a, h_0_6b⟩, ⟨h_0_14a, h_0_14b⟩, ⟨h_0_42a, h_0_42b⟩⟩ := h_0_g
  intro n
  induction n with
  | zero =>
    intro w_1l5 w_1l4 w_1l3 w_1m0 hI r0 r1 r2 r3 e
    replace e : (w_1l5, w_1l4, w_1l3, w_1m0) = (r0, r1, r2, r3) := e
    cases e
    exact hI
  | succ n ih =>
    intro w_1l5 w_1l4 w_1l3 w_1m0 hI r0 r1 r2 r3 e
    rw [f_m_best_17_s] at e
    have hI0 := hI
    obtain ⟨i_1, i_2, i_3⟩ := hI0
    obtain ⟨w_1m0_2, w_1m0_3, w_1m0_4, w_1m0_5, w_1m0_6, w_1m0_14, w_1m0_42⟩ := QGs i_1
    by_cases c_4 : (w_1m0 4) ≤ w_1l5
    · rw [if_pos c_4] at e
      try simp (disch := omega) only [↓i_in, ↓i_isCouple, ↓i_isBridge, ↓i_isTheme, ↓i_isBarge, i_lt, i_le, i_eq, i_clamp, i_upd, i_m1, Int32.toInt_toInt64, Int32.toInt_add, Int32.toInt_sub, Int32.toInt_mul, bm32, Int32.reduceToInt, Int64.reduceToInt, Nat.reduceLT, Nat.reduceEqDiff, reduceIte, w_1m0_2, w_1m0_3, w_1m0_4, w_1m0_5, w_1m0_6, w_1m0_14, w_1m0_42] at c_4
      cases e
      exact hI
    · rw [if_neg c_4] at e
      try simp (disch := omega) only [↓i_in, ↓i_isCouple, ↓i_isBridge, ↓i_isTheme, ↓i_isBarge, i_lt, i_le, i_eq, i_clamp, i_upd, i_m1, Int32.toInt_toInt64, Int32.toInt_add, Int32.toInt_sub, Int32.toInt_mul, bm32, Int32.reduceToInt, Int64.reduceToInt, Nat.reduceLT, Nat.reduceEqDiff, reduceIte, w_1m0_2, w_1m0_3, w_1m0_4, w_1m0_5, w_1m0_6, w_1m0_14, w_1m0_42] at c_4
      generalize x_5 : (f_m_opens w_1m0 f0 f10 f8 c_ b_ w_1l5) = z_6 at e
      obtain ⟨r_5, u_4⟩ := z_6
      replace e : ((if r_5 = 0 then (f_m_best_17 f0 f10 f8 c_ b_ n (w_1l5 + 1) w_1l4 w_1l3 u_4) else (if (u_4 32) < w_1l4 then (f_m_best_17 f0 f10 f8 c_ b_ n (w_1l5 + 1) (u_4 32) w_1l5 (upd u_4 35 ((f0 ((0 + c_) : Int32).toNatClampNeg) - (u_4 33)))) else (if (u_4 32) = w_1l4 then (if (u_4 35) ≤ ((f0 ((0 + c_) : Int32).toNatClampNeg) - (u_4 33)) then (f_m_best_17 f0 f10 f8 c_ b_ n (w_1l5 + 1) w_1l4 w_1l3 (upd u_4 35 (u_4 35))) else (f_m_best_17 f0 f10 f8 c_ b_ n (w_1l5 + 1) (u_4 32) w_1l5 (upd u_4 35 ((f0 ((0 + c_) : Int32).toNatClampNeg) - (u_4 33))))) else (f_m_best_17 f0 f10 f8 c_ b_ n (w_1l5 + 1) w_1l4 w_1l3 (upd u_4 35 (u_4 35))))))) = (r0, r1, r2, r3) := e
      have p_7 := p_opens _ _ x_5
      have i_8 := p_7
      replace i_8 := QG.trans i_1 i_8
      obtain ⟨u_4_2, u_4_3, u_4_4, u_4_5, u_4_6, u_4_14, u_4_42⟩ := QGs i_8
      by_cases c_9 : r_5 = 0
      · rw [if_pos c_9] at e
        try simp (disch := omega) only [↓i_in, ↓i_isCouple, ↓i_isBridge, ↓i_isTheme, ↓i_isBarge, i_lt, i_le, i_eq, i_clamp, i_upd, i_m1, Int32.toInt_toInt64, Int32.toInt_add, Int32.toInt_sub, Int32.toInt_mul, bm32, Int32.reduceToInt, Int64.reduceToInt, Nat.reduceLT, Nat.reduceEqDiff, reduceIte, w_1m0_2, w_1m0_3, w_1m0_4, w_1m0_5, w_1m0_6, w_1m0_14, w_1m0_42, u_4_2, u_4_3, u_4_4, u_4_5, u_4_6, u_4_14, u_4_42] at c_9
        exact ih (w_1l5 + 1) w_1l4 w_1l3 u_4 (⟨i_8, (by first | omega | (simp (disch := omega) only [↓i_in, ↓i_isCouple, ↓i_isBridge, ↓i_isTheme, ↓i_isBarge, i_lt, i_le, i_eq, i_clamp, i_upd, i_m1, Int32.toInt_toInt64, Int32.toInt_add, Int32.toInt_sub, Int32.toInt_mul, bm32, Int32.reduceToInt, Int64.reduceToInt, Nat.reduceLT, Nat.reduceEqDiff, reduceIte, w_1m0_2, w_1m0_3, w_1m0_4, w_1m0_5, w_1m0_6, w_1m0_14, w_1m0_42, u_4_2, u_4_3, u_4_4, u_4_5, u_4_6, u_4_14, u_4_42] <;> omega)), (by first | omega | (simp (disch := omega) only [↓i_in, ↓i_isCouple, ↓i_isBridge, ↓i_isTheme, ↓i_isBarge, i_lt, i_le, i_eq, i_clamp, i_upd, i_m1, Int32.toInt_toInt64, Int32.toInt_add, Int32.toInt_sub, Int32.toInt_mul, bm32, Int32.reduceToInt, Int64.reduceToInt, Nat.reduceLT, Nat.reduceEqDiff, reduceIte, w_1m0_2, w_1m0_3, w_1m0_4, w_1m0_5, w_1m0_6, w_1m0_14, w_1m0_42, u_4_2, u_4_3, u_4_4, u_4_5, u_4_6, u_4_14, u_4_42] <;> omega))⟩) _ _ _ _ e
      · rw [if_neg c_9] at e
        try simp (disch := omega) only [↓i_in, ↓i_isCouple, ↓i_isBridge, ↓i_isTheme, ↓i_isBarge, i_lt, i_le, i_eq, i_clamp, i_upd, i_m1, Int32.toInt_toInt64, Int32.toInt_add, Int32.toInt_sub, Int32.toInt_mul, bm32, Int32.reduceToInt, Int64.reduceToInt, Nat.reduceLT, Nat.reduceEqDiff, reduceIte, w_1m0_2, w_1m0_3, w_1m0_4, w_1m0_5, w_1m0_6, w_1m0_14, w_1m0_42, u_4_2, u_4_3, u_4_4, u_4_5, u_4_6, u_4_14, u_4_42] at c_9
        by_cases c_10 : (u_4 32) < w_1l4
        · rw [if_pos c_10] at e
          try simp (disch := omega) only [↓i_in, ↓i_isCouple, ↓i_isBridge, ↓i_isTheme, ↓i_isBarge, i_lt, i_le, i_eq, i_clamp, i_upd, i_m1, Int32.toInt_toInt64, Int32.toInt_add, Int32.toInt_sub, Int32.toInt_mul, bm32, Int32.reduceToInt, Int64.reduceToInt, Nat.reduceLT, Nat.reduceEqDiff, reduceIte, w_1m0_2, w_1m0_3, w_1m0_4, w_1m0_5, w_1m0_6, w_1m0_14, w_1m0_42, u_4_2, u_4_3, u_4_4, u_4_5, u_4_6, u_4_14, u_4_42] at c_10
          exact ih (w_1l5 + 1) (u_4 32) w_1l5 (upd u_4 35 ((f0 ((0 + c_) : Int32).toNatClampNeg) - (u_4 33))) (⟨(QG_upd i_8 (by decide) (by decide)), (by first | omega | (simp (disch := omega) only [↓i_in, ↓i_isCouple, ↓i_isBridge, ↓i_isTheme, ↓i_isBarge, i_lt, i_le, i_eq, i_clamp, i_upd, i_m1, Int32.toInt_toInt64, Int32.toInt_add, Int32.toInt_sub, Int32.toInt_mul, bm32, Int32.reduceToInt, Int64.reduceToInt, Nat.reduceLT, Nat.reduceEqDiff, reduceIte, w_1m0_2, w_1m0_3, w_1m0_4, w_1m0_5, w_1m0_6, w_1m0_14, w_1m0_42, u_4_2, u_4_3, u_4_4, u_4_5, u_4_6, u_4_14, u_4_42] <;> omega)), (by first | omega | (simp (disch := omega) only [↓i_in, ↓i_isCouple, ↓i_isBridge, ↓i_isTheme, ↓i_isBarge, i_lt, i_le, i_eq, i_clamp, i_upd, i_m1, Int32.toInt_toInt64, Int32.toInt_add, Int32.toInt_sub, Int32.toInt_mul, bm32, Int32.reduceToInt, Int64.reduceToInt, Nat.reduceLT, Nat.reduceEqDiff, reduceIte, w_1m0_2, w_1m0_3, w_1m0_4, w_1m0_5, w_1m0_6, w_1m0_14, w_1m0_42, u_4_2, u_4_3, u_4_4, u_4_5, u_4_6, u_4_14, u_4_42] <;> omega))⟩) _ _ _ _ e
        · rw [if_neg c_10] at e
          try simp (disch := omega) only [↓i_in, ↓i_isCouple, ↓i_isBridge, ↓i_isTheme, ↓i_isBarge, i_lt, i_le, i_eq, i_clamp, i_upd, i_m1, Int32.toInt_toInt64, Int32.toInt_add, Int32.toInt_sub, Int32.toInt_mul, bm32, Int32.reduceToInt, Int64.reduceToInt, Nat.reduceLT, Nat.reduceEqDiff, reduceIte, w_1m0_2, w_1m0_3, w_1m0_4, w_1m0_5, w_1m0_6, w_1m0_14, w_1m0_42, u_4_2, u_4_3, u_4_4, u_4_5, u_4_6, u_4_14, u_4_42] at c_10
          by_cases c_11 : (u_4 32) = w_1l4
          · rw [if_pos c_11] at e
            try simp (disch := omega) only [↓i_in, ↓i_isCouple, ↓i_isBridge, ↓i_isTheme, ↓i_isBarge, i_lt, i_le, i_eq, i_clamp, i_upd, i_m1, Int32.toInt_toInt64, Int32.toInt_add, Int32.toInt_sub, Int32.toInt_mul, bm32, Int32.reduceToInt, Int64.reduceToInt, Nat.reduceLT, Nat.reduceEqDiff, reduceIte, w_1m0_2, w_1m0_3, w_1m0_4, w_1m0_5, w_1m0_6, w_1m0_14, w_1m0_42, u_4_2, u_4_3, u_4_4, u_4_5, u_4_6, u_4_14, u_4_42] at c_11
            by_cases c_12 : (u_4 35) ≤ ((f0 ((0 + c_) : Int32).toNatClampNeg) - (u_4 33))
            · rw [if_pos c_12] at e
              try simp (disch := omega) only [↓i_in, ↓i_isCouple, ↓i_isBridge, ↓i_isTheme, ↓i_isBarge, i_lt, i_le, i_eq, i_clamp, i_upd, i_m1, Int32.toInt_toInt64, Int32.toInt_add, Int32.toInt_sub, Int32.toInt_mul, bm32, Int32.reduceToInt, Int64.reduceToInt, Nat.reduceLT, Nat.reduceEqDiff, reduceIte, w_1m0_2, w_1m0_3, w_1m0_4, w_1m0_5, w_1m0_6, w_1m0_14, w_1m0_42, u_4_2, u_4_3, u_4_4, u_4_5, u_4_6, u_4_14, u_4_42] at c_12
              exact ih (w_1l5 + 1) w_1l4 w_1l3 (upd u_4 35 (u_4 35)) (⟨(QG_upd i_8 (by decide) (by decide)), (by first | omega | (simp (disch := omega) only [↓i_in, ↓i_isCouple, ↓i_isBridge, ↓i_isTheme, ↓i_isBarge, i_lt, i_le, i_eq, i_clamp, i_upd, i_m1, Int32.toInt_toInt64, Int32.toInt_add, Int32.toInt_sub, Int32.toInt_mul, bm32, Int32.reduceToInt, Int64.reduceToInt, Nat.reduceLT, Nat.reduceEqDiff, reduceIte, w_1m0_2, w_1m0_3, w_1m0_4, w_1m0_5, w_1m0_6, w_1m0_14, w_1m0_42, u_4_2, u_4_3, u_4_4, u_4_5, u_4_6, u_4_14, u_4_42] <;> omega)), (by first | omega | (simp (disch := omega) only [↓i_in, ↓i_isCouple, ↓i_isBridge, ↓i_isTheme, ↓i_isBarge, i_lt, i_le, i_eq, i_clamp, i_upd, i_m1, Int32.toInt_toInt64, Int32.toInt_add, Int32.toInt_sub, Int32.toInt_mul, bm32, Int32.reduceToInt, Int64.reduceToInt, Nat.reduceLT, Nat.reduceEqDiff, reduceIte, w_1m0_2, w_1m0_3, w_1m0_4, w_1m0_5, w_1m0_6, w_1m0_14, w_1m0_42, u_4_2, u_4_3, u_4_4, u_4_5, u_4_6, u_4_14, u_4_42] <;> omega))⟩) _ _ _ _ e
            · rw [if_neg c_12] at e
              try simp (disch := omega) only [↓i_in, ↓i_isCouple, ↓i_isBridge, ↓i_isTheme, ↓i_isBarge, i_lt, i_le, i_eq, i_clamp, i_upd, i_m1, Int32.toInt_toInt64, Int32.toInt_add, Int32.toInt_sub, Int32.toInt_mul, bm32, Int32.reduceToInt, Int64.reduceToInt, Nat.reduceLT, Nat.reduceEqDiff, reduceIte, w_1m0_2, w_1m0_3, w_1m0_4, w_1m0_5, w_1m0_6, w_1m0_14, w_1m0_42, u_4_2, u_4_3, u_4_4, u_4_5, u_4_6, u_4_14, u_4_42] at c_12
              exact ih (w_1l5 + 1) (u_4 32) w_1l5 (upd u_4 35 ((f0 ((0 + c_) : Int32).toNatClampNeg) - (u_4 33))) (⟨(QG_upd i_8 (by decide) (by decide)), (by first | omega | (simp (disch := omega) only [↓i_in, ↓i_isCouple, ↓i_isBridge, ↓i_isTheme, ↓i_isBarge, i_lt, i_le, i_eq, i_clamp, i_upd, i_m1, Int32.toInt_toInt64, Int32.toInt_add, Int32.toInt_sub, Int32.toInt_mul, bm32, Int32.reduceToInt, Int64.reduceToInt, Nat.reduceLT, Nat.reduceEqDiff, reduceIte, w_1m0_2, w_1m0_3, w_1m0_4, w_1m0_5, w_1m0_6, w_1m0_14, w_1m0_42, u_4_2, u_4_3, u_4_4, u_4_5, u_4_6, u_4_14, u_4_42] <;> omega)), (by first | omega | (simp (disch := omega) only [↓i_in, ↓i_isCouple, ↓i_isBridge, ↓i_isTheme, ↓i_isBarge, i_lt, i_le, i_eq, i_clamp, i_upd, i_m1, Int32.toInt_toInt64, Int32.toInt_add, Int32.toInt_sub, Int32.toInt_mul, bm32, Int32.reduceToInt, Int64.reduceToInt, Nat.reduceLT, Nat.reduceEqDiff, reduceIte, w_1m0_2, w_1m0_3, w_1m0_4, w_1m0_5, w_1m0_6, w_1m0_14, w_1m0_42, u_4_2, u_4_3, u_4_4, u_4_5, u_4_6, u_4_14, u_4_42] <;> omega))⟩) _ _ _ _ e
          · rw [if_neg c_11] at e
            try simp (disch := omega) only [↓i_in, ↓i_isCouple, ↓i_isBridge, ↓i_isTheme, ↓i_isBarge, i_lt, i_le, i_eq, i_clamp, i_upd, i_m1, Int32.toInt_toInt64, Int32.toInt_add, Int32.toInt_sub, Int32.toInt_mul, bm32, Int32.reduceToInt, Int64.reduceToInt, Nat.reduceLT, Nat.reduceEqDiff, reduceIte, w_1m0_2, w_1m0_3, w_1m0_4, w_1m0_5, w_1m0_6, w_1m0_14, w_1m0_42, u_4_2, u_4_3, u_4_4, u_4_5, u_4_6, u_4_14, u_4_42] at c_11
            exact ih (w_1l5 + 1) w_1l4 w_1l3 (upd u_4 35 (u_4 35)) (⟨(QG_upd i_8 (by decide) (by decide)), (by first | omega | (simp (disch := omega) only [↓i_in, ↓i_isCouple, ↓i_isBridge, ↓i_isTheme, ↓i_isBarge, i_lt, i_le, i_eq, i_clamp, i_upd, i_m1, Int32.toInt_toInt64, Int32.toInt_add, Int32.toInt_sub, Int32.toInt_mul, bm32, Int32.reduceToInt, Int64.reduceToInt, Nat.reduceLT, Nat.reduceEqDiff, reduceIte, w_1m0_2, w_1m0_3, w_1m0_4, w_1m0_5, w_1m0_6, w_1m0_14, w_1m0_42, u_4_2, u_4_3, u_4_4, u_4_5, u_4_6, u_4_14, u_4_42] <;> omega)), (by first | omega | (simp (disch := omega) only [↓i_in, ↓i_isCouple, ↓i_isBridge, ↓i_isTheme, ↓i_isBarge, i_lt, i_le, i_eq, i_clamp, i_upd, i_m1, Int32.toInt_toInt64, Int32.toInt_add, Int32.toInt_sub, Int32.toInt_mul, bm32, Int32.reduceToInt, Int64.reduceToInt, Nat.reduceLT, Nat.reduceEqDiff, reduceIte, w_1m0_2, w_1m0_3, w_1m0_4, w_1m0_5, w_1m0_6, w_1m0_14, w_1m0_42, u_4_2, u_4_3, u_4_4, u_4_5, u_4_6, u_4_14, u_4_42] <;> omega))⟩) _ _ _ _ e
set_option maxHeartbeats 4000000 in
theorem s_best {G : Nat → Int32} {f0 : Nat → Int32} {f10 : Nat → Int32} {f8 : Nat → Int32} {c_ : Int32} {b_ : Int32} (h_0 : GI G) (h_1 : 0 ≤ c_.toInt) (h_2 : c_.toInt < 6) (h_3 : 0 ≤ b_.toInt) (h_4 : b_.toInt < 6) : S_m_best G f0 f10 f8 c_ b_ := by
  unfold S_m_best
  have h_0_g := h_0
  obtain ⟨⟨h_0_2a, h_0_2b⟩, ⟨h_0_3a, h_0_3b⟩, ⟨h_0_4a, h_0_4b⟩, ⟨h_0_5a, h_0_5b⟩, ⟨h_0_6a, h_0_6b⟩, ⟨h_0_14a, h_0_14b⟩, ⟨h_0_42a, h_0_42b⟩⟩ := h_0_g
  refine sl_best_17 h_0 (by first | omega | (simp (disch := omega) only [↓i_in, ↓i_isCouple, ↓i_isBridge, ↓i_isTheme, ↓i_isBarge, i_lt, i_le, i_eq, i_clamp, i_upd, i_m1, Int32.toInt_toInt64, Int32.toInt_add, Int32.toInt_sub, Int32.toInt_mul, bm32, Int32.reduceToInt, Int64.reduceToInt, Nat.reduceLT, Nat.reduceEqDiff, reduceIte] <;> omega)) (by first | omega | (simp (disch := omega) only [↓i_in, ↓i_isCouple, ↓i_isBridge, ↓i_isTheme, ↓i_isBarge, i_lt, i_le, i_eq, i_clamp, i_upd, i_m1, Int32.toInt_toInt64, Int32.toInt_add, Int32.toInt_sub, Int32.toInt_mul, bm32, Int32.reduceToInt, Int64.reduceToInt, Nat.reduceLT, Nat.reduceEqDiff, reduceIte] <;> omega)) (by first | omega | (simp (disch := omega) only [↓i_in, ↓i_isCouple, ↓i_isBridge, ↓i_isTheme, ↓i_isBarge, i_lt, i_le, i_eq, i_clamp, i_upd, i_m1, Int32.toInt_toInt64, Int32.toInt_add, Int32.toInt_sub, Int32.toInt_mul, bm32, Int32.reduceToInt, Int64.reduceToInt, Nat.reduceLT, Nat.reduceEqDiff, reduceIte] <;> omega)) (by first | omega | (simp (disch := omega) only [↓i_in, ↓i_isCouple, ↓i_isBridge, ↓i_isTheme, ↓i_isBarge, i_lt, i_le, i_eq, i_clamp, i_upd, i_m1, Int32.toInt_toInt64, Int32.toInt_add, Int32.toInt_sub, Int32.toInt_mul, bm32, Int32.reduceToInt, Int64.reduceToInt, Nat.reduceLT, Nat.reduceEqDiff, reduceIte] <;> omega)) ?_ 10 0 999 (-1) (upd G 35 999) (⟨(QG_upd (QG.refl _) (by decide) (by decide)), (by first | omega | (simp (disch := omega) only [↓i_in, ↓i_isCouple, ↓i_isBridge, ↓i_isTheme, ↓i_isBarge, i_lt, i_le, i_eq, i_clamp, i_upd, i_m1, Int32.toInt_toInt64, Int32.toInt_add, Int32.toInt_sub, Int32.toInt_mul, bm32, Int32.reduceToInt, Int64.reduceToInt, Nat.reduceLT, Nat.reduceEqDiff, reduceIte] <;> omega)), (by first | omega | (simp (disch := omega) only [↓i_in, ↓i_isCouple, ↓i_isBridge, ↓i_isTheme, ↓i_isBarge, i_lt, i_le, i_eq, i_clamp, i_upd, i_m1, Int32.toInt_toInt64, Int32.toInt_add, Int32.toInt_sub, Int32.toInt_mul, bm32, Int32.reduceToInt, Int64.reduceToInt, Nat.reduceLT, Nat.reduceEqDiff, reduceIte] <;> omega))⟩) (by first | omega | (simp (disch := omega) only [↓i_in, ↓i_isCouple, ↓i_isBridge, ↓i_isTheme, ↓i_isBarge, i_lt, i_le, i_eq, i_clamp, i_upd, i_m1, Int32.toInt_toInt64, Int32.toInt_add, Int32.toInt_sub, Int32.toInt_mul, bm32, Int32.reduceToInt, Int64.reduceToInt, Nat.reduceLT, Nat.reduceEqDiff, reduceIte] <;> omega))
  intro w_1l5 w_1l4 w_1l3 w_1m0 i_1
  obtain ⟨i_2, i_3, i_4⟩ := i_1
  obtain ⟨w_1m0_2, w_1m0_3, w_1m0_4, w_1m0_5, w_1m0_6, w_1m0_14, w_1m0_42⟩ := QGs i_2
  exact trivial
set_option maxHeartbeats 4000000 in
theorem p_best {G : Nat → Int32} {f0 : Nat → Int32} {f10 : Nat → Int32} {f8 : Nat → Int32} {c_ : Int32} {b_ : Int32} (h_0 : GI G) (h_1 : 0 ≤ c_.toInt) (h_2 : c_.toInt < 6) (h_3 : 0 ≤ b_.toInt) (h_4 : b_.toInt < 6) : ∀ (r : Int32) (u : (Nat → Int32)), f_m_best G f0 f10 f8 c_ b_ = (r, u) → QG G u := by
  have h_0_g := h_0
  obtain ⟨⟨h_0_2a, h_0_2b⟩, ⟨h_0_3a, h_0_3b⟩, ⟨h_0_4a, h_0_4b⟩, ⟨h_0_5a, h_0_5b⟩, ⟨h_0_6a, h_0_6b⟩, ⟨h_0_14a, h_0_14b⟩, ⟨h_0_42a, h_0_42b⟩⟩ := h_0_g
  intro r u e
  unfold f_m_best at e
  generalize x_1 : (f_m_best_17 f0 f10 f8 c_ b_ 10 0 999 (-1) (upd G 35 999)) = z_2 at e
  obtain ⟨w_1l5, w_1l4, w_1l3, w_1m0⟩ := z_2
  replace e : ((w_1l3, w_1m0)) = (r, u) := e
  have p_3 := pl_best_17 h_0 (by first | omega | (simp (disch := omega) only [↓i_in, ↓i_isCouple, ↓i_isBridge, ↓i_isTheme, ↓i_isBarge, i_lt, i_le, i_eq, i_clamp, i_upd, i_m1, Int32.toInt_toInt64, Int32.toInt_add, Int32.toInt_sub, Int32.toInt_mul, bm32, Int32.reduceToInt, Int64.reduceToInt, Nat.reduceLT, Nat.reduceEqDiff, reduceIte] <;> omega)) (by first | omega | (simp (disch := omega) only [↓i_in, ↓i_isCouple, ↓i_isBridge, ↓i_isTheme, ↓i_isBarge, i_lt, i_le, i_eq, i_clamp, i_upd, i_m1, Int32.toInt_toInt64, Int32.toInt_add, Int32.toInt_sub, Int32.toInt_mul, bm32, Int32.reduceToInt, Int64.reduceToInt, Nat.reduceLT, Nat.reduceEqDiff, reduceIte] <;> omega)) (by first | omega | (simp (disch := omega) only [↓i_in, ↓i_isCouple, ↓i_isBridge, ↓i_isTheme, ↓i_isBarge, i_lt, i_le, i_eq, i_clamp, i_upd, i_m1, Int32.toInt_toInt64, Int32.toInt_add, Int32.toInt_sub, Int32.toInt_mul, bm32, Int32.reduceToInt, Int64.reduceToInt, Nat.reduceLT, Nat.reduceEqDiff, reduceIte] <;> omega)) (by first | omega | (simp (disch := omega) only [↓i_in, ↓i_isCouple, ↓i_isBridge, ↓i_isTheme, ↓i_isBarge, i_lt, i_le, i_eq, i_clamp, i_upd, i_m1, Int32.toInt_toInt64, Int32.toInt_add, Int32.toInt_sub, Int32.toInt_mul, bm32, Int32.reduceToInt, Int64.reduceToInt, Nat.reduceLT, Nat.reduceEqDiff, reduceIte] <;> omega)) 10 0 999 (-1) (upd G 35 999) (⟨(QG_upd (QG.refl _) (by decide) (by decide)), (by first | omega | (simp (disch := omega) only [↓i_in, ↓i_isCouple, ↓i_isBridge, ↓i_isTheme, ↓i_isBarge, i_lt, i_le, i_eq, i_clamp, i_upd, i_m1, Int32.toInt_toInt64, Int32.toInt_add, Int32.toInt_sub, Int32.toInt_mul, bm32, Int32.reduceToInt, Int64.reduceToInt, Nat.reduceLT, Nat.reduceEqDiff, reduceIte] <;> omega)), (by first | omega | (simp (disch := omega) only [↓i_in, ↓i_isCouple, ↓i_isBridge, ↓i_isTheme, ↓i_isBarge, i_lt, i_le, i_eq, i_clamp, i_upd, i_m1, Int32.toInt_toInt64, Int32.toInt_add, Int32.toInt_sub, Int32.toInt_mul, bm32, Int32.reduceToInt, Int64.reduceToInt, Nat.reduceLT, Nat.reduceEqDiff, reduceIte] <;> omega))⟩) _ _ _ _ x_1
  obtain ⟨i_4, i_5, i_6⟩ := p_3
  obtain ⟨w_1m0_2, w_1m0_3, w_1m0_4, w_1m0_5, w_1m0_6, w_1m0_14, w_1m0_42⟩ := QGs i_4
  cases e
  exact i_4
set_option maxHeartbeats 4000000 in
theorem s_bestTheme {G : Nat → Int32} {f0 : Nat → Int32} {f10 : Nat → Int32} {f8 : Nat → Int32} {c_ : Int32} {b_ : Int32} (h_0 : GI G) : S_m_bestTheme G f0 f10 f8 c_ b_ := by
  unfold S_m_bestTheme
  have h_0_g := h_0
  obtain ⟨⟨h_0_2a, h_0_2b⟩, ⟨h_0_3a, h_0_3b⟩, ⟨h_0_4a, h_0_4b⟩, ⟨h_0_5a, h_0_5b⟩, ⟨h_0_6a, h_0_6b⟩, ⟨h_0_14a, h_0_14b⟩, ⟨h_0_42a, h_0_42b⟩⟩ := h_0_g
  refine ⟨s_isCouple, ?_⟩
  refine ⟨fun c_1 => ?_, fun c_1 => ?_⟩
  · exact trivial
  · skip
    try simp (disch := omega) only [↓i_in, ↓i_isCouple, ↓i_isBridge, ↓i_isTheme, ↓i_isBarge, i_lt, i_le, i_eq, i_clamp, i_upd, i_m1, Int32.toInt_toInt64, Int32.toInt_add, Int32.toInt_sub, Int32.toInt_mul, bm32, Int32.reduceToInt, Int64.reduceToInt, Nat.reduceLT, Nat.reduceEqDiff, reduceIte] at c_1
    refine ⟨s_isBridge, ?_⟩
    refine ⟨fun c_2 => ?_, fun c_2 => ?_⟩
    · exact trivial
    · skip
      try simp (disch := omega) only [↓i_in, ↓i_isCouple, ↓i_isBridge, ↓i_isTheme, ↓i_isBarge, i_lt, i_le, i_eq, i_clamp, i_upd, i_m1, Int32.toInt_toInt64, Int32.toInt_add, Int32.toInt_sub, Int32.toInt_mul, bm32, Int32.reduceToInt, Int64.reduceToInt, Nat.reduceLT, Nat.reduceEqDiff, reduceIte] at c_2
      refine ⟨(s_best h_0 (by first | omega | (simp (disch := omega) only [↓i_in, ↓i_isCouple, ↓i_isBridge, ↓i_isTheme, ↓i_isBarge, i_lt, i_le, i_eq, i_clamp, i_upd, i_m1, Int32.toInt_toInt64, Int32.toInt_add, Int32.toInt_sub, Int32.toInt_mul, bm32, Int32.reduceToInt, Int64.reduceToInt, Nat.reduceLT, Nat.reduceEqDiff, reduceIte] <;> omega)) (by first | omega | (simp (disch := omega) only [↓i_in, ↓i_isCouple, ↓i_isBridge, ↓i_isTheme, ↓i_isBarge, i_lt, i_le, i_eq, i_clamp, i_upd, i_m1, Int32.toInt_toInt64, Int32.toInt_add, Int32.toInt_sub, Int32.toInt_mul, bm32, Int32.reduceToInt, Int64.reduceToInt, Nat.reduceLT, Nat.reduceEqDiff, reduceIte] <;> omega)) (by first | omega | (simp (disch := omega) only [↓i_in, ↓i_isCouple, ↓i_isBridge, ↓i_isTheme, ↓i_isBarge, i_lt, i_le, i_eq, i_clamp, i_upd, i_m1, Int32.toInt_toInt64, Int32.toInt_add, Int32.toInt_sub, Int32.toInt_mul, bm32, Int32.reduceToInt, Int64.reduceToInt, Nat.reduceLT, Nat.reduceEqDiff, reduceIte] <;> omega)) (by first | omega | (simp (disch := omega) only [↓i_in, ↓i_isCouple, ↓i_isBridge, ↓i_isTheme, ↓i_isBarge, i_lt, i_le, i_eq, i_clamp, i_upd, i_m1, Int32.toInt_toInt64, Int32.toInt_add, Int32.toInt_sub, Int32.toInt_mul, bm32, Int32.reduceToInt, Int64.reduceToInt, Nat.reduceLT, Nat.reduceEqDiff, reduceIte] <;> omega))), ?_⟩
      intro r_11 u_10 e_3
      have p_4 := p_best h_0 (by first | omega | (simp (disch := omega) only [↓i_in, ↓i_isCouple, ↓i_isBridge, ↓i_isTheme, ↓i_isBarge, i_lt, i_le, i_eq, i_clamp, i_upd, i_m1, Int32.toInt_toInt64, Int32.toInt_add, Int32.toInt_sub, Int32.toInt_mul, bm32, Int32.reduceToInt, Int64.reduceToInt, Nat.reduceLT, Nat.reduceEqDiff, reduceIte] <;> omega)) (by first | omega | (simp (disch := omega) only [↓i_in, ↓i_isCouple, ↓i_isBridge, ↓i_isTheme, ↓i_isBarge, i_lt, i_le, i_eq, i_clamp, i_upd, i_m1, Int32.toInt_toInt64, Int32.toInt_add, Int32.toInt_sub, Int32.toInt_mul, bm32, Int32.reduceToInt, Int64.reduceToInt, Nat.reduceLT, Nat.reduceEqDiff, reduceIte] <;> omega)) (by first | omega | (simp (disch := omega) only [↓i_in, ↓i_isCouple, ↓i_isBridge, ↓i_isTheme, ↓i_isBarge, i_lt, i_le, i_eq, i_clamp, i_upd, i_m1, Int32.toInt_toInt64, Int32.toInt_add, Int32.toInt_sub, Int32.toInt_mul, bm32, Int32.reduceToInt, Int64.reduceToInt, Nat.reduceLT, Nat.reduceEqDiff, reduceIte] <;> omega)) (by first | omega | (simp (disch := omega) only [↓i_in, ↓i_isCouple, ↓i_isBridge, ↓i_isTheme, ↓i_isBarge, i_lt, i_le, i_eq, i_clamp, i_upd, i_m1, Int32.toInt_toInt64, Int32.toInt_add, Int32.toInt_sub, Int32.toInt_mul, bm32, Int32.reduceToInt, Int64.reduceToInt, Nat.reduceLT, Nat.reduceEqDiff, reduceIte] <;> omega)) _ _ e_3.symm
      have i_5 := p_4
      obtain ⟨u_10_2, u_10_3, u_10_4, u_10_5, u_10_6, u_10_14, u_10_42⟩ := QGs i_5
      exact trivial
set_option maxHeartbeats 4000000 in
theorem p_bestTheme {G : Nat → Int32} {f0 : Nat → Int32} {f10 : Nat → Int32} {f8 : Nat → Int32} {c_ : Int32} {b_ : Int32} (h_0 : GI G) : ∀ (r : Int32) (u : (Nat → Int32)), f_m_bestTheme G f0 f10 f8 c_ b_ = (r, u) → QG G u := by
  have h_0_g := h_0
  obtain ⟨⟨h_0_2a, h_0_2b⟩, ⟨h_0_3a, h_0_3b⟩, ⟨h_0_4a, h_0_4b⟩, ⟨h_0_5a, h_0_5b⟩, ⟨h_0_6a, h_0_6b⟩, ⟨h_0_14a, h_0_14b⟩, ⟨h_0_42a, h_0_42b⟩⟩ := h_0_g
  intro r u e
  unfold f_m_bestTheme at e
  by_cases c_1 : (f_m_isCouple G c_) = 0
  · rw [if_pos c_1] at e
    try simp (disch := omega) only [↓i_in, ↓i_isCouple, ↓i_isBridge, ↓i_isTheme, ↓i_isBarge, i_lt, i_le, i_eq, i_clamp, i_upd, i_m1, Int32.toInt_toInt64, Int32.toInt_add, Int32.toInt_sub, Int32.toInt_mul, bm32, Int32.reduceToInt, Int64.reduceToInt, Nat.reduceLT, Nat.reduceEqDiff, reduceIte] at c_1
    cases e
    exact (QG.refl _)
  · rw [if_neg c_1] at e
    try simp (disch := omega) only [↓i_in, ↓i_isCouple, ↓i_isBridge, ↓i_isTheme, ↓i_isBarge, i_lt, i_le, i_eq, i_clamp, i_upd, i_m1, Int32.toInt_toInt64, Int32.toInt_add, Int32.toInt_sub, Int32.toInt_mul, bm32, Int32.reduceToInt, Int64.reduceToInt, Nat.reduceLT, Nat.reduceEqDiff, reduceIte] at c_1
    by_cases c_2 : (f_m_isBridge G b_) = 0
    · rw [if_pos c_2] at e
      try simp (disch := omega) only [↓i_in, ↓i_isCouple, ↓i_isBridge, ↓i_isTheme, ↓i_isBarge, i_lt, i_le, i_eq, i_clamp, i_upd, i_m1, Int32.toInt_toInt64, Int32.toInt_add, Int32.toInt_sub, Int32.toInt_mul, bm32, Int32.reduceToInt, Int64.reduceToInt, Nat.reduceLT, Nat.reduceEqDiff, reduceIte] at c_2
      cases e
      exact (QG.refl _)
    · rw [if_neg c_2] at e
      try simp (disch := omega) only [↓i_in, ↓i_isCouple, ↓i_isBridge, ↓i_isTheme, ↓i_isBarge, i_lt, i_le, i_eq, i_clamp, i_upd, i_m1, Int32.toInt_toInt64, Int32.toInt_add, Int32.toInt_sub, Int32.toInt_mul, bm32, Int32.reduceToInt, Int64.reduceToInt, Nat.reduceLT, Nat.reduceEqDiff, reduceIte] at c_2
      generalize x_3 : (f_m_best G f0 f10 f8 c_ b_) = z_4 at e
      obtain ⟨r_11, u_10⟩ := z_4
      replace e : ((r_11, u_10)) = (r, u) := e
      have p_5 := p_best h_0 (by first | omega | (simp (disch := omega) only [↓i_in, ↓i_isCouple, ↓i_isBridge, ↓i_isTheme, ↓i_isBarge, i_lt, i_le, i_eq, i_clamp, i_upd, i_m1, Int32.toInt_toInt64, Int32.toInt_add, Int32.toInt_sub, Int32.toInt_mul, bm32, Int32.reduceToInt, Int64.reduceToInt, Nat.reduceLT, Nat.reduceEqDiff, reduceIte] <;> omega)) (by first | omega | (simp (disch := omega) only [↓i_in, ↓i_isCouple, ↓i_isBridge, ↓i_isTheme, ↓i_isBarge, i_lt, i_le, i_eq, i_clamp, i_upd, i_m1, Int32.toInt_toInt64, Int32.toInt_add, Int32.toInt_sub, Int32.toInt_mul, bm32, Int32.reduceToInt, Int64.reduceToInt, Nat.reduceLT, Nat.reduceEqDiff, reduceIte] <;> omega)) (by first | omega | (simp (disch := omega) only [↓i_in, ↓i_isCouple, ↓i_isBridge, ↓i_isTheme, ↓i_isBarge, i_lt, i_le, i_eq, i_clamp, i_upd, i_m1, Int32.toInt_toInt64, Int32.toInt_add, Int32.toInt_sub, Int32.toInt_mul, bm32, Int32.reduceToInt, Int64.reduceToInt, Nat.reduceLT, Nat.reduceEqDiff, reduceIte] <;> omega)) (by first | omega | (simp (disch := omega) only [↓i_in, ↓i_isCouple, ↓i_isBridge, ↓i_isTheme, ↓i_isBarge, i_lt, i_le, i_eq, i_clamp, i_upd, i_m1, Int32.toInt_toInt64, Int32.toInt_add, Int32.toInt_sub, Int32.toInt_mul, bm32, Int32.reduceToInt, Int64.reduceToInt, Nat.reduceLT, Nat.reduceEqDiff, reduceIte] <;> omega)) _ _ x_3
      have i_6 := p_5
      obtain ⟨u_10_2, u_10_3, u_10_4, u_10_5, u_10_6, u_10_14, u_10_42⟩ := QGs i_6
      cases e
      exact i_6
set_option maxHeartbeats 4000000 in
theorem sl_layCosts_12 {G : Nat → Int32} {f0 : Nat → Int32} {f10 : Nat → Int32} {f8 : Nat → Int32} {w_1l1 : Int32} {K : Int32 → (Nat → Int32) → (Nat → Int32) → Prop} (h_0 : GI G) (h_1 : 0 ≤ w_1l1.toInt) (h_2 : w_1l1.toInt < 6) (hK : ∀ w_3l2 w_3m0 w_3m1, (QG G w_3m0 ∧ (0 ≤ w_3l2.toInt) ∧ (w_3l2.toInt ≤ 6)) → K w_3l2 w_3m0 w_3m1) : ∀ (n : Nat) w_3l2 w_3m0 w_3m1, (QG G w_3m0 ∧ (0 ≤ w_3l2.toInt) ∧ (w_3l2.toInt ≤ 6)) → (7 - w_3l2.toInt).toNat < n → S_m_layCosts_12 f0 f10 f8 w_1l1 K n w_3l2 w_3m0 w_3m1 := by
  have h_0_g := h_0
  obtain ⟨⟨h_0_2a, h_0_2b⟩, ⟨h_0_3a, h_0_3b⟩, ⟨h_0_4a, h_0_4b⟩, ⟨h_0_5a, h_0_5b⟩, ⟨h_0_6a, h_0_6b⟩, ⟨h_0_14a, h_0_14b⟩, ⟨h_0_42a, h_0_42b⟩⟩ := h_0_g
  intro n
  induction n with
  | zero => intro w_3l2 w_3m0 w_3m1 hI hm; exact absurd hm (Nat.not_lt_zero _)
  | succ n ih =>
    intro w_3l2 w_3m0 w_3m1 hI hm
    rw [S_m_layCosts_12_s]
    have hI0 := hI
    obtain ⟨i_1, i_2, i_3⟩ := hI0
    obtain ⟨w_3m0_2, w_3m0_3, w_3m0_4, w_3m0_5, w_3m0_6, w_3m0_14, w_3m0_42⟩ := QGs i_1
    refine ⟨fun c_4 => ?_, fun c_4 => ?_⟩
    · skip
      try simp (disch := omega) only [↓i_in, ↓i_isCouple, ↓i_isBridge, ↓i_isTheme, ↓i_isBarge, i_lt, i_le, i_eq, i_clamp, i_upd, i_m1, Int32.toInt_toInt64, Int32.toInt_add, Int32.toInt_sub, Int32.toInt_mul, bm32, Int32.reduceToInt, Int64.reduceToInt, Nat.reduceLT, Nat.reduceEqDiff, reduceIte, w_3m0_2, w_3m0_3, w_3m0_4, w_3m0_5, w_3m0_6, w_3m0_14, w_3m0_42] at c_4
      exact hK w_3l2 w_3m0 w_3m1 hI
    · skip
      try simp (disch := omega) only [↓i_in, ↓i_isCouple, ↓i_isBridge, ↓i_isTheme, ↓i_isBarge, i_lt, i_le, i_eq, i_clamp, i_upd, i_m1, Int32.toInt_toInt64, Int32.toInt_add, Int32.toInt_sub, Int32.toInt_mul, bm32, Int32.reduceToInt, Int64.reduceToInt, Nat.reduceLT, Nat.reduceEqDiff, reduceIte, w_3m0_2, w_3m0_3, w_3m0_4, w_3m0_5, w_3m0_6, w_3m0_14, w_3m0_42] at c_4
      refine ⟨(s_best (GI.of i_1 h_0) (by first | omega | (simp (disch := omega) only [↓i_in, ↓i_isCouple, ↓i_isBridge, ↓i_isTheme, ↓i_isBarge, i_lt, i_le, i_eq, i_clamp, i_upd, i_m1, Int32.toInt_toInt64, Int32.toInt_add, Int32.toInt_sub, Int32.toInt_mul, bm32, Int32.reduceToInt, Int64.reduceToInt, Nat.reduceLT, Nat.reduceEqDiff, reduceIte, w_3m0_2, w_3m0_3, w_3m0_4, w_3m0_5, w_3m0_6, w_3m0_14, w_3m0_42] <;> omega)) (by first | omega | (simp (disch := omega) only [↓i_in, ↓i_isCouple, ↓i_isBridge, ↓i_isTheme, ↓i_isBarge, i_lt, i_le, i_eq, i_clamp, i_upd, i_m1, Int32.toInt_toInt64, Int32.toInt_add, Int32.toInt_sub, Int32.toInt_mul, bm32, Int32.reduceToInt, Int64.reduceToInt, Nat.reduceLT, Nat.reduceEqDiff, reduceIte, w_3m0_2, w_3m0_3, w_3m0_4, w_3m0_5, w_3m0_6, w_3m0_14, w_3m0_42] <;> omega)) (by first | omega | (simp (disch := omega) only [↓i_in, ↓i_isCouple, ↓i_isBridge, ↓i_isTheme, ↓i_isBarge, i_lt, i_le, i_eq, i_clamp, i_upd, i_m1, Int32.toInt_toInt64, Int32.toInt_add, Int32.toInt_sub, Int32.toInt_mul, bm32, Int32.reduceToInt, Int64.reduceToInt, Nat.reduceLT, Nat.reduceEqDiff, reduceIte, w_3m0_2, w_3m0_3, w_3m0_4, w_3m0_5, w_3m0_6, w_3m0_14, w_3m0_42] <;> omega)) (by first | omega | (simp (disch := omega) only [↓i_in, ↓i_isCouple, ↓i_isBridge, ↓i_isTheme, ↓i_isBarge, i_lt, i_le, i_eq, i_clamp, i_upd, i_m1, Int32.toInt_toInt64, Int32.toInt_add, Int32.toInt_sub, Int32.toInt_mul, bm32, Int32.reduceToInt, Int64.reduceToInt, Nat.reduceLT, Nat.reduceEqDiff, reduceIte, w_3m0_2, w_3m0_3, w_3m0_4, w_3m0_5, w_3m0_6, w_3m0_14, w_3m0_42] <;> omega))), ?_⟩
      intro r_7 u_6 e_5
      have p_6 := p_best (GI.of i_1 h_0) (by first | omega | (simp (disch := omega) only [↓i_in, ↓i_isCouple, ↓i_isBridge, ↓i_isTheme, ↓i_isBarge, i_lt, i_le, i_eq, i_clamp, i_upd, i_m1, Int32.toInt_toInt64, Int32.toInt_add, Int32.toInt_sub, Int32.toInt_mul, bm32, Int32.reduceToInt, Int64.reduceToInt, Nat.reduceLT, Nat.reduceEqDiff, reduceIte, w_3m0_2, w_3m0_3, w_3m0_4, w_3m0_5, w_3m0_6, w_3m0_14, w_3m0_42] <;> omega)) (by first | omega | (simp (disch := omega) only [↓i_in, ↓i_isCouple, ↓i_isBridge, ↓i_isTheme, ↓i_isBarge, i_lt, i_le, i_eq, i_clamp, i_upd, i_m1, Int32.toInt_toInt64, Int32.toInt_add, Int32.toInt_sub, Int32.toInt_mul, bm32, Int32.reduceToInt, Int64.reduceToInt, Nat.reduceLT, Nat.reduceEqDiff, reduceIte, w_3m0_2, w_3m0_3, w_3m0_4, w_3m0_5, w_3m0_6, w_3m0_14, w_3m0_42] <;> omega)) (by first | omega | (simp (disch := omega) only [↓i_in, ↓i_isCouple, ↓i_isBridge, ↓i_isTheme, ↓i_isBarge, i_lt, i_le, i_eq, i_clamp, i_upd, i_m1, Int32.toInt_toInt64, Int32.toInt_add, Int32.toInt_sub, Int32.toInt_mul, bm32, Int32.reduceToInt, Int64.reduceToInt, Nat.reduceLT, Nat.reduceEqDiff, reduceIte, w_3m0_2, w_3m0_3, w_3m0_4, w_3m0_5, w_3m0_6, w_3m0_14, w_3m0_42] <;> omega)) (by first | omega | (simp (disch := omega) only [↓i_in, ↓i_isCouple, ↓i_isBridge, ↓i_isTheme, ↓i_isBarge, i_lt, i_le, i_eq, i_clamp, i_upd, i_m1, Int32.toInt_toInt64, Int32.toInt_add, Int32.toInt_sub, Int32.toInt_mul, bm32, Int32.reduceToInt, Int64.reduceToInt, Nat.reduceLT, Nat.reduceEqDiff, reduceIte, w_3m0_2, w_3m0_3, w_3m0_4, w_3m0_5, w_3m0_6, w_3m0_14, w_3m0_42] <;> omega)) _ _ e_5.symm
      have i_7 := p_6
      replace i_7 := QG.trans i_1 i_7
      obtain ⟨u_6_2, u_6_3, u_6_4, u_6_5, u_6_6, u_6_14, u_6_42⟩ := QGs i_7
      refine ⟨fun c_8 => ?_, fun c_8 => ?_⟩
      · skip
        try simp (disch := omega) only [↓i_in, ↓i_isCouple, ↓i_isBridge, ↓i_isTheme, ↓i_isBarge, i_lt, i_le, i_eq, i_clamp, i_upd, i_m1, Int32.toInt_toInt64, Int32.toInt_add, Int32.toInt_sub, Int32.toInt_mul, bm32, Int32.reduceToInt, Int64.reduceToInt, Nat.reduceLT, Nat.reduceEqDiff, reduceIte, w_3m0_2, w_3m0_3, w_3m0_4, w_3m0_5, w_3m0_6, w_3m0_14, w_3m0_42, u_6_2, u_6_3, u_6_4, u_6_5, u_6_6, u_6_14, u_6_42] at c_8
        refine ⟨vp_in_iff.mpr (by first | omega | (simp (disch := omega) only [↓i_in, ↓i_isCouple, ↓i_isBridge, ↓i_isTheme, ↓i_isBarge, i_lt, i_le, i_eq, i_clamp, i_upd, i_m1, Int32.toInt_toInt64, Int32.toInt_add, Int32.toInt_sub, Int32.toInt_mul, bm32, Int32.reduceToInt, Int64.reduceToInt, Nat.reduceLT, Nat.reduceEqDiff, reduceIte, w_3m0_2, w_3m0_3, w_3m0_4, w_3m0_5, w_3m0_6, w_3m0_14, w_3m0_42, u_6_2, u_6_3, u_6_4, u_6_5, u_6_6, u_6_14, u_6_42] <;> omega)), ?_⟩
        exact ih (w_3l2 + 1) u_6 (upd w_3m1 (((6 * w_1l1) + w_3l2) : Int32).toNatClampNeg 1000000000) (⟨i_7, (by first | omega | (simp (disch := omega) only [↓i_in, ↓i_isCouple, ↓i_isBridge, ↓i_isTheme, ↓i_isBarge, i_lt, i_le, i_eq, i_clamp, i_upd, i_m1, Int32.toInt_toInt64, Int32.toInt_add, Int32.toInt_sub, Int32.toInt_mul, bm32, Int32.reduceToInt, Int64.reduceToInt, Nat.reduceLT, Nat.reduceEqDiff, reduceIte, w_3m0_2, w_3m0_3, w_3m0_4, w_3m0_5, w_3m0_6, w_3m0_14, w_3m0_42, u_6_2, u_6_3, u_6_4, u_6_5, u_6_6, u_6_14, u_6_42] <;> omega)), (by first | omega | (simp (disch := omega) only [↓i_in, ↓i_isCouple, ↓i_isBridge, ↓i_isTheme, ↓i_isBarge, i_lt, i_le, i_eq, i_clamp, i_upd, i_m1, Int32.toInt_toInt64, Int32.toInt_add, Int32.toInt_sub, Int32.toInt_mul, bm32, Int32.reduceToInt, Int64.reduceToInt, Nat.reduceLT, Nat.reduceEqDiff, reduceIte, w_3m0_2, w_3m0_3, w_3m0_4, w_3m0_5, w_3m0_6, w_3m0_14, w_3m0_42, u_6_2, u_6_3, u_6_4, u_6_5, u_6_6, u_6_14, u_6_42] <;> omega))⟩) (by first | omega | (simp (disch := omega) only [↓i_in, ↓i_isCouple, ↓i_isBridge, ↓i_isTheme, ↓i_isBarge, i_lt, i_le, i_eq, i_clamp, i_upd, i_m1, Int32.toInt_toInt64, Int32.toInt_add, Int32.toInt_sub, Int32.toInt_mul, bm32, Int32.reduceToInt, Int64.reduceToInt, Nat.reduceLT, Nat.reduceEqDiff, reduceIte, w_3m0_2, w_3m0_3, w_3m0_4, w_3m0_5, w_3m0_6, w_3m0_14, w_3m0_42, u_6_2, u_6_3, u_6_4, u_6_5, u_6_6, u_6_14, u_6_42] <;> omega))
      · skip
        try simp (disch := omega) only [↓i_in, ↓i_isCouple, ↓i_isBridge, ↓i_isTheme, ↓i_isBarge, i_lt, i_le, i_eq, i_clamp, i_upd, i_m1, Int32.toInt_toInt64, Int32.toInt_add, Int32.toInt_sub, Int32.toInt_mul, bm32, Int32.reduceToInt, Int64.reduceToInt, Nat.reduceLT, Nat.reduceEqDiff, reduceIte, w_3m0_2, w_3m0_3, w_3m0_4, w_3m0_5, w_3m0_6, w_3m0_14, w_3m0_42, u_6_2, u_6_3, u_6_4, u_6_5, u_6_6, u_6_14, u_6_42] at c_8
        refine ⟨vp_in_iff.mpr (by first | omega | (simp (disch := omega) only [↓i_in, ↓i_isCouple, ↓i_isBridge, ↓i_isTheme, ↓i_isBarge, i_lt, i_le, i_eq, i_clamp, i_upd, i_m1, Int32.toInt_toInt64, Int32.toInt_add, Int32.toInt_sub, Int32.toInt_mul, bm32, Int32.reduceToInt, Int64.reduceToInt, Nat.reduceLT, Nat.reduceEqDiff, reduceIte, w_3m0_2, w_3m0_3, w_3m0_4, w_3m0_5, w_3m0_6, w_3m0_14, w_3m0_42, u_6_2, u_6_3, u_6_4, u_6_5, u_6_6, u_6_14, u_6_42] <;> omega)), ?_⟩
        exact ih (w_3l2 + 1) u_6 (upd w_3m1 (((6 * w_1l1) + w_3l2) : Int32).toNatClampNeg (u_6 35)) (⟨i_7, (by first | omega | (simp (disch := omega) only [↓i_in, ↓i_isCouple, ↓i_isBridge, ↓i_isTheme, ↓i_isBarge, i_lt, i_le, i_eq, i_clamp, i_upd, i_m1, Int32.toInt_toInt64, Int32.toInt_add, Int32.toInt_sub, Int32.toInt_mul, bm32, Int32.reduceToInt, Int64.reduceToInt, Nat.reduceLT, Nat.reduceEqDiff, reduceIte, w_3m0_2, w_3m0_3, w_3m0_4, w_3m0_5, w_3m0_6, w_3m0_14, w_3m0_42, u_6_2, u_6_3, u_6_4, u_6_5, u_6_6, u_6_14, u_6_42] <;> omega)), (by first | omega | (simp (disch := omega) only [↓i_in, ↓i_isCouple, ↓i_isBridge, ↓i_isTheme, ↓i_isBarge, i_lt, i_le, i_eq, i_clamp, i_upd, i_m1, Int32.toInt_toInt64, Int32.toInt_add, Int32.toInt_sub, Int32.toInt_mul, bm32, Int32.reduceToInt, Int64.reduceToInt, Nat.reduceLT, Nat.reduceEqDiff, reduceIte, w_3m0_2, w_3m0_3, w_3m0_4, w_3m0_5, w_3m0_6, w_3m0_14, w_3m0_42, u_6_2, u_6_3, u_6_4, u_6_5, u_6_6, u_6_14, u_6_42] <;> omega))⟩) (by first | omega | (simp (disch := omega) only [↓i_in, ↓i_isCouple, ↓i_isBridge, ↓i_isTheme, ↓i_isBarge, i_lt, i_le, i_eq, i_clamp, i_upd, i_m1, Int32.toInt_toInt64, Int32.toInt_add, Int32.toInt_sub, Int32.toInt_mul, bm32, Int32.reduceToInt, Int64.reduceToInt, Nat.reduceLT, Nat.reduceEqDiff, reduceIte, w_3m0_2, w_3m0_3, w_3m0_4, w_3m0_5, w_3m0_6, w_3m0_14, w_3m0_42, u_6_2, u_6_3, u_6_4, u_6_5, u_6_6, u_6_14, u_6_42] <;> omega))
set_option maxHeartbeats 4000000 in
theorem pl_layCosts_12 {G : Nat → Int32} {f0 : Nat → Int32} {f10 : Nat → Int32} {f8 : Nat → Int32} {w_1l1 : Int32} (h_0 : GI G) (h_1 : 0 ≤ w_1l1.toInt) (h_2 : w_1l1.toInt < 6) : ∀ (n : Nat) w_3l2 w_3m0 w_3m1, (QG G w_3m0 ∧ (0 ≤ w_3l2.toInt) ∧ (w_3l2.toInt ≤ 6)) → ∀ r0 r1 r2, f_m_layCosts_12 f0 f10 f8 w_1l1 n w_3l2 w_3m0 w_3m1 = (r0, r1, r2) → QG G r1 ∧ (0 ≤ r0.toInt) ∧ (r0.toInt ≤ 6) := by
  have h_0_g := h_0
  obtain ⟨⟨h_0_2a, h_0_2b⟩, ⟨h_0_3a, h_0_3b⟩, ⟨h_0_4a, h_0_4b⟩, ⟨h_0_5a, h_0_5b⟩, ⟨h_0_6a, h_0_6b⟩, ⟨h_0_14a, h_0_14b⟩, ⟨h_0_42a, h_0_42b⟩⟩ := h_0_g
  intro n
  induction n with
  | zero =>
    intro w_3l2 w_3m0 w_3m1 hI r0 r1 r2 e
    replace e : (w_3l2, w_3m0, w_3m1) = (r0, r1, r2) := e
    cases e
    exact hI
  | succ n ih =>
    intro w_3l2 w_3m0 w_3m1 hI r0 r1 r2 e
    rw [f_m_layCosts_12_s] at e
    have hI0 := hI
    obtain ⟨i_1, i_2, i_3⟩ := hI0
    obtain ⟨w_3m0_2, w_3m0_3, w_3m0_4, w_3m0_5, w_3m0_6, w_3m0_14, w_3m0_42⟩ := QGs i_1
    by_cases c_4 : (w_3m0 5) ≤ w_3l2
    · rw [if_pos c_4] at e
      try simp (disch := omega) only [↓i_in, ↓i_isCouple, ↓i_isBridge, ↓i_isTheme, ↓i_isBarge, i_lt, i_le, i_eq, i_clamp, i_upd, i_m1, Int32.toInt_toInt64, Int32.toInt_add, Int32.toInt_sub, Int32.toInt_mul, bm32, Int32.reduceToInt, Int64.reduceToInt, Nat.reduceLT, Nat.reduceEqDiff, reduceIte, w_3m0_2, w_3m0_3, w_3m0_4, w_3m0_5, w_3m0_6, w_3m0_14, w_3m0_42] at c_4
      cases e
      exact hI
    · rw [if_neg c_4] at e
      try simp (disch := omega) only [↓i_in, ↓i_isCouple, ↓i_isBridge, ↓i_isTheme, ↓i_isBarge, i_lt, i_le, i_eq, i_clamp, i_upd, i_m1, Int32.toInt_toInt64, Int32.toInt_add, Int32.toInt_sub, Int32.toInt_mul, bm32, Int32.reduceToInt, Int64.reduceToInt, Nat.reduceLT, Nat.reduceEqDiff, reduceIte, w_3m0_2, w_3m0_3, w_3m0_4, w_3m0_5, w_3m0_6, w_3m0_14, w_3m0_42] at c_4
      generalize x_5 : (f_m_best w_3m0 f0 f10 f8 w_3l2 w_1l1) = z_6 at e
      obtain ⟨r_7, u_6⟩ := z_6
      replace e : ((if r_7 = (-1) then (f_m_layCosts_12 f0 f10 f8 w_1l1 n (w_3l2 + 1) u_6 (upd w_3m1 (((6 * w_1l1) + w_3l2) : Int32).toNatClampNeg 1000000000)) else (f_m_layCosts_12 f0 f10 f8 w_1l1 n (w_3l2 + 1) u_6 (upd w_3m1 (((6 * w_1l1) + w_3l2) : Int32).toNatClampNeg (u_6 35))))) = (r0, r1, r2) := e
      have p_7 := p_best (GI.of i_1 h_0) (by first | omega | (simp (disch := omega) only [↓i_in, ↓i_isCouple, ↓i_isBridge, ↓i_isTheme, ↓i_isBarge, i_lt, i_le, i_eq, i_clamp, i_upd, i_m1, Int32.toInt_toInt64, Int32.toInt_add, Int32.toInt_sub, Int32.toInt_mul, bm32, Int32.reduceToInt, Int64.reduceToInt, Nat.reduceLT, Nat.reduceEqDiff, reduceIte, w_3m0_2, w_3m0_3, w_3m0_4, w_3m0_5, w_3m0_6, w_3m0_14, w_3m0_42] <;> omega)) (by first | omega | (simp (disch := omega) only [↓i_in, ↓i_isCouple, ↓i_isBridge, ↓i_isTheme, ↓i_isBarge, i_lt, i_le, i_eq, i_clamp, i_upd, i_m1, Int32.toInt_toInt64, Int32.toInt_add, Int32.toInt_sub, Int32.toInt_mul, bm32, Int32.reduceToInt, Int64.reduceToInt, Nat.reduceLT, Nat.reduceEqDiff, reduceIte, w_3m0_2, w_3m0_3, w_3m0_4, w_3m0_5, w_3m0_6, w_3m0_14, w_3m0_42] <;> omega)) (by first | omega | (simp (disch := omega) only [↓i_in, ↓i_isCouple, ↓i_isBridge, ↓i_isTheme, ↓i_isBarge, i_lt, i_le, i_eq, i_clamp, i_upd, i_m1, Int32.toInt_toInt64, Int32.toInt_add, Int32.toInt_sub, Int32.toInt_mul, bm32, Int32.reduceToInt, Int64.reduceToInt, Nat.reduceLT, Nat.reduceEqDiff, reduceIte, w_3m0_2, w_3m0_3, w_3m0_4, w_3m0_5, w_3m0_6, w_3m0_14, w_3m0_42] <;> omega)) (by first | omega | (simp (disch := omega) only [↓i_in, ↓i_isCouple, ↓i_isBridge, ↓i_isTheme, ↓i_isBarge, i_lt, i_le, i_eq, i_clamp, i_upd, i_m1, Int32.toInt_toInt64, Int32.toInt_add, Int32.toInt_sub, Int32.toInt_mul, bm32, Int32.reduceToInt, Int64.reduceToInt, Nat.reduceLT, Nat.reduceEqDiff, reduceIte, w_3m0_2, w_3m0_3, w_3m0_4, w_3m0_5, w_3m0_6, w_3m0_14, w_3m0_42] <;> omega)) _ _ x_5
      have i_8 := p_7
      replace i_8 := QG.trans i_1 i_8
      obtain ⟨u_6_2, u_6_3, u_6_4, u_6_5, u_6_6, u_6_14, u_6_42⟩ := QGs i_8
      by_cases c_9 : r_7 = (-1)
      · rw [if_pos c_9] at e
        try simp (disch := omega) only [↓i_in, ↓i_isCouple, ↓i_isBridge, ↓i_isTheme, ↓i_isBarge, i_lt, i_le, i_eq, i_clamp, i_upd, i_m1, Int32.toInt_toInt64, Int32.toInt_add, Int32.toInt_sub, Int32.toInt_mul, bm32, Int32.reduceToInt, Int64.reduceToInt, Nat.reduceLT, Nat.reduceEqDiff, reduceIte, w_3m0_2, w_3m0_3, w_3m0_4, w_3m0_5, w_3m0_6, w_3m0_14, w_3m0_42, u_6_2, u_6_3, u_6_4, u_6_5, u_6_6, u_6_14, u_6_42] at c_9
        exact ih (w_3l2 + 1) u_6 (upd w_3m1 (((6 * w_1l1) + w_3l2) : Int32).toNatClampNeg 1000000000) (⟨i_8, (by first | omega | (simp (disch := omega) only [↓i_in, ↓i_isCouple, ↓i_isBridge, ↓i_isTheme, ↓i_isBarge, i_lt, i_le, i_eq, i_clamp, i_upd, i_m1, Int32.toInt_toInt64, Int32.toInt_add, Int32.toInt_sub, Int32.toInt_mul, bm32, Int32.reduceToInt, Int64.reduceToInt, Nat.reduceLT, Nat.reduceEqDiff, reduceIte, w_3m0_2, w_3m0_3, w_3m0_4, w_3m0_5, w_3m0_6, w_3m0_14, w_3m0_42, u_6_2, u_6_3, u_6_4, u_6_5, u_6_6, u_6_14, u_6_42] <;> omega)), (by first | omega | (simp (disch := omega) only [↓i_in, ↓i_isCouple, ↓i_isBridge, ↓i_isTheme, ↓i_isBarge, i_lt, i_le, i_eq, i_clamp, i_upd, i_m1, Int32.toInt_toInt64, Int32.toInt_add, Int32.toInt_sub, Int32.toInt_mul, bm32, Int32.reduceToInt, Int64.reduceToInt, Nat.reduceLT, Nat.reduceEqDiff, reduceIte, w_3m0_2, w_3m0_3, w_3m0_4, w_3m0_5, w_3m0_6, w_3m0_14, w_3m0_42, u_6_2, u_6_3, u_6_4, u_6_5, u_6_6, u_6_14, u_6_42] <;> omega))⟩) _ _ _ e
      · rw [if_neg c_9] at e
        try simp (disch := omega) only [↓i_in, ↓i_isCouple, ↓i_isBridge, ↓i_isTheme, ↓i_isBarge, i_lt, i_le, i_eq, i_clamp, i_upd, i_m1, Int32.toInt_toInt64, Int32.toInt_add, Int32.toInt_sub, Int32.toInt_mul, bm32, Int32.reduceToInt, Int64.reduceToInt, Nat.reduceLT, Nat.reduceEqDiff, reduceIte, w_3m0_2, w_3m0_3, w_3m0_4, w_3m0_5, w_3m0_6, w_3m0_14, w_3m0_42, u_6_2, u_6_3, u_6_4, u_6_5, u_6_6, u_6_14, u_6_42] at c_9
        exact ih (w_3l2 + 1) u_6 (upd w_3m1 (((6 * w_1l1) + w_3l2) : Int32).toNatClampNeg (u_6 35)) (⟨i_8, (by first | omega | (simp (disch := omega) only [↓i_in, ↓i_isCouple, ↓i_isBridge, ↓i_isTheme, ↓i_isBarge, i_lt, i_le, i_eq, i_clamp, i_upd, i_m1, Int32.toInt_toInt64, Int32.toInt_add, Int32.toInt_sub, Int32.toInt_mul, bm32, Int32.reduceToInt, Int64.reduceToInt, Nat.reduceLT, Nat.reduceEqDiff, reduceIte, w_3m0_2, w_3m0_3, w_3m0_4, w_3m0_5, w_3m0_6, w_3m0_14, w_3m0_42, u_6_2, u_6_3, u_6_4, u_6_5, u_6_6, u_6_14, u_6_42] <;> omega)), (by first | omega | (simp (disch := omega) only [↓i_in, ↓i_isCouple, ↓i_isBridge, ↓i_isTheme, ↓i_isBarge, i_lt, i_le, i_eq, i_clamp, i_upd, i_m1, Int32.toInt_toInt64, Int32.toInt_add, Int32.toInt_sub, Int32.toInt_mul, bm32, Int32.reduceToInt, Int64.reduceToInt, Nat.reduceLT, Nat.reduceEqDiff, reduceIte, w_3m0_2, w_3m0_3, w_3m0_4, w_3m0_5, w_3m0_6, w_3m0_14, w_3m0_42, u_6_2, u_6_3, u_6_4, u_6_5, u_6_6, u_6_14, u_6_42] <;> omega))⟩) _ _ _ e
set_option maxHeartbeats 4000000 in
theorem sl_layCosts_2 {G : Nat → Int32} {f0 : Nat → Int32} {f10 : Nat → Int32} {f8 : Nat → Int32} {K : Int32 → (Nat → Int32) → (Nat → Int32) → Prop} (h_0 : GI G) (hK : ∀ w_1l1 w_1m0 w_1m1, (QG G w_1m0 ∧ (0 ≤ w_1l1.toInt) ∧ (w_1l1.toInt ≤ 6)) → K w_1l1 w_1m0 w_1m1) : ∀ (n : Nat) w_1l1 w_1m0 w_1m1, (QG G w_1m0 ∧ (0 ≤ w_1l1.toInt) ∧ (w_1l1.toInt ≤ 6)) → (7 - w_1l1.toInt).toNat < n → S_m_layCosts_2 f0 f10 f8 K n w_1l1 w_1m0 w_1m1 := by
  have h_0_g := h_0
  obtain ⟨⟨h_0_2a, h_0_2b⟩, ⟨h_0_3a, h_0_3b⟩, ⟨h_0_4a, h_0_4b⟩, ⟨h_0_5a, h_0_5b⟩, ⟨h_0_6a, h_0_6b⟩, ⟨h_0_14a, h_0_14b⟩, ⟨h_0_42a, h_0_42b⟩⟩ := h_0_g
  intro n
  induction n with
  | zero => intro w_1l1 w_1m0 w_1m1 hI hm; exact absurd hm (Nat.not_lt_zero _)
  | succ n ih =>
    intro w_1l1 w_1m0 w_1m1 hI hm
    rw [S_m_layCosts_2_s]
    have hI0 := hI
    obtain ⟨i_1, i_2, i_3⟩ := hI0
    obtain ⟨w_1m0_2, w_1m0_3, w_1m0_4, w_1m0_5, w_1m0_6, w_1m0_14, w_1m0_42⟩ := QGs i_1
    refine ⟨fun c_4 => ?_, fun c_4 => ?_⟩
    · skip
      try simp (disch := omega) only [↓i_in, ↓i_isCouple, ↓i_isBridge, ↓i_isTheme, ↓i_isBarge, i_lt, i_le, i_eq, i_clamp, i_upd, i_m1, Int32.toInt_toInt64, Int32.toInt_add, Int32.toInt_sub, Int32.toInt_mul, bm32, Int32.reduceToInt, Int64.reduceToInt, Nat.reduceLT, Nat.reduceEqDiff, reduceIte, w_1m0_2, w_1m0_3, w_1m0_4, w_1m0_5, w_1m0_6, w_1m0_14, w_1m0_42] at c_4
      exact hK w_1l1 w_1m0 w_1m1 hI
    · skip
      try simp (disch := omega) only [↓i_in, ↓i_isCouple, ↓i_isBridge, ↓i_isTheme, ↓i_isBarge, i_lt, i_le, i_eq, i_clamp, i_upd, i_m1, Int32.toInt_toInt64, Int32.toInt_add, Int32.toInt_sub, Int32.toInt_mul, bm32, Int32.reduceToInt, Int64.reduceToInt, Nat.reduceLT, Nat.reduceEqDiff, reduceIte, w_1m0_2, w_1m0_3, w_1m0_4, w_1m0_5, w_1m0_6, w_1m0_14, w_1m0_42] at c_4
      refine sl_layCosts_12 h_0 (by first | omega | (simp (disch := omega) only [↓i_in, ↓i_isCouple, ↓i_isBridge, ↓i_isTheme, ↓i_isBarge, i_lt, i_le, i_eq, i_clamp, i_upd, i_m1, Int32.toInt_toInt64, Int32.toInt_add, Int32.toInt_sub, Int32.toInt_mul, bm32, Int32.reduceToInt, Int64.reduceToInt, Nat.reduceLT, Nat.reduceEqDiff, reduceIte, w_1m0_2, w_1m0_3, w_1m0_4, w_1m0_5, w_1m0_6, w_1m0_14, w_1m0_42] <;> omega)) (by first | omega | (simp (disch := omega) only [↓i_in, ↓i_isCouple, ↓i_isBridge, ↓i_isTheme, ↓i_isBarge, i_lt, i_le, i_eq, i_clamp, i_upd, i_m1, Int32.toInt_toInt64, Int32.toInt_add, Int32.toInt_sub, Int32.toInt_mul, bm32, Int32.reduceToInt, Int64.reduceToInt, Nat.reduceLT, Nat.reduceEqDiff, reduceIte, w_1m0_2, w_1m0_3, w_1m0_4, w_1m0_5, w_1m0_6, w_1m0_14, w_1m0_42] <;> omega)) ?_ 10 0 w_1m0 w_1m1 (⟨i_1, (by first | omega | (simp (disch := omega) only [↓i_in, ↓i_isCouple, ↓i_isBridge, ↓i_isTheme, ↓i_isBarge, i_lt, i_le, i_eq, i_clamp, i_upd, i_m1, Int32.toInt_toInt64, Int32.toInt_add, Int32.toInt_sub, Int32.toInt_mul, bm32, Int32.reduceToInt, Int64.reduceToInt, Nat.reduceLT, Nat.reduceEqDiff, reduceIte, w_1m0_2, w_1m0_3, w_1m0_4, w_1m0_5, w_1m0_6, w_1m0_14, w_1m0_42] <;> omega)), (by first | omega | (simp (disch := omega) only [↓i_in, ↓i_isCouple, ↓i_isBridge, ↓i_isTheme, ↓i_isBarge, i_lt, i_le, i_eq, i_clamp, i_upd, i_m1, Int32.toInt_toInt64, Int32.toInt_add, Int32.toInt_sub, Int32.toInt_mul, bm32, Int32.reduceToInt, Int64.reduceToInt, Nat.reduceLT, Nat.reduceEqDiff, reduceIte, w_1m0_2, w_1m0_3, w_1m0_4, w_1m0_5, w_1m0_6, w_1m0_14, w_1m0_42] <;> omega))⟩) (by first | omega | (simp (disch := omega) only [↓i_in, ↓i_isCouple, ↓i_isBridge, ↓i_isTheme, ↓i_isBarge, i_lt, i_le, i_eq, i_clamp, i_upd, i_m1, Int32.toInt_toInt64, Int32.toInt_add, Int32.toInt_sub, Int32.toInt_mul, bm32, Int32.reduceToInt, Int64.reduceToInt, Nat.reduceLT, Nat.reduceEqDiff, reduceIte, w_1m0_2, w_1m0_3, w_1m0_4, w_1m0_5, w_1m0_6, w_1m0_14, w_1m0_42] <;> omega))
      intro w_3l2 w_3m0 w_3m1 i_5
      obtain ⟨i_6, i_7, i_8⟩ := i_5
      obtain ⟨w_3m0_2, w_3m0_3, w_3m0_4, w_3m0_5, w_3m0_6, w_3m0_14, w_3m0_42⟩ := QGs i_6
      exact ih (w_1l1 + 1) w_3m0 w_3m1 (⟨i_6, (by first | omega | (simp (disch := omega) only [↓i_in, ↓i_isCouple, ↓i_isBridge, ↓i_isTheme, ↓i_isBarge, i_lt, i_le, i_eq, i_clamp, i_upd, i_m1, Int32.toInt_toInt64, Int32.toInt_add, Int32.toInt_sub, Int32.toInt_mul, bm32, Int32.reduceToInt, Int64.reduceToInt, Nat.reduceLT, Nat.reduceEqDiff, reduceIte, w_1m0_2, w_1m0_3, w_1m0_4, w_1m0_5, w_1m0_6, w_1m0_14, w_1m0_42, w_3m0_2, w_3m0_3, w_3m0_4, w_3m0_5, w_3m0_6, w_3m0_14, w_3m0_42] <;> omega)), (by first | omega | (simp (disch := omega) only [↓i_in, ↓i_isCouple, ↓i_isBridge, ↓i_isTheme, ↓i_isBarge, i_lt, i_le, i_eq, i_clamp, i_upd, i_m1, Int32.toInt_toInt64, Int32.toInt_add, Int32.toInt_sub, Int32.toInt_mul, bm32, Int32.reduceToInt, Int64.reduceToInt, Nat.reduceLT, Nat.reduceEqDiff, reduceIte, w_1m0_2, w_1m0_3, w_1m0_4, w_1m0_5, w_1m0_6, w_1m0_14, w_1m0_42, w_3m0_2, w_3m0_3, w_3m0_4, w_3m0_5, w_3m0_6, w_3m0_14, w_3m0_42] <;> omega))⟩) (by first | omega | (simp (disch := omega) only [↓i_in, ↓i_isCouple, ↓i_isBridge, ↓i_isTheme, ↓i_isBarge, i_lt, i_le, i_eq, i_clamp, i_upd, i_m1, Int32.toInt_toInt64, Int32.toInt_add, Int32.toInt_sub, Int32.toInt_mul, bm32, Int32.reduceToInt, Int64.reduceToInt, Nat.reduceLT, Nat.reduceEqDiff, reduceIte, w_1m0_2, w_1m0_3, w_1m0_4, w_1m0_5, w_1m0_6, w_1m0_14, w_1m0_42, w_3m0_2, w_3m0_3, w_3m0_4, w_3m0_5, w_3m0_6, w_3m0_14, w_3m0_42] <;> omega))
set_option maxHeartbeats 4000000 in
theorem pl_layCosts_2 {G : Nat → Int32} {f0 : Nat → Int32} {f10 : Nat → Int32} {f8 : Nat → Int32} (h_0 : GI G) : ∀ (n : Nat) w_1l1 w_1m0 w_1m1, (QG G w_1m0 ∧ (0 ≤ w_1l1.toInt) ∧ (w_1l1.toInt ≤ 6)) → ∀ r0 r1 r2, f_m_layCosts_2 f0 f10 f8 n w_1l1 w_1m0 w_1m1 = (r0, r1, r2) → QG G r1 ∧ (0 ≤ r0.toInt) ∧ (r0.toInt ≤ 6) := by
  have h_0_g := h_0
  obtain ⟨⟨h_0_2a, h_0_2b⟩, ⟨h_0_3a, h_0_3b⟩, ⟨h_0_4a, h_0_4b⟩, ⟨h_0_5a, h_0_5b⟩, ⟨h_0_6a, h_0_6b⟩, ⟨h_0_14a, h_0_14b⟩, ⟨h_0_42a, h_0_42b⟩⟩ := h_0_g
  intro n
  induction n with
  | zero =>
    intro w_1l1 w_1m0 w_1m1 hI r0 r1 r2 e
    replace e : (w_1l1, w_1m0, w_1m1) = (r0, r1, r2) := e
    cases e
    exact hI
  | succ n ih =>
    intro w_1l1 w_1m0 w_1m1 hI r0 r1 r2 e
    rw [f_m_layCosts_2_s] at e
    have hI0 := hI
    obtain ⟨i_1, i_2, i_3⟩ := hI0
    obtain ⟨w_1m0_2, w_1m0_3, w_1m0_4, w_1m0_5, w_1m0_6, w_1m0_14, w_1m0_42⟩ := QGs i_1
    by_cases c_4 : (w_1m0 3) ≤ w_1l1
    · rw [if_pos c_4] at e
      try simp (disch := omega) only [↓i_in, ↓i_isCouple, ↓i_isBridge, ↓i_isTheme, ↓i_isBarge, i_lt, i_le, i_eq, i_clamp, i_upd, i_m1, Int32.toInt_toInt64, Int32.toInt_add, Int32.toInt_sub, Int32.toInt_mul, bm32, Int32.reduceToInt, Int64.reduceToInt, Nat.reduceLT, Nat.reduceEqDiff, reduceIte, w_1m0_2, w_1m0_3, w_1m0_4, w_1m0_5, w_1m0_6, w_1m0_14, w_1m0_42] at c_4
      cases e
      exact hI
    · rw [if_neg c_4] at e
      try simp (disch := omega) only [↓i_in, ↓i_isCouple, ↓i_isBridge, ↓i_isTheme, ↓i_isBarge, i_lt, i_le, i_eq, i_clamp, i_upd, i_m1, Int32.toInt_toInt64, Int32.toInt_add, Int32.toInt_sub, Int32.toInt_mul, bm32, Int32.reduceToInt, Int64.reduceToInt, Nat.reduceLT, Nat.reduceEqDiff, reduceIte, w_1m0_2, w_1m0_3, w_1m0_4, w_1m0_5, w_1m0_6, w_1m0_14, w_1m0_42] at c_4
      generalize x_5 : (f_m_layCosts_12 f0 f10 f8 w_1l1 10 0 w_1m0 w_1m1) = z_6 at e
      obtain ⟨w_3l2, w_3m0, w_3m1⟩ := z_6
      replace e : ((f_m_layCosts_2 f0 f10 f8 n (w_1l1 + 1) w_3m0 w_3m1)) = (r0, r1, r2) := e
      have p_7 := pl_layCosts_12 h_0 (by first | omega | (simp (disch := omega) only [↓i_in, ↓i_isCouple, ↓i_isBridge, ↓i_isTheme, ↓i_isBarge, i_lt, i_le, i_eq, i_clamp, i_upd, i_m1, Int32.toInt_toInt64, Int32.toInt_add, Int32.toInt_sub, Int32.toInt_mul, bm32, Int32.reduceToInt, Int64.reduceToInt, Nat.reduceLT, Nat.reduceEqDiff, reduceIte, w_1m0_2, w_1m0_3, w_1m0_4, w_1m0_5, w_1m0_6, w_1m0_14, w_1m0_42] <;> omega)) (by first | omega | (simp (disch := omega) only [↓i_in, ↓i_isCouple, ↓i_isBridge, ↓i_isTheme, ↓i_isBarge, i_lt, i_le, i_eq, i_clamp, i_upd, i_m1, Int32.toInt_toInt64, Int32.toInt_add, Int32.toInt_sub, Int32.toInt_mul, bm32, Int32.reduceToInt, Int64.reduceToInt, Nat.reduceLT, Nat.reduceEqDiff, reduceIte, w_1m0_2, w_1m0_3, w_1m0_4, w_1m0_5, w_1m0_6, w_1m0_14, w_1m0_42] <;> omega)) 10 0 w_1m0 w_1m1 (⟨i_1, (by first | omega | (simp (disch := omega) only [↓i_in, ↓i_isCouple, ↓i_isBridge, ↓i_isTheme, ↓i_isBarge, i_lt, i_le, i_eq, i_clamp, i_upd, i_m1, Int32.toInt_toInt64, Int32.toInt_add, Int32.toInt_sub, Int32.toInt_mul, bm32, Int32.reduceToInt, Int64.reduceToInt, Nat.reduceLT, Nat.reduceEqDiff, reduceIte, w_1m0_2, w_1m0_3, w_1m0_4, w_1m0_5, w_1m0_6, w_1m0_14, w_1m0_42] <;> omega)), (by first | omega | (simp (disch := omega) only [↓i_in, ↓i_isCouple, ↓i_isBridge, ↓i_isTheme, ↓i_isBarge, i_lt, i_le, i_eq, i_clamp, i_upd, i_m1, Int32.toInt_toInt64, Int32.toInt_add, Int32.toInt_sub, Int32.toInt_mul, bm32, Int32.reduceToInt, Int64.reduceToInt, Nat.reduceLT, Nat.reduceEqDiff, reduceIte, w_1m0_2, w_1m0_3, w_1m0_4, w_1m0_5, w_1m0_6, w_1m0_14, w_1m0_42] <;> omega))⟩) _ _ _ x_5
      obtain ⟨i_8, i_9, i_10⟩ := p_7
      obtain ⟨w_3m0_2, w_3m0_3, w_3m0_4, w_3m0_5, w_3m0_6, w_3m0_14, w_3m0_42⟩ := QGs i_8
      exact ih (w_1l1 + 1) w_3m0 w_3m1 (⟨i_8, (by first | omega | (simp (disch := omega) only [↓i_in, ↓i_isCouple, ↓i_isBridge, ↓i_isTheme, ↓i_isBarge, i_lt, i_le, i_eq, i_clamp, i_upd, i_m1, Int32.toInt_toInt64, Int32.toInt_add, Int32.toInt_sub, Int32.toInt_mul, bm32, Int32.reduceToInt, Int64.reduceToInt, Nat.reduceLT, Nat.reduceEqDiff, reduceIte, w_1m0_2, w_1m0_3, w_1m0_4, w_1m0_5, w_1m0_6, w_1m0_14, w_1m0_42, w_3m0_2, w_3m0_3, w_3m0_4, w_3m0_5, w_3m0_6, w_3m0_14, w_3m0_42] <;> omega)), (by first | omega | (simp (disch := omega) only [↓i_in, ↓i_isCouple, ↓i_isBridge, ↓i_isTheme, ↓i_isBarge, i_lt, i_le, i_eq, i_clamp, i_upd, i_m1, Int32.toInt_toInt64, Int32.toInt_add, Int32.toInt_sub, Int32.toInt_mul, bm32, Int32.reduceToInt, Int64.reduceToInt, Nat.reduceLT, Nat.reduceEqDiff, reduceIte, w_1m0_2, w_1m0_3, w_1m0_4, w_1m0_5, w_1m0_6, w_1m0_14, w_1m0_42, w_3m0_2, w_3m0_3, w_3m0_4, w_3m0_5, w_3m0_6, w_3m0_14, w_3m0_42] <;> omega))⟩) _ _ _ e
set_option maxHeartbeats 4000000 in
theorem s_layCosts {G : Nat → Int32} {f0 : Nat → Int32} {f10 : Nat → Int32} {f8 : Nat → Int32} {f37 : Nat → Int32} (h_0 : GI G) : S_m_layCosts G f0 f10 f8 f37 := by
  unfold S_m_layCosts
  have h_0_g := h_0
  obtain ⟨⟨h_0_2a, h_0_2b⟩, ⟨h_0_3a, h_0_3b⟩, ⟨h_0_4a, h_0_4b⟩, ⟨h_0_5a, h_0_5b⟩, ⟨h_0_6a, h_0_6b⟩, ⟨h_0_14a, h_0_14b⟩, ⟨h_0_42a, h_0_42b⟩⟩ := h_0_g
  refine sl_layCosts_2 h_0 ?_ 10 0 G f37 (⟨(QG.refl _), (by first | omega | (simp (disch := omega) only [↓i_in, ↓i_isCouple, ↓i_isBridge, ↓i_isTheme, ↓i_isBarge, i_lt, i_le, i_eq, i_clamp, i_upd, i_m1, Int32.toInt_toInt64, Int32.toInt_add, Int32.toInt_sub, Int32.toInt_mul, bm32, Int32.reduceToInt, Int64.reduceToInt, Nat.reduceLT, Nat.reduceEqDiff, reduceIte] <;> omega)), (by first | omega | (simp (disch := omega) only [↓i_in, ↓i_isCouple, ↓i_isBridge, ↓i_isTheme, ↓i_isBarge, i_lt, i_le, i_eq, i_clamp, i_upd, i_m1, Int32.toInt_toInt64, Int32.toInt_add, Int32.toInt_sub, Int32.toInt_mul, bm32, Int32.reduceToInt, Int64.reduceToInt, Nat.reduceLT, Nat.reduceEqDiff, reduceIte] <;> omega))⟩) (by first | omega | (simp (disch := omega) only [↓i_in, ↓i_isCouple, ↓i_isBridge, ↓i_isTheme, ↓i_isBarge, i_lt, i_le, i_eq, i_clamp, i_upd, i_m1, Int32.toInt_toInt64, Int32.toInt_add, Int32.toInt_sub, Int32.toInt_mul, bm32, Int32.reduceToInt, Int64.reduceToInt, Nat.reduceLT, Nat.reduceEqDiff, reduceIte] <;> omega))
  intro w_1l1 w_1m0 w_1m1 i_1
  obtain ⟨i_2, i_3, i_4⟩ := i_1
  obtain ⟨w_1m0_2, w_1m0_3, w_1m0_4, w_1m0_5, w_1m0_6, w_1m0_14, w_1m0_42⟩ := QGs i_2
  exact trivial
set_option maxHeartbeats 4000000 in
theorem p_layCosts {G : Nat → Int32} {f0 : Nat → Int32} {f10 : Nat → Int32} {f8 : Nat → Int32} {f37 : Nat → Int32} (h_0 : GI G) : ∀ (u : (Nat → Int32)) (v : (Nat → Int32)), f_m_layCosts G f0 f10 f8 f37 = (u, v) → QG G u := by
  have h_0_g := h_0
  obtain ⟨⟨h_0_2a, h_0_2b⟩, ⟨h_0_3a, h_0_3b⟩, ⟨h_0_4a, h_0_4b⟩, ⟨h_0_5a, h_0_5b⟩, ⟨h_0_6a, h_0_6b⟩, ⟨h_0_14a, h_0_14b⟩, ⟨h_0_42a, h_0_42b⟩⟩ := h_0_g
  intro u v e
  unfold f_m_layCosts at e
  generalize x_1 : (f_m_layCosts_2 f0 f10 f8 10 0 G f37) = z_2 at e
  obtain ⟨w_1l1, w_1m0, w_1m1⟩ := z_2
  replace e : ((w_1m0, w_1m1)) = (u, v) := e
  have p_3 := pl_layCosts_2 h_0 10 0 G f37 (⟨(QG.refl _), (by first | omega | (simp (disch := omega) only [↓i_in, ↓i_isCouple, ↓i_isBridge, ↓i_isTheme, ↓i_isBarge, i_lt, i_le, i_eq, i_clamp, i_upd, i_m1, Int32.toInt_toInt64, Int32.toInt_add, Int32.toInt_sub, Int32.toInt_mul, bm32, Int32.reduceToInt, Int64.reduceToInt, Nat.reduceLT, Nat.reduceEqDiff, reduceIte] <;> omega)), (by first | omega | (simp (disch := omega) only [↓i_in, ↓i_isCouple, ↓i_isBridge, ↓i_isTheme, ↓i_isBarge, i_lt, i_le, i_eq, i_clamp, i_upd, i_m1, Int32.toInt_toInt64, Int32.toInt_add, Int32.toInt_sub, Int32.toInt_mul, bm32, Int32.reduceToInt, Int64.reduceToInt, Nat.reduceLT, Nat.reduceEqDiff, reduceIte] <;> omega))⟩) _ _ _ x_1
  obtain ⟨i_4, i_5, i_6⟩ := p_3
  obtain ⟨w_1m0_2, w_1m0_3, w_1m0_4, w_1m0_5, w_1m0_6, w_1m0_14, w_1m0_42⟩ := QGs i_4
  cases e
  exact i_4
set_option maxHeartbeats 4000000 in
theorem sl_wornOut_22 {G : Nat → Int32} {f0 : Nat → Int32} {f10 : Nat → Int32} {w_1l3 : Int32} {K : Int32 → Int32 → (Nat → Int32) → Prop} (h_0 : GI G) (h_1 : 0 ≤ w_1l3.toInt) (h_2 : w_1l3.toInt < 6) (hK : ∀ w_3l5 w_3l4 w_3m0, (QG G w_3m0 ∧ (0 ≤ w_3l5.toInt) ∧ (w_3l5.toInt ≤ 5)) → K w_3l5 w_3l4 w_3m0) : ∀ (n : Nat) w_3l5 w_3l4 w_3m0, (QG G w_3m0 ∧ (0 ≤ w_3l5.toInt) ∧ (w_3l5.toInt ≤ 5)) → (6 - w_3l5.toInt).toNat < n → S_m_wornOut_22 f0 f10 w_1l3 K n w_3l5 w_3l4 w_3m0 := by
  have h_0_g := h_0
  obtain ⟨⟨h_0_2a, h_0_2b⟩, ⟨h_0_3a, h_0_3b⟩, ⟨h_0_4a, h_0_4b⟩, ⟨h_0_5a, h_0_5b⟩, ⟨h_0_6a, h_0_6b⟩, ⟨h_0_14a, h_0_14b⟩, ⟨h_0_42a, h_0_42b⟩⟩ := h_0_g
  intro n
  induction n with
  | zero => intro w_3l5 w_3l4 w_3m0 hI hm; exact absurd hm (Nat.not_lt_zero _)
  | succ n ih =>
    intro w_3l5 w_3l4 w_3m0 hI hm
    rw [S_m_wornOut_22_s]
    have hI0 := hI
    obtain ⟨i_1, i_2, i_3⟩ := hI0
    obtain ⟨w_3m0_2, w_3m0_3, w_3m0_4, w_3m0_5, w_3m0_6, w_3m0_14, w_3m0_42⟩ := QGs i_1
    refine ⟨fun c_4 => ?_, fun c_4 => ?_⟩
    · skip
      try simp (disch := omega) only [↓i_in, ↓i_isCouple, ↓i_isBridge, ↓i_isTheme, ↓i_isBarge, i_lt, i_le, i_eq, i_clamp, i_upd, i_m1, Int32.toInt_toInt64, Int32.toInt_add, Int32.toInt_sub, Int32.toInt_mul, bm32, Int32.reduceToInt, Int64.reduceToInt, Nat.reduceLT, Nat.reduceEqDiff, reduceIte, w_3m0_2, w_3m0_3, w_3m0_4, w_3m0_5, w_3m0_6, w_3m0_14, w_3m0_42] at c_4
      exact hK w_3l5 w_3l4 w_3m0 hI
    · skip
      try simp (disch := omega) only [↓i_in, ↓i_isCouple, ↓i_isBridge, ↓i_isTheme, ↓i_isBarge, i_lt, i_le, i_eq, i_clamp, i_upd, i_m1, Int32.toInt_toInt64, Int32.toInt_add, Int32.toInt_sub, Int32.toInt_mul, bm32, Int32.reduceToInt, Int64.reduceToInt, Nat.reduceLT, Nat.reduceEqDiff, reduceIte, w_3m0_2, w_3m0_3, w_3m0_4, w_3m0_5, w_3m0_6, w_3m0_14, w_3m0_42] at c_4
      refine ⟨(s_lastsOf (by first | omega | (simp (disch := omega) only [↓i_in, ↓i_isCouple, ↓i_isBridge, ↓i_isTheme, ↓i_isBarge, i_lt, i_le, i_eq, i_clamp, i_upd, i_m1, Int32.toInt_toInt64, Int32.toInt_add, Int32.toInt_sub, Int32.toInt_mul, bm32, Int32.reduceToInt, Int64.reduceToInt, Nat.reduceLT, Nat.reduceEqDiff, reduceIte, w_3m0_2, w_3m0_3, w_3m0_4, w_3m0_5, w_3m0_6, w_3m0_14, w_3m0_42] <;> omega)) (by first | omega | (simp (disch := omega) only [↓i_in, ↓i_isCouple, ↓i_isBridge, ↓i_isTheme, ↓i_isBarge, i_lt, i_le, i_eq, i_clamp, i_upd, i_m1, Int32.toInt_toInt64, Int32.toInt_add, Int32.toInt_sub, Int32.toInt_mul, bm32, Int32.reduceToInt, Int64.reduceToInt, Nat.reduceLT, Nat.reduceEqDiff, reduceIte, w_3m0_2, w_3m0_3, w_3m0_4, w_3m0_5, w_3m0_6, w_3m0_14, w_3m0_42] <;> omega)) (by first | omega | (simp (disch := omega) only [↓i_in, ↓i_isCouple, ↓i_isBridge, ↓i_isTheme, ↓i_isBarge, i_lt, i_le, i_eq, i_clamp, i_upd, i_m1, Int32.toInt_toInt64, Int32.toInt_add, Int32.toInt_sub, Int32.toInt_mul, bm32, Int32.reduceToInt, Int64.reduceToInt, Nat.reduceLT, Nat.reduceEqDiff, reduceIte, w_3m0_2, w_3m0_3, w_3m0_4, w_3m0_5, w_3m0_6, w_3m0_14, w_3m0_42] <;> omega)) (by first | omega | (simp (disch := omega) only [↓i_in, ↓i_isCouple, ↓i_isBridge, ↓i_isTheme, ↓i_isBarge, i_lt, i_le, i_eq, i_clamp, i_upd, i_m1, Int32.toInt_toInt64, Int32.toInt_add, Int32.toInt_sub, Int32.toInt_mul, bm32, Int32.reduceToInt, Int64.reduceToInt, Nat.reduceLT, Nat.reduceEqDiff, reduceIte, w_3m0_2, w_3m0_3, w_3m0_4, w_3m0_5, w_3m0_6, w_3m0_14, w_3m0_42] <;> omega))), ?_⟩
      intro r_18 u_17 e_5
      have p_6 := p_lastsOf _ _ e_5.symm
      have i_7 := p_6
      replace i_7 := QG.trans i_1 i_7
      obtain ⟨u_17_2, u_17_3, u_17_4, u_17_5, u_17_6, u_17_14, u_17_42⟩ := QGs i_7
      refine ⟨fun c_8 => ?_, fun c_8 => ?_⟩
      · skip
        try simp (disch := omega) only [↓i_in, ↓i_isCouple, ↓i_isBridge, ↓i_isTheme, ↓i_isBarge, i_lt, i_le, i_eq, i_clamp, i_upd, i_m1, Int32.toInt_toInt64, Int32.toInt_add, Int32.toInt_sub, Int32.toInt_mul, bm32, Int32.reduceToInt, Int64.reduceToInt, Nat.reduceLT, Nat.reduceEqDiff, reduceIte, w_3m0_2, w_3m0_3, w_3m0_4, w_3m0_5, w_3m0_6, w_3m0_14, w_3m0_42, u_17_2, u_17_3, u_17_4, u_17_5, u_17_6, u_17_14, u_17_42] at c_8
        exact ih (w_3l5 + 1) w_3l4 u_17 (⟨i_7, (by first | omega | (simp (disch := omega) only [↓i_in, ↓i_isCouple, ↓i_isBridge, ↓i_isTheme, ↓i_isBarge, i_lt, i_le, i_eq, i_clamp, i_upd, i_m1, Int32.toInt_toInt64, Int32.toInt_add, Int32.toInt_sub, Int32.toInt_mul, bm32, Int32.reduceToInt, Int64.reduceToInt, Nat.reduceLT, Nat.reduceEqDiff, reduceIte, w_3m0_2, w_3m0_3, w_3m0_4, w_3m0_5, w_3m0_6, w_3m0_14, w_3m0_42, u_17_2, u_17_3, u_17_4, u_17_5, u_17_6, u_17_14, u_17_42] <;> omega)), (by first | omega | (simp (disch := omega) only [↓i_in, ↓i_isCouple, ↓i_isBridge, ↓i_isTheme, ↓i_isBarge, i_lt, i_le, i_eq, i_clamp, i_upd, i_m1, Int32.toInt_toInt64, Int32.toInt_add, Int32.toInt_sub, Int32.toInt_mul, bm32, Int32.reduceToInt, Int64.reduceToInt, Nat.reduceLT, Nat.reduceEqDiff, reduceIte, w_3m0_2, w_3m0_3, w_3m0_4, w_3m0_5, w_3m0_6, w_3m0_14, w_3m0_42, u_17_2, u_17_3, u_17_4, u_17_5, u_17_6, u_17_14, u_17_42] <;> omega))⟩) (by first | omega | (simp (disch := omega) only [↓i_in, ↓i_isCouple, ↓i_isBridge, ↓i_isTheme, ↓i_isBarge, i_lt, i_le, i_eq, i_clamp, i_upd, i_m1, Int32.toInt_toInt64, Int32.toInt_add, Int32.toInt_sub, Int32.toInt_mul, bm32, Int32.reduceToInt, Int64.reduceToInt, Nat.reduceLT, Nat.reduceEqDiff, reduceIte, w_3m0_2, w_3m0_3, w_3m0_4, w_3m0_5, w_3m0_6, w_3m0_14, w_3m0_42, u_17_2, u_17_3, u_17_4, u_17_5, u_17_6, u_17_14, u_17_42] <;> omega))
      · skip
        try simp (disch := omega) only [↓i_in, ↓i_isCouple, ↓i_isBridge, ↓i_isTheme, ↓i_isBarge, i_lt, i_le, i_eq, i_clamp, i_upd, i_m1, Int32.toInt_toInt64, Int32.toInt_add, Int32.toInt_sub, Int32.toInt_mul, bm32, Int32.reduceToInt, Int64.reduceToInt, Nat.reduceLT, Nat.reduceEqDiff, reduceIte, w_3m0_2, w_3m0_3, w_3m0_4, w_3m0_5, w_3m0_6, w_3m0_14, w_3m0_42, u_17_2, u_17_3, u_17_4, u_17_5, u_17_6, u_17_14, u_17_42] at c_8
        exact ih (w_3l5 + 1) r_18 u_17 (⟨i_7, (by first | omega | (simp (disch := omega) only [↓i_in, ↓i_isCouple, ↓i_isBridge, ↓i_isTheme, ↓i_isBarge, i_lt, i_le, i_eq, i_clamp, i_upd, i_m1, Int32.toInt_toInt64, Int32.toInt_add, Int32.toInt_sub, Int32.toInt_mul, bm32, Int32.reduceToInt, Int64.reduceToInt, Nat.reduceLT, Nat.reduceEqDiff, reduceIte, w_3m0_2, w_3m0_3, w_3m0_4, w_3m0_5, w_3m0_6, w_3m0_14, w_3m0_42, u_17_2, u_17_3, u_17_4, u_17_5, u_17_6, u_17_14, u_17_42] <;> omega)), (by first | omega | (simp (disch := omega) only [↓i_in, ↓i_isCouple, ↓i_isBridge, ↓i_isTheme, ↓i_isBarge, i_lt, i_le, i_eq, i_clamp, i_upd, i_m1, Int32.toInt_toInt64, Int32.toInt_add, Int32.toInt_sub, Int32.toInt_mul, bm32, Int32.reduceToInt, Int64.reduceToInt, Nat.reduceLT, Nat.reduceEqDiff, reduceIte, w_3m0_2, w_3m0_3, w_3m0_4, w_3m0_5, w_3m0_6, w_3m0_14, w_3m0_42, u_17_2, u_17_3, u_17_4, u_17_5, u_17_6, u_17_14, u_17_42] <;> omega))⟩) (by first | omega | (simp (disch := omega) only [↓i_in, ↓i_isCouple, ↓i_isBridge, ↓i_isTheme, ↓i_isBarge, i_lt, i_le, i_eq, i_clamp, i_upd, i_m1, Int32.toInt_toInt64, Int32.toInt_add, Int32.toInt_sub, Int32.toInt_mul, bm32, Int32.reduceToInt, Int64.reduceToInt, Nat.reduceLT, Nat.reduceEqDiff, reduceIte, w_3m0_2, w_3m0_3, w_3m0_4, w_3m0_5, w_3m0_6, w_3m0_14, w_3m0_42, u_17_2, u_17_3, u_17_4, u_17_5, u_17_6, u_17_14, u_17_42] <;> omega))
set_option maxHeartbeats 4000000 in
theorem pl_wornOut_22 {G : Nat → Int32} {f0 : Nat → Int32} {f10 : Nat → Int32} {w_1l3 : Int32} (h_0 : GI G) (h_1 : 0 ≤ w_1l3.toInt) (h_2 : w_1l3.toInt < 6) : ∀ (n : Nat) w_3l5 w_3l4 w_3m0, (QG G w_3m0 ∧ (0 ≤ w_3l5.toInt) ∧ (w_3l5.toInt ≤ 5)) → ∀ r0 r1 r2, f_m_wornOut_22 f0 f10 w_1l3 n w_3l5 w_3l4 w_3m0 = (r0, r1, r2) → QG G r2 ∧ (0 ≤ r0.toInt) ∧ (r0.toInt ≤ 5) := by
  have h_0_g := h_0
  obtain ⟨⟨h_0_2a, h_0_2b⟩, ⟨h_0_3a, h_0_3b⟩, ⟨h_0_4a, h_0_4b⟩, ⟨h_0_5a, h_0_5b⟩, ⟨h_0_6a, h_0_6b⟩, ⟨h_0_14a, h_0_14b⟩, ⟨h_0_42a, h_0_42b⟩⟩ := h_0_g
  intro n
  induction n with
  | zero =>
    intro w_3l5 w_3l4 w_3m0 hI r0 r1 r2 e
    replace e : (w_3l5, w_3l4, w_3m0) = (r0, r1, r2) := e
    cases e
    exact hI
  | succ n ih =>
    intro w_3l5 w_3l4 w_3m0 hI r0 r1 r2 e
    rw [f_m_wornOut_22_s] at e
    have hI0 := hI
    obtain ⟨i_1, i_2, i_3⟩ := hI0
    obtain ⟨w_3m0_2, w_3m0_3, w_3m0_4, w_3m0_5, w_3m0_6, w_3m0_14, w_3m0_42⟩ := QGs i_1
    by_cases c_4 : (w_3m0 4) ≤ w_3l5
    · rw [if_pos c_4] at e
      try simp (disch := omega) only [↓i_in, ↓i_isCouple, ↓i_isBridge, ↓i_isTheme, ↓i_isBarge, i_lt, i_le, i_eq, i_clamp, i_upd, i_m1, Int32.toInt_toInt64, Int32.toInt_add, Int32.toInt_sub, Int32.toInt_mul, bm32, Int32.reduceToInt, Int64.reduceToInt, Nat.reduceLT, Nat.reduceEqDiff, reduceIte, w_3m0_2, w_3m0_3, w_3m0_4, w_3m0_5, w_3m0_6, w_3m0_14, w_3m0_42] at c_4
      cases e
      exact hI
    · rw [if_neg c_4] at e
      try simp (disch := omega) only [↓i_in, ↓i_isCouple, ↓i_isBridge, ↓i_isTheme, ↓i_isBarge, i_lt, i_le, i_eq, i_clamp, i_upd, i_m1, Int32.toInt_toInt64, Int32.toInt_add, Int32.toInt_sub, Int32.toInt_mul, bm32, Int32.reduceToInt, Int64.reduceToInt, Nat.reduceLT, Nat.reduceEqDiff, reduceIte, w_3m0_2, w_3m0_3, w_3m0_4, w_3m0_5, w_3m0_6, w_3m0_14, w_3m0_42] at c_4
      generalize x_5 : (f_m_lastsOf w_3m0 f0 f10 w_1l3 w_3l5) = z_6 at e
      obtain ⟨r_18, u_17⟩ := z_6
      replace e : ((if r_18 ≤ w_3l4 then (f_m_wornOut_22 f0 f10 w_1l3 n (w_3l5 + 1) w_3l4 u_17) else (f_m_wornOut_22 f0 f10 w_1l3 n (w_3l5 + 1) r_18 u_17))) = (r0, r1, r2) := e
      have p_7 := p_lastsOf _ _ x_5
      have i_8 := p_7
      replace i_8 := QG.trans i_1 i_8
      obtain ⟨u_17_2, u_17_3, u_17_4, u_17_5, u_17_6, u_17_14, u_17_42⟩ := QGs i_8
      by_cases c_9 : r_18 ≤ w_3l4
      · rw [if_pos c_9] at e
        try simp (disch := omega) only [↓i_in, ↓i_isCouple, ↓i_isBridge, ↓i_isTheme, ↓i_isBarge, i_lt, i_le, i_eq, i_clamp, i_upd, i_m1, Int32.toInt_toInt64, Int32.toInt_add, Int32.toInt_sub, Int32.toInt_mul, bm32, Int32.reduceToInt, Int64.reduceToInt, Nat.reduceLT, Nat.reduceEqDiff, reduceIte, w_3m0_2, w_3m0_3, w_3m0_4, w_3m0_5, w_3m0_6, w_3m0_14, w_3m0_42, u_17_2, u_17_3, u_17_4, u_17_5, u_17_6, u_17_14, u_17_42] at c_9
        exact ih (w_3l5 + 1) w_3l4 u_17 (⟨i_8, (by first | omega | (simp (disch := omega) only [↓i_in, ↓i_isCouple, ↓i_isBridge, ↓i_isTheme, ↓i_isBarge, i_lt, i_le, i_eq, i_clamp, i_upd, i_m1, Int32.toInt_toInt64, Int32.toInt_add, Int32.toInt_sub, Int32.toInt_mul, bm32, Int32.reduceToInt, Int64.reduceToInt, Nat.reduceLT, Nat.reduceEqDiff, reduceIte, w_3m0_2, w_3m0_3, w_3m0_4, w_3m0_5, w_3m0_6, w_3m0_14, w_3m0_42, u_17_2, u_17_3, u_17_4, u_17_5, u_17_6, u_17_14, u_17_42] <;> omega)), (by first | omega | (simp (disch := omega) only [↓i_in, ↓i_isCouple, ↓i_isBridge, ↓i_isTheme, ↓i_isBarge, i_lt, i_le, i_eq, i_clamp, i_upd, i_m1, Int32.toInt_toInt64, Int32.toInt_add, Int32.toInt_sub, Int32.toInt_mul, bm32, Int32.reduceToInt, Int64.reduceToInt, Nat.reduceLT, Nat.reduceEqDiff, reduceIte, w_3m0_2, w_3m0_3, w_3m0_4, w_3m0_5, w_3m0_6, w_3m0_14, w_3m0_42, u_17_2, u_17_3, u_17_4, u_17_5, u_17_6, u_17_14, u_17_42] <;> omega))⟩) _ _ _ e
      · rw [if_neg c_9] at e
        try simp (disch := omega) only [↓i_in, ↓i_isCouple, ↓i_isBridge, ↓i_isTheme, ↓i_isBarge, i_lt, i_le, i_eq, i_clamp, i_upd, i_m1, Int32.toInt_toInt64, Int32.toInt_add, Int32.toInt_sub, Int32.toInt_mul, bm32, Int32.reduceToInt, Int64.reduceToInt, Nat.reduceLT, Nat.reduceEqDiff, reduceIte, w_3m0_2, w_3m0_3, w_3m0_4, w_3m0_5, w_3m0_6, w_3m0_14, w_3m0_42, u_17_2, u_17_3, u_17_4, u_17_5, u_17_6, u_17_14, u_17_42] at c_9
        exact ih (w_3l5 + 1) r_18 u_17 (⟨i_8, (by first | omega | (simp (disch := omega) only [↓i_in, ↓i_isCouple, ↓i_isBridge, ↓i_isTheme, ↓i_isBarge, i_lt, i_le, i_eq, i_clamp, i_upd, i_m1, Int32.toInt_toInt64, Int32.toInt_add, Int32.toInt_sub, Int32.toInt_mul, bm32, Int32.reduceToInt, Int64.reduceToInt, Nat.reduceLT, Nat.reduceEqDiff, reduceIte, w_3m0_2, w_3m0_3, w_3m0_4, w_3m0_5, w_3m0_6, w_3m0_14, w_3m0_42, u_17_2, u_17_3, u_17_4, u_17_5, u_17_6, u_17_14, u_17_42] <;> omega)), (by first | omega | (simp (disch := omega) only [↓i_in, ↓i_isCouple, ↓i_isBridge, ↓i_isTheme, ↓i_isBarge, i_lt, i_le, i_eq, i_clamp, i_upd, i_m1, Int32.toInt_toInt64, Int32.toInt_add, Int32.toInt_sub, Int32.toInt_mul, bm32, Int32.reduceToInt, Int64.reduceToInt, Nat.reduceLT, Nat.reduceEqDiff, reduceIte, w_3m0_2, w_3m0_3, w_3m0_4, w_3m0_5, w_3m0_6, w_3m0_14, w_3m0_42, u_17_2, u_17_3, u_17_4, u_17_5, u_17_6, u_17_14, u_17_42] <;> omega))⟩) _ _ _ e
set_option maxHeartbeats 4000000 in
theorem sl_wornOut_8 {G : Nat → Int32} {f0 : Nat → Int32} {f10 : Nat → Int32} {K : Int32 → Int32 → Int32 → (Nat → Int32) → Prop} (h_0 : GI G) (hK : ∀ w_1l3 w_1l2 w_1l1 w_1m0, (QG G w_1m0 ∧ (0 ≤ w_1l3.toInt) ∧ (w_1l3.toInt ≤ 6)) → K w_1l3 w_1l2 w_1l1 w_1m0) : ∀ (n : Nat) w_1l3 w_1l2 w_1l1 w_1m0, (QG G w_1m0 ∧ (0 ≤ w_1l3.toInt) ∧ (w_1l3.toInt ≤ 6)) → (7 - w_1l3.toInt).toNat < n → S_m_wornOut_8 f0 f10 K n w_1l3 w_1l2 w_1l1 w_1m0 := by
  have h_0_g := h_0
  obtain ⟨⟨h_0_2a, h_0_2b⟩, ⟨h_0_3a, h_0_3b⟩, ⟨h_0_4a, h_0_4b⟩, ⟨h_0_5a, h_0_5b⟩, ⟨h_0_6a, h_0_6b⟩, ⟨h_0_14a, h_0_14b⟩, ⟨h_0_42a, h_0_42b⟩⟩ := h_0_g
  intro n
  induction n with
  | zero => intro w_1l3 w_1l2 w_1l1 w_1m0 hI hm; exact absurd hm (Nat.not_lt_zero _)
  | succ n ih =>
    intro w_1l3 w_1l2 w_1l1 w_1m0 hI hm
    rw [S_m_wornOut_8_s]
    have hI0 := hI
    obtain ⟨i_1, i_2, i_3⟩ := hI0
    obtain ⟨w_1m0_2, w_1m0_3, w_1m0_4, w_1m0_5, w_1m0_6, w_1m0_14, w_1m0_42⟩ := QGs i_1
    refine ⟨fun c_4 => ?_, fun c_4 => ?_⟩
    · skip
      try simp (disch := omega) only [↓i_in, ↓i_isCouple, ↓i_isBridge, ↓i_isTheme, ↓i_isBarge, i_lt, i_le, i_eq, i_clamp, i_upd, i_m1, Int32.toInt_toInt64, Int32.toInt_add, Int32.toInt_sub, Int32.toInt_mul, bm32, Int32.reduceToInt, Int64.reduceToInt, Nat.reduceLT, Nat.reduceEqDiff, reduceIte, w_1m0_2, w_1m0_3, w_1m0_4, w_1m0_5, w_1m0_6, w_1m0_14, w_1m0_42] at c_4
      exact hK w_1l3 w_1l2 w_1l1 w_1m0 hI
    · skip
      try simp (disch := omega) only [↓i_in, ↓i_isCouple, ↓i_isBridge, ↓i_isTheme, ↓i_isBarge, i_lt, i_le, i_eq, i_clamp, i_upd, i_m1, Int32.toInt_toInt64, Int32.toInt_add, Int32.toInt_sub, Int32.toInt_mul, bm32, Int32.reduceToInt, Int64.reduceToInt, Nat.reduceLT, Nat.reduceEqDiff, reduceIte, w_1m0_2, w_1m0_3, w_1m0_4, w_1m0_5, w_1m0_6, w_1m0_14, w_1m0_42] at c_4
      refine sl_wornOut_22 h_0 (by first | omega | (simp (disch := omega) only [↓i_in, ↓i_isCouple, ↓i_isBridge, ↓i_isTheme, ↓i_isBarge, i_lt, i_le, i_eq, i_clamp, i_upd, i_m1, Int32.toInt_toInt64, Int32.toInt_add, Int32.toInt_sub, Int32.toInt_mul, bm32, Int32.reduceToInt, Int64.reduceToInt, Nat.reduceLT, Nat.reduceEqDiff, reduceIte, w_1m0_2, w_1m0_3, w_1m0_4, w_1m0_5, w_1m0_6, w_1m0_14, w_1m0_42] <;> omega)) (by first | omega | (simp (disch := omega) only [↓i_in, ↓i_isCouple, ↓i_isBridge, ↓i_isTheme, ↓i_isBarge, i_lt, i_le, i_eq, i_clamp, i_upd, i_m1, Int32.toInt_toInt64, Int32.toInt_add, Int32.toInt_sub, Int32.toInt_mul, bm32, Int32.reduceToInt, Int64.reduceToInt, Nat.reduceLT, Nat.reduceEqDiff, reduceIte, w_1m0_2, w_1m0_3, w_1m0_4, w_1m0_5, w_1m0_6, w_1m0_14, w_1m0_42] <;> omega)) ?_ 10 0 0 w_1m0 (⟨i_1, (by first | omega | (simp (disch := omega) only [↓i_in, ↓i_isCouple, ↓i_isBridge, ↓i_isTheme, ↓i_isBarge, i_lt, i_le, i_eq, i_clamp, i_upd, i_m1, Int32.toInt_toInt64, Int32.toInt_add, Int32.toInt_sub, Int32.toInt_mul, bm32, Int32.reduceToInt, Int64.reduceToInt, Nat.reduceLT, Nat.reduceEqDiff, reduceIte, w_1m0_2, w_1m0_3, w_1m0_4, w_1m0_5, w_1m0_6, w_1m0_14, w_1m0_42] <;> omega)), (by first | omega | (simp (disch := omega) only [↓i_in, ↓i_isCouple, ↓i_isBridge, ↓i_isTheme, ↓i_isBarge, i_lt, i_le, i_eq, i_clamp, i_upd, i_m1, Int32.toInt_toInt64, Int32.toInt_add, Int32.toInt_sub, Int32.toInt_mul, bm32, Int32.reduceToInt, Int64.reduceToInt, Nat.reduceLT, Nat.reduceEqDiff, reduceIte, w_1m0_2, w_1m0_3, w_1m0_4, w_1m0_5, w_1m0_6, w_1m0_14, w_1m0_42] <;> omega))⟩) (by first | omega | (simp (disch := omega) only [↓i_in, ↓i_isCouple, ↓i_isBridge, ↓i_isTheme, ↓i_isBarge, i_lt, i_le, i_eq, i_clamp, i_upd, i_m1, Int32.toInt_toInt64, Int32.toInt_add, Int32.toInt_sub, Int32.toInt_mul, bm32, Int32.reduceToInt, Int64.reduceToInt, Nat.reduceLT, Nat.reduceEqDiff, reduceIte, w_1m0_2, w_1m0_3, w_1m0_4, w_1m0_5, w_1m0_6, w_1m0_14, w_1m0_42] <;> omega))
      intro w_3l5 w_3l4 w_3m0 i_5
      obtain ⟨i_6, i_7, i_8⟩ := i_5
      obtain ⟨w_3m0_2, w_3m0_3, w_3m0_4, w_3m0_5, w_3m0_6, w_3m0_14, w_3m0_42⟩ := QGs i_6
      refine ⟨s_isDone, ?_⟩
      refine ⟨fun c_9 => ?_, fun c_9 => ?_⟩
      · skip
        try simp (disch := omega) only [↓i_in, ↓i_isCouple, ↓i_isBridge, ↓i_isTheme, ↓i_isBarge, i_lt, i_le, i_eq, i_clamp, i_upd, i_m1, Int32.toInt_toInt64, Int32.toInt_add, Int32.toInt_sub, Int32.toInt_mul, bm32, Int32.reduceToInt, Int64.reduceToInt, Nat.reduceLT, Nat.reduceEqDiff, reduceIte, w_1m0_2, w_1m0_3, w_1m0_4, w_1m0_5, w_1m0_6, w_1m0_14, w_1m0_42, w_3m0_2, w_3m0_3, w_3m0_4, w_3m0_5, w_3m0_6, w_3m0_14, w_3m0_42] at c_9
        refine ⟨fun c_10 => ?_, fun c_10 => ?_⟩
        · skip
          try simp (disch := omega) only [↓i_in, ↓i_isCouple, ↓i_isBridge, ↓i_isTheme, ↓i_isBarge, i_lt, i_le, i_eq, i_clamp, i_upd, i_m1, Int32.toInt_toInt64, Int32.toInt_add, Int32.toInt_sub, Int32.toInt_mul, bm32, Int32.reduceToInt, Int64.reduceToInt, Nat.reduceLT, Nat.reduceEqDiff, reduceIte, w_1m0_2, w_1m0_3, w_1m0_4, w_1m0_5, w_1m0_6, w_1m0_14, w_1m0_42, w_3m0_2, w_3m0_3, w_3m0_4, w_3m0_5, w_3m0_6, w_3m0_14, w_3m0_42] at c_10
          exact ih (w_1l3 + 1) w_1l2 w_1l1 w_3m0 (⟨i_6, (by first | omega | (simp (disch := omega) only [↓i_in, ↓i_isCouple, ↓i_isBridge, ↓i_isTheme, ↓i_isBarge, i_lt, i_le, i_eq, i_clamp, i_upd, i_m1, Int32.toInt_toInt64, Int32.toInt_add, Int32.toInt_sub, Int32.toInt_mul, bm32, Int32.reduceToInt, Int64.reduceToInt, Nat.reduceLT, Nat.reduceEqDiff, reduceIte, w_1m0_2, w_1m0_3, w_1m0_4, w_1m0_5, w_1m0_6, w_1m0_14, w_1m0_42, w_3m0_2, w_3m0_3, w_3m0_4, w_3m0_5, w_3m0_6, w_3m0_14, w_3m0_42] <;> omega)), (by first | omega | (simp (disch := omega) only [↓i_in, ↓i_isCouple, ↓i_isBridge, ↓i_isTheme, ↓i_isBarge, i_lt, i_le, i_eq, i_clamp, i_upd, i_m1, Int32.toInt_toInt64, Int32.toInt_add, Int32.toInt_sub, Int32.toInt_mul, bm32, Int32.reduceToInt, Int64.reduceToInt, Nat.reduceLT, Nat.reduceEqDiff, reduceIte, w_1m0_2, w_1m0_3, w_1m0_4, w_1m0_5, w_1m0_6, w_1m0_14, w_1m0_42, w_3m0_2, w_3m0_3, w_3m0_4, w_3m0_5, w_3m0_6, w_3m0_14, w_3m0_42] <;> omega))⟩) (by first | omega | (simp (disch := omega) only [↓i_in, ↓i_isCouple, ↓i_isBridge, ↓i_isTheme, ↓i_isBarge, i_lt, i_le, i_eq, i_clamp, i_upd, i_m1, Int32.toInt_toInt64, Int32.toInt_add, Int32.toInt_sub, Int32.toInt_mul, bm32, Int32.reduceToInt, Int64.reduceToInt, Nat.reduceLT, Nat.reduceEqDiff, reduceIte, w_1m0_2, w_1m0_3, w_1m0_4, w_1m0_5, w_1m0_6, w_1m0_14, w_1m0_42, w_3m0_2, w_3m0_3, w_3m0_4, w_3m0_5, w_3m0_6, w_3m0_14, w_3m0_42] <;> omega))
        · skip
          try simp (disch := omega) only [↓i_in, ↓i_isCouple, ↓i_isBridge, ↓i_isTheme, ↓i_isBarge, i_lt, i_le, i_eq, i_clamp, i_upd, i_m1, Int32.toInt_toInt64, Int32.toInt_add, Int32.toInt_sub, Int32.toInt_mul, bm32, Int32.reduceToInt, Int64.reduceToInt, Nat.reduceLT, Nat.reduceEqDiff, reduceIte, w_1m0_2, w_1m0_3, w_1m0_4, w_1m0_5, w_1m0_6, w_1m0_14, w_1m0_42, w_3m0_2, w_3m0_3, w_3m0_4, w_3m0_5, w_3m0_6, w_3m0_14, w_3m0_42] at c_10
          exact ih (w_1l3 + 1) w_3l4 w_1l3 w_3m0 (⟨i_6, (by first | omega | (simp (disch := omega) only [↓i_in, ↓i_isCouple, ↓i_isBridge, ↓i_isTheme, ↓i_isBarge, i_lt, i_le, i_eq, i_clamp, i_upd, i_m1, Int32.toInt_toInt64, Int32.toInt_add, Int32.toInt_sub, Int32.toInt_mul, bm32, Int32.reduceToInt, Int64.reduceToInt, Nat.reduceLT, Nat.reduceEqDiff, reduceIte, w_1m0_2, w_1m0_3, w_1m0_4, w_1m0_5, w_1m0_6, w_1m0_14, w_1m0_42, w_3m0_2, w_3m0_3, w_3m0_4, w_3m0_5, w_3m0_6, w_3m0_14, w_3m0_42] <;> omega)), (by first | omega | (simp (disch := omega) only [↓i_in, ↓i_isCouple, ↓i_isBridge, ↓i_isTheme, ↓i_isBarge, i_lt, i_le, i_eq, i_clamp, i_upd, i_m1, Int32.toInt_toInt64, Int32.toInt_add, Int32.toInt_sub, Int32.toInt_mul, bm32, Int32.reduceToInt, Int64.reduceToInt, Nat.reduceLT, Nat.reduceEqDiff, reduceIte, w_1m0_2, w_1m0_3, w_1m0_4, w_1m0_5, w_1m0_6, w_1m0_14, w_1m0_42, w_3m0_2, w_3m0_3, w_3m0_4, w_3m0_5, w_3m0_6, w_3m0_14, w_3m0_42] <;> omega))⟩) (by first | omega | (simp (disch := omega) only [↓i_in, ↓i_isCouple, ↓i_isBridge, ↓i_isTheme, ↓i_isBarge, i_lt, i_le, i_eq, i_clamp, i_upd, i_m1, Int32.toInt_toInt64, Int32.toInt_add, Int32.toInt_sub, Int32.toInt_mul, bm32, Int32.reduceToInt, Int64.reduceToInt, Nat.reduceLT, Nat.reduceEqDiff, reduceIte, w_1m0_2, w_1m0_3, w_1m0_4, w_1m0_5, w_1m0_6, w_1m0_14, w_1m0_42, w_3m0_2, w_3m0_3, w_3m0_4, w_3m0_5, w_3m0_6, w_3m0_14, w_3m0_42] <;> omega))
      · skip
        try simp (disch := omega) only [↓i_in, ↓i_isCouple, ↓i_isBridge, ↓i_isTheme, ↓i_isBarge, i_lt, i_le, i_eq, i_clamp, i_upd, i_m1, Int32.toInt_toInt64, Int32.toInt_add, Int32.toInt_sub, Int32.toInt_mul, bm32, Int32.reduceToInt, Int64.reduceToInt, Nat.reduceLT, Nat.reduceEqDiff, reduceIte, w_1m0_2, w_1m0_3, w_1m0_4, w_1m0_5, w_1m0_6, w_1m0_14, w_1m0_42, w_3m0_2, w_3m0_3, w_3m0_4, w_3m0_5, w_3m0_6, w_3m0_14, w_3m0_42] at c_9
        exact ih (w_1l3 + 1) w_1l2 w_1l1 w_3m0 (⟨i_6, (by first | omega | (simp (disch := omega) only [↓i_in, ↓i_isCouple, ↓i_isBridge, ↓i_isTheme, ↓i_isBarge, i_lt, i_le, i_eq, i_clamp, i_upd, i_m1, Int32.toInt_toInt64, Int32.toInt_add, Int32.toInt_sub, Int32.toInt_mul, bm32, Int32.reduceToInt, Int64.reduceToInt, Nat.reduceLT, Nat.reduceEqDiff, reduceIte, w_1m0_2, w_1m0_3, w_1m0_4, w_1m0_5, w_1m0_6, w_1m0_14, w_1m0_42, w_3m0_2, w_3m0_3, w_3m0_4, w_3m0_5, w_3m0_6, w_3m0_14, w_3m0_42] <;> omega)), (by first | omega | (simp (disch := omega) only [↓i_in, ↓i_isCouple, ↓i_isBridge, ↓i_isTheme, ↓i_isBarge, i_lt, i_le, i_eq, i_clamp, i_upd, i_m1, Int32.toInt_toInt64, Int32.toInt_add, Int32.toInt_sub, Int32.toInt_mul, bm32, Int32.reduceToInt, Int64.reduceToInt, Nat.reduceLT, Nat.reduceEqDiff, reduceIte, w_1m0_2, w_1m0_3, w_1m0_4, w_1m0_5, w_1m0_6, w_1m0_14, w_1m0_42, w_3m0_2, w_3m0_3, w_3m0_4, w_3m0_5, w_3m0_6, w_3m0_14, w_3m0_42] <;> omega))⟩) (by first | omega | (simp (disch := omega) only [↓i_in, ↓i_isCouple, ↓i_isBridge, ↓i_isTheme, ↓i_isBarge, i_lt, i_le, i_eq, i_clamp, i_upd, i_m1, Int32.toInt_toInt64, Int32.toInt_add, Int32.toInt_sub, Int32.toInt_mul, bm32, Int32.reduceToInt, Int64.reduceToInt, Nat.reduceLT, Nat.reduceEqDiff, reduceIte, w_1m0_2, w_1m0_3, w_1m0_4, w_1m0_5, w_1m0_6, w_1m0_14, w_1m0_42, w_3m0_2, w_3m0_3, w_3m0_4, w_3m0_5, w_3m0_6, w_3m0_14, w_3m0_42] <;> omega))
set_option maxHeartbeats 4000000 in
theorem pl_wornOut_8 {G : Nat → Int32} {f0 : Nat → Int32} {f10 : Nat → Int32} (h_0 : GI G) : ∀ (n : Nat) w_1l3 w_1l2 w_1l1 w_1m0, (QG G w_1m0 ∧ (0 ≤ w_1l3.toInt) ∧ (w_1l3.toInt ≤ 6)) → ∀ r0 r1 r2 r3, f_m_wornOut_8 f0 f10 n w_1l3 w_1l2 w_1l1 w_1m0 = (r0, r1, r2, r3) → QG G r3 ∧ (0 ≤ r0.toInt) ∧ (r0.toInt ≤ 6) := by
  have h_0_g := h_0
  obtain ⟨⟨h_0_2a, h_0_2b⟩, ⟨h_0_3a, h_0_3b⟩, ⟨h_0_4a, h_0_4b⟩, ⟨h_0_5a, h_0_5b⟩, ⟨h_0_6a, h_0_6b⟩, ⟨h_0_14a, h_0_14b⟩, ⟨h_0_42a, h_0_42b⟩⟩ := h_0_g
  intro n
  induction n with
  | zero =>
    intro w_1l3 w_1l2 w_1l1 w_1m0 hI r0 r1 r2 r3 e
    replace e : (w_1l3, w_1l2, w_1l1, w_1m0) = (r0, r1, r2, r3) := e
    cases e
    exact hI
  | succ n ih =>
    intro w_1l3 w_1l2 w_1l1 w_1m0 hI r0 r1 r2 r3 e
    rw [f_m_wornOut_8_s] at e
    have hI0 := hI
    obtain ⟨i_1, i_2, i_3⟩ := hI0
    obtain ⟨w_1m0_2, w_1m0_3, w_1m0_4, w_1m0_5, w_1m0_6, w_1m0_14, w_1m0_42⟩ := QGs i_1
    by_cases c_4 : (w_1m0 5) ≤ w_1l3
    · rw [if_pos c_4] at e
      try simp (disch := omega) only [↓i_in, ↓i_isCouple, ↓i_isBridge, ↓i_isTheme, ↓i_isBarge, i_lt, i_le, i_eq, i_clamp, i_upd, i_m1, Int32.toInt_toInt64, Int32.toInt_add, Int32.toInt_sub, Int32.toInt_mul, bm32, Int32.reduceToInt, Int64.reduceToInt, Nat.reduceLT, Nat.reduceEqDiff, reduceIte, w_1m0_2, w_1m0_3, w_1m0_4, w_1m0_5, w_1m0_6, w_1m0_14, w_1m0_42] at c_4
      cases e
      exact hI
    · rw [if_neg c_4] at e
      try simp (disch := omega) only [↓i_in, ↓i_isCouple, ↓i_isBridge, ↓i_isTheme, ↓i_isBarge, i_lt, i_le, i_eq, i_clamp, i_upd, i_m1, Int32.toInt_toInt64, Int32.toInt_add, Int32.toInt_sub, Int32.toInt_mul, bm32, Int32.reduceToInt, Int64.reduceToInt, Nat.reduceLT, Nat.reduceEqDiff, reduceIte, w_1m0_2, w_1m0_3, w_1m0_4, w_1m0_5, w_1m0_6, w_1m0_14, w_1m0_42] at c_4
      generalize x_5 : (f_m_wornOut_22 f0 f10 w_1l3 10 0 0 w_1m0) = z_6 at e
      obtain ⟨w_3l5, w_3l4, w_3m0⟩ := z_6
      replace e : ((if (f_m_isDone f0 w_1l3) = 0 then (if w_1l2 ≤ w_3l4 then (f_m_wornOut_8 f0 f10 n (w_1l3 + 1) w_1l2 w_1l1 w_3m0) else (f_m_wornOut_8 f0 f10 n (w_1l3 + 1) w_3l4 w_1l3 w_3m0)) else (f_m_wornOut_8 f0 f10 n (w_1l3 + 1) w_1l2 w_1l1 w_3m0))) = (r0, r1, r2, r3) := e
      have p_7 := pl_wornOut_22 h_0 (by first | omega | (simp (disch := omega) only [↓i_in, ↓i_isCouple, ↓i_isBridge, ↓i_isTheme, ↓i_isBarge, i_lt, i_le, i_eq, i_clamp, i_upd, i_m1, Int32.toInt_toInt64, Int32.toInt_add, Int32.toInt_sub, Int32.toInt_mul, bm32, Int32.reduceToInt, Int64.reduceToInt, Nat.reduceLT, Nat.reduceEqDiff, reduceIte, w_1m0_2, w_1m0_3, w_1m0_4, w_1m0_5, w_1m0_6, w_1m0_14, w_1m0_42] <;> omega)) (by first | omega | (simp (disch := omega) only [↓i_in, ↓i_isCouple, ↓i_isBridge, ↓i_isTheme, ↓i_isBarge, i_lt, i_le, i_eq, i_clamp, i_upd, i_m1, Int32.toInt_toInt64, Int32.toInt_add, Int32.toInt_sub, Int32.toInt_mul, bm32, Int32.reduceToInt, Int64.reduceToInt, Nat.reduceLT, Nat.reduceEqDiff, reduceIte, w_1m0_2, w_1m0_3, w_1m0_4, w_1m0_5, w_1m0_6, w_1m0_14, w_1m0_42] <;> omega)) 10 0 0 w_1m0 (⟨i_1, (by first | omega | (simp (disch := omega) only [↓i_in, ↓i_isCouple, ↓i_isBridge, ↓i_isTheme, ↓i_isBarge, i_lt, i_le, i_eq, i_clamp, i_upd, i_m1, Int32.toInt_toInt64, Int32.toInt_add, Int32.toInt_sub, Int32.toInt_mul, bm32, Int32.reduceToInt, Int64.reduceToInt, Nat.reduceLT, Nat.reduceEqDiff, reduceIte, w_1m0_2, w_1m0_3, w_1m0_4, w_1m0_5, w_1m0_6, w_1m0_14, w_1m0_42] <;> omega)), (by first | omega | (simp (disch := omega) only [↓i_in, ↓i_isCouple, ↓i_isBridge, ↓i_isTheme, ↓i_isBarge, i_lt, i_le, i_eq, i_clamp, i_upd, i_m1, Int32.toInt_toInt64, Int32.toInt_add, Int32.toInt_sub, Int32.toInt_mul, bm32, Int32.reduceToInt, Int64.reduceToInt, Nat.reduceLT, Nat.reduceEqDiff, reduceIte, w_1m0_2, w_1m0_3, w_1m0_4, w_1m0_5, w_1m0_6, w_1m0_14, w_1m0_42] <;> omega))⟩) _ _ _ x_5
      obtain ⟨i_8, i_9, i_10⟩ := p_7
      obtain ⟨w_3m0_2, w_3m0_3, w_3m0_4, w_3m0_5, w_3m0_6, w_3m0_14, w_3m0_42⟩ := QGs i_8
      by_cases c_11 : (f_m_isDone f0 w_1l3) = 0
      · rw [if_pos c_11] at e
        try simp (disch := omega) only [↓i_in, ↓i_isCouple, ↓i_isBridge, ↓i_isTheme, ↓i_isBarge, i_lt, i_le, i_eq, i_clamp, i_upd, i_m1, Int32.toInt_toInt64, Int32.toInt_add, Int32.toInt_sub, Int32.toInt_mul, bm32, Int32.reduceToInt, Int64.reduceToInt, Nat.reduceLT, Nat.reduceEqDiff, reduceIte, w_1m0_2, w_1m0_3, w_1m0_4, w_1m0_5, w_1m0_6, w_1m0_14, w_1m0_42, w_3m0_2, w_3m0_3, w_3m0_4, w_3m0_5, w_3m0_6, w_3m0_14, w_3m0_42] at c_11
        by_cases c_12 : w_1l2 ≤ w_3l4
        · rw [if_pos c_12] at e
          try simp (disch := omega) only [↓i_in, ↓i_isCouple, ↓i_isBridge, ↓i_isTheme, ↓i_isBarge, i_lt, i_le, i_eq, i_clamp, i_upd, i_m1, Int32.toInt_toInt64, Int32.toInt_add, Int32.toInt_sub, Int32.toInt_mul, bm32, Int32.reduceToInt, Int64.reduceToInt, Nat.reduceLT, Nat.reduceEqDiff, reduceIte, w_1m0_2, w_1m0_3, w_1m0_4, w_1m0_5, w_1m0_6, w_1m0_14, w_1m0_42, w_3m0_2, w_3m0_3, w_3m0_4, w_3m0_5, w_3m0_6, w_3m0_14, w_3m0_42] at c_12
          exact ih (w_1l3 + 1) w_1l2 w_1l1 w_3m0 (⟨i_8, (by first | omega | (simp (disch := omega) only [↓i_in, ↓i_isCouple, ↓i_isBridge, ↓i_isTheme, ↓i_isBarge, i_lt, i_le, i_eq, i_clamp, i_upd, i_m1, Int32.toInt_toInt64, Int32.toInt_add, Int32.toInt_sub, Int32.toInt_mul, bm32, Int32.reduceToInt, Int64.reduceToInt, Nat.reduceLT, Nat.reduceEqDiff, reduceIte, w_1m0_2, w_1m0_3, w_1m0_4, w_1m0_5, w_1m0_6, w_1m0_14, w_1m0_42, w_3m0_2, w_3m0_3, w_3m0_4, w_3m0_5, w_3m0_6, w_3m0_14, w_3m0_42] <;> omega)), (by first | omega | (simp (disch := omega) only [↓i_in, ↓i_isCouple, ↓i_isBridge, ↓i_isTheme, ↓i_isBarge, i_lt, i_le, i_eq, i_clamp, i_upd, i_m1, Int32.toInt_toInt64, Int32.toInt_add, Int32.toInt_sub, Int32.toInt_mul, bm32, Int32.reduceToInt, Int64.reduceToInt, Nat.reduceLT, Nat.reduceEqDiff, reduceIte, w_1m0_2, w_1m0_3, w_1m0_4, w_1m0_5, w_1m0_6, w_1m0_14, w_1m0_42, w_3m0_2, w_3m0_3, w_3m0_4, w_3m0_5, w_3m0_6, w_3m0_14, w_3m0_42] <;> omega))⟩) _ _ _ _ e
        · rw [if_neg c_12] at e
          try simp (disch := omega) only [↓i_in, ↓i_isCouple, ↓i_isBridge, ↓i_isTheme, ↓i_isBarge, i_lt, i_le, i_eq, i_clamp, i_upd, i_m1, Int32.toInt_toInt64, Int32.toInt_add, Int32.toInt_sub, Int32.toInt_mul, bm32, Int32.reduceToInt, Int64.reduceToInt, Nat.reduceLT, Nat.reduceEqDiff, reduceIte, w_1m0_2, w_1m0_3, w_1m0_4, w_1m0_5, w_1m0_6, w_1m0_14, w_1m0_42, w_3m0_2, w_3m0_3, w_3m0_4, w_3m0_5, w_3m0_6, w_3m0_14, w_3m0_42] at c_12
          exact ih (w_1l3 + 1) w_3l4 w_1l3 w_3m0 (⟨i_8, (by first | omega | (simp (disch := omega) only [↓i_in, ↓i_isCouple, ↓i_isBridge, ↓i_isTheme, ↓i_isBarge, i_lt, i_le, i_eq, i_clamp, i_upd, i_m1, Int32.toInt_toInt64, Int32.toInt_add, Int32.toInt_sub, Int32.toInt_mul, bm32, Int32.reduceToInt, Int64.reduceToInt, Nat.reduceLT, Nat.reduceEqDiff, reduceIte, w_1m0_2, w_1m0_3, w_1m0_4, w_1m0_5, w_1m0_6, w_1m0_14, w_1m0_42, w_3m0_2, w_3m0_3, w_3m0_4, w_3m0_5, w_3m0_6, w_3m0_14, w_3m0_42] <;> omega)), (by first | omega | (simp (disch := omega) only [↓i_in, ↓i_isCouple, ↓i_isBridge, ↓i_isTheme, ↓i_isBarge, i_lt, i_le, i_eq, i_clamp, i_upd, i_m1, Int32.toInt_toInt64, Int32.toInt_add, Int32.toInt_sub, Int32.toInt_mul, bm32, Int32.reduceToInt, Int64.reduceToInt, Nat.reduceLT, Nat.reduceEqDiff, reduceIte, w_1m0_2, w_1m0_3, w_1m0_4, w_1m0_5, w_1m0_6, w_1m0_14, w_1m0_42, w_3m0_2, w_3m0_3, w_3m0_4, w_3m0_5, w_3m0_6, w_3m0_14, w_3m0_42] <;> omega))⟩) _ _ _ _ e
      · rw [if_neg c_11] at e
        try simp (disch := omega) only [↓i_in, ↓i_isCouple, ↓i_isBridge, ↓i_isTheme, ↓i_isBarge, i_lt, i_le, i_eq, i_clamp, i_upd, i_m1, Int32.toInt_toInt64, Int32.toInt_add, Int32.toInt_sub, Int32.toInt_mul, bm32, Int32.reduceToInt, Int64.reduceToInt, Nat.reduceLT, Nat.reduceEqDiff, reduceIte, w_1m0_2, w_1m0_3, w_1m0_4, w_1m0_5, w_1m0_6, w_1m0_14, w_1m0_42, w_3m0_2, w_3m0_3, w_3m0_4, w_3m0_5, w_3m0_6, w_3m0_14, w_3m0_42] at c_11
        exact ih (w_1l3 + 1) w_1l2 w_1l1 w_3m0 (⟨i_8, (by first | omega | (simp (disch := omega) only [↓i_in, ↓i_isCouple, ↓i_isBridge, ↓i_isTheme, ↓i_isBarge, i_lt, i_le, i_eq, i_clamp, i_upd, i_m1, Int32.toInt_toInt64, Int32.toInt_add, Int32.toInt_sub, Int32.toInt_mul, bm32, Int32.reduceToInt, Int64.reduceToInt, Nat.reduceLT, Nat.reduceEqDiff, reduceIte, w_1m0_2, w_1m0_3, w_1m0_4, w_1m0_5, w_1m0_6, w_1m0_14, w_1m0_42, w_3m0_2, w_3m0_3, w_3m0_4, w_3m0_5, w_3m0_6, w_3m0_14, w_3m0_42] <;> omega)), (by first | omega | (simp (disch := omega) only [↓i_in, ↓i_isCouple, ↓i_isBridge, ↓i_isTheme, ↓i_isBarge, i_lt, i_le, i_eq, i_clamp, i_upd, i_m1, Int32.toInt_toInt64, Int32.toInt_add, Int32.toInt_sub, Int32.toInt_mul, bm32, Int32.reduceToInt, Int64.reduceToInt, Nat.reduceLT, Nat.reduceEqDiff, reduceIte, w_1m0_2, w_1m0_3, w_1m0_4, w_1m0_5, w_1m0_6, w_1m0_14, w_1m0_42, w_3m0_2, w_3m0_3, w_3m0_4, w_3m0_5, w_3m0_6, w_3m0_14, w_3m0_42] <;> omega))⟩) _ _ _ _ e
set_option maxHeartbeats 4000000 in
theorem s_wornOut {G : Nat → Int32} {f0 : Nat → Int32} {f10 : Nat → Int32} (h_0 : GI G) : S_m_wornOut G f0 f10 := by
  unfold S_m_wornOut
  have h_0_g := h_0
  obtain ⟨⟨h_0_2a, h_0_2b⟩, ⟨h_0_3a, h_0_3b⟩, ⟨h_0_4a, h_0_4b⟩, ⟨h_0_5a, h_0_5b⟩, ⟨h_0_6a, h_0_6b⟩, ⟨h_0_14a, h_0_14b⟩, ⟨h_0_42a, h_0_42b⟩⟩ := h_0_g
  refine sl_wornOut_8 h_0 ?_ 10 0 1000000000 (-1) G (⟨(QG.refl _), (by first | omega | (simp (disch := omega) only [↓i_in, ↓i_isCouple, ↓i_isBridge, ↓i_isTheme, ↓i_isBarge, i_lt, i_le, i_eq, i_clamp, i_upd, i_m1, Int32.toInt_toInt64, Int32.toInt_add, Int32.toInt_sub, Int32.toInt_mul, bm32, Int32.reduceToInt, Int64.reduceToInt, Nat.reduceLT, Nat.reduceEqDiff, reduceIte] <;> omega)), (by first | omega | (simp (disch := omega) only [↓i_in, ↓i_isCouple, ↓i_isBridge, ↓i_isTheme, ↓i_isBarge, i_lt, i_le, i_eq, i_clamp, i_upd, i_m1, Int32.toInt_toInt64, Int32.toInt_add, Int32.toInt_sub, Int32.toInt_mul, bm32, Int32.reduceToInt, Int64.reduceToInt, Nat.reduceLT, Nat.reduceEqDiff, reduceIte] <;> omega))⟩) (by first | omega | (simp (disch := omega) only [↓i_in, ↓i_isCouple, ↓i_isBridge, ↓i_isTheme, ↓i_isBarge, i_lt, i_le, i_eq, i_clamp, i_upd, i_m1, Int32.toInt_toInt64, Int32.toInt_add, Int32.toInt_sub, Int32.toInt_mul, bm32, Int32.reduceToInt, Int64.reduceToInt, Nat.reduceLT, Nat.reduceEqDiff, reduceIte] <;> omega))
  intro w_1l3 w_1l2 w_1l1 w_1m0 i_1
  obtain ⟨i_2, i_3, i_4⟩ := i_1
  obtain ⟨w_1m0_2, w_1m0_3, w_1m0_4, w_1m0_5, w_1m0_6, w_1m0_14, w_1m0_42⟩ := QGs i_2
  exact trivial
set_option maxHeartbeats 4000000 in
theorem p_wornOut {G : Nat → Int32} {f0 : Nat → Int32} {f10 : Nat → Int32} (h_0 : GI G) : ∀ (r : Int32) (u : (Nat → Int32)), f_m_wornOut G f0 f10 = (r, u) → QG G u := by
  have h_0_g := h_0
  obtain ⟨⟨h_0_2a, h_0_2b⟩, ⟨h_0_3a, h_0_3b⟩, ⟨h_0_4a, h_0_4b⟩, ⟨h_0_5a, h_0_5b⟩, ⟨h_0_6a, h_0_6b⟩, ⟨h_0_14a, h_0_14b⟩, ⟨h_0_42a, h_0_42b⟩⟩ := h_0_g
  intro r u e
  unfold f_m_wornOut at e
  generalize x_1 : (f_m_wornOut_8 f0 f10 10 0 1000000000 (-1) G) = z_2 at e
  obtain ⟨w_1l3, w_1l2, w_1l1, w_1m0⟩ := z_2
  replace e : ((w_1l1, w_1m0)) = (r, u) := e
  have p_3 := pl_wornOut_8 h_0 10 0 1000000000 (-1) G (⟨(QG.refl _), (by first | omega | (simp (disch := omega) only [↓i_in, ↓i_isCouple, ↓i_isBridge, ↓i_isTheme, ↓i_isBarge, i_lt, i_le, i_eq, i_clamp, i_upd, i_m1, Int32.toInt_toInt64, Int32.toInt_add, Int32.toInt_sub, Int32.toInt_mul, bm32, Int32.reduceToInt, Int64.reduceToInt, Nat.reduceLT, Nat.reduceEqDiff, reduceIte] <;> omega)), (by first | omega | (simp (disch := omega) only [↓i_in, ↓i_isCouple, ↓i_isBridge, ↓i_isTheme, ↓i_isBarge, i_lt, i_le, i_eq, i_clamp, i_upd, i_m1, Int32.toInt_toInt64, Int32.toInt_add, Int32.toInt_sub, Int32.toInt_mul, bm32, Int32.reduceToInt, Int64.reduceToInt, Nat.reduceLT, Nat.reduceEqDiff, reduceIte] <;> omega))⟩) _ _ _ _ x_1
  obtain ⟨i_4, i_5, i_6⟩ := p_3
  obtain ⟨w_1m0_2, w_1m0_3, w_1m0_4, w_1m0_5, w_1m0_6, w_1m0_14, w_1m0_42⟩ := QGs i_4
  cases e
  exact i_4
set_option maxHeartbeats 4000000 in
theorem sl_hire_39 {G : Nat → Int32} {f0 : Nat → Int32} {f10 : Nat → Int32} {f8 : Nat → Int32} {b_ : Int32} {K : Int32 → Int32 → Int32 → Int32 → (Nat → Int32) → Prop} (h_0 : GI G) (h_1 : 0 ≤ b_.toInt) (h_2 : b_.toInt < 6) (hK : ∀ w_9l6 w_9l5 w_9l4 w_9l3 w_9m0, (QG G w_9m0 ∧ (0 ≤ w_9l6.toInt) ∧ (w_9l6.toInt ≤ 6)) → K w_9l6 w_9l5 w_9l4 w_9l3 w_9m0) : ∀ (n : Nat) w_9l6 w_9l5 w_9l4 w_9l3 w_9m0, (QG G w_9m0 ∧ (0 ≤ w_9l6.toInt) ∧ (w_9l6.toInt ≤ 6)) → (7 - w_9l6.toInt).toNat < n → S_m_hire_39 f0 f10 f8 b_ K n w_9l6 w_9l5 w_9l4 w_9l3 w_9m0 := by
  have h_0_g := h_0
  obtain ⟨⟨h_0_2a, h_0_2b⟩, ⟨h_0_3a, h_0_3b⟩, ⟨h_0_4a, h_0_4b⟩, ⟨h_0_5a, h_0_5b⟩, ⟨h_0_6a, h_0_6b⟩, ⟨h_0_14a, h_0_14b⟩, ⟨h_0_42a, h_0_42b⟩⟩ := h_0_g
  intro n
  induction n with
  | zero => intro w_9l6 w_9l5 w_9l4 w_9l3 w_9m0 hI hm; exact absurd hm (Nat.not_lt_zero _)
  | succ n ih =>
    intro w_9l6 w_9l5 w_9l4 w_9l3 w_9m0 hI hm
    rw [S_m_hire_39_s]
    have hI0 := hI
    obtain ⟨i_1, i_2, i_3⟩ := hI0
    obtain ⟨w_9m0_2, w_9m0_3, w_9m0_4, w_9m0_5, w_9m0_6, w_9m0_14, w_9m0_42⟩ := QGs i_1
    refine ⟨fun c_4 => ?_, fun c_4 => ?_⟩
    · skip
      try simp (disch := omega) only [↓i_in, ↓i_isCouple, ↓i_isBridge, ↓i_isTheme, ↓i_isBarge, i_lt, i_le, i_eq, i_clamp, i_upd, i_m1, Int32.toInt_toInt64, Int32.toInt_add, Int32.toInt_sub, Int32.toInt_mul, bm32, Int32.reduceToInt, Int64.reduceToInt, Nat.reduceLT, Nat.reduceEqDiff, reduceIte, w_9m0_2, w_9m0_3, w_9m0_4, w_9m0_5, w_9m0_6, w_9m0_14, w_9m0_42] at c_4
      exact hK w_9l6 w_9l5 w_9l4 w_9l3 w_9m0 hI
    · skip
      try simp (disch := omega) only [↓i_in, ↓i_isCouple, ↓i_isBridge, ↓i_isTheme, ↓i_isBarge, i_lt, i_le, i_eq, i_clamp, i_upd, i_m1, Int32.toInt_toInt64, Int32.toInt_add, Int32.toInt_sub, Int32.toInt_mul, bm32, Int32.reduceToInt, Int64.reduceToInt, Nat.reduceLT, Nat.reduceEqDiff, reduceIte, w_9m0_2, w_9m0_3, w_9m0_4, w_9m0_5, w_9m0_6, w_9m0_14, w_9m0_42] at c_4
      refine ⟨(s_best (GI.of i_1 h_0) (by first | omega | (simp (disch := omega) only [↓i_in, ↓i_isCouple, ↓i_isBridge, ↓i_isTheme, ↓i_isBarge, i_lt, i_le, i_eq, i_clamp, i_upd, i_m1, Int32.toInt_toInt64, Int32.toInt_add, Int32.toInt_sub, Int32.toInt_mul, bm32, Int32.reduceToInt, Int64.reduceToInt, Nat.reduceLT, Nat.reduceEqDiff, reduceIte, w_9m0_2, w_9m0_3, w_9m0_4, w_9m0_5, w_9m0_6, w_9m0_14, w_9m0_42] <;> omega)) (by first | omega | (simp (disch := omega) only [↓i_in, ↓i_isCouple, ↓i_isBridge, ↓i_isTheme, ↓i_isBarge, i_lt, i_le, i_eq, i_clamp, i_upd, i_m1, Int32.toInt_toInt64, Int32.toInt_add, Int32.toInt_sub, Int32.toInt_mul, bm32, Int32.reduceToInt, Int64.reduceToInt, Nat.reduceLT, Nat.reduceEqDiff, reduceIte, w_9m0_2, w_9m0_3, w_9m0_4, w_9m0_5, w_9m0_6, w_9m0_14, w_9m0_42] <;> omega)) (by first | omega | (simp (disch := omega) only [↓i_in, ↓i_isCouple, ↓i_isBridge, ↓i_isTheme, ↓i_isBarge, i_lt, i_le, i_eq, i_clamp, i_upd, i_m1, Int32.toInt_toInt64, Int32.toInt_add, Int32.toInt_sub, Int32.toInt_mul, bm32, Int32.reduceToInt, Int64.reduceToInt, Nat.reduceLT, Nat.reduceEqDiff, reduceIte, w_9m0_2, w_9m0_3, w_9m0_4, w_9m0_5, w_9m0_6, w_9m0_14, w_9m0_42] <;> omega)) (by first | omega | (simp (disch := omega) only [↓i_in, ↓i_isCouple, ↓i_isBridge, ↓i_isTheme, ↓i_isBarge, i_lt, i_le, i_eq, i_clamp, i_upd, i_m1, Int32.toInt_toInt64, Int32.toInt_add, Int32.toInt_sub, Int32.toInt_mul, bm32, Int32.reduceToInt, Int64.reduceToInt, Nat.reduceLT, Nat.reduceEqDiff, reduceIte, w_9m0_2, w_9m0_3, w_9m0_4, w_9m0_5, w_9m0_6, w_9m0_14, w_9m0_42] <;> omega))), ?_⟩
      intro r_16 u_15 e_5
      have p_6 := p_best (GI.of i_1 h_0) (by first | omega | (simp (disch := omega) only [↓i_in, ↓i_isCouple, ↓i_isBridge, ↓i_isTheme, ↓i_isBarge, i_lt, i_le, i_eq, i_clamp, i_upd, i_m1, Int32.toInt_toInt64, Int32.toInt_add, Int32.toInt_sub, Int32.toInt_mul, bm32, Int32.reduceToInt, Int64.reduceToInt, Nat.reduceLT, Nat.reduceEqDiff, reduceIte, w_9m0_2, w_9m0_3, w_9m0_4, w_9m0_5, w_9m0_6, w_9m0_14, w_9m0_42] <;> omega)) (by first | omega | (simp (disch := omega) only [↓i_in, ↓i_isCouple, ↓i_isBridge, ↓i_isTheme, ↓i_isBarge, i_lt, i_le, i_eq, i_clamp, i_upd, i_m1, Int32.toInt_toInt64, Int32.toInt_add, Int32.toInt_sub, Int32.toInt_mul, bm32, Int32.reduceToInt, Int64.reduceToInt, Nat.reduceLT, Nat.reduceEqDiff, reduceIte, w_9m0_2, w_9m0_3, w_9m0_4, w_9m0_5, w_9m0_6, w_9m0_14, w_9m0_42] <;> omega)) (by first | omega | (simp (disch := omega) only [↓i_in, ↓i_isCouple, ↓i_isBridge, ↓i_isTheme, ↓i_isBarge, i_lt, i_le, i_eq, i_clamp, i_upd, i_m1, Int32.toInt_toInt64, Int32.toInt_add, Int32.toInt_sub, Int32.toInt_mul, bm32, Int32.reduceToInt, Int64.reduceToInt, Nat.reduceLT, Nat.reduceEqDiff, reduceIte, w_9m0_2, w_9m0_3, w_9m0_4, w_9m0_5, w_9m0_6, w_9m0_14, w_9m0_42] <;> omega)) (by first | omega | (simp (disch := omega) only [↓i_in, ↓i_isCouple, ↓i_isBridge, ↓i_isTheme, ↓i_isBarge, i_lt, i_le, i_eq, i_clamp, i_upd, i_m1, Int32.toInt_toInt64, Int32.toInt_add, Int32.toInt_sub, Int32.toInt_mul, bm32, Int32.reduceToInt, Int64.reduceToInt, Nat.reduceLT, Nat.reduceEqDiff, reduceIte, w_9m0_2, w_9m0_3, w_9m0_4, w_9m0_5, w_9m0_6, w_9m0_14, w_9m0_42] <;> omega)) _ _ e_5.symm
      have i_7 := p_6
      replace i_7 := QG.trans i_1 i_7
      obtain ⟨u_15_2, u_15_3, u_15_4, u_15_5, u_15_6, u_15_14, u_15_42⟩ := QGs i_7
      refine ⟨fun c_8 => ?_, fun c_8 => ?_⟩
      · skip
        try simp (disch := omega) only [↓i_in, ↓i_isCouple, ↓i_isBridge, ↓i_isTheme, ↓i_isBarge, i_lt, i_le, i_eq, i_clamp, i_upd, i_m1, Int32.toInt_toInt64, Int32.toInt_add, Int32.toInt_sub, Int32.toInt_mul, bm32, Int32.reduceToInt, Int64.reduceToInt, Nat.reduceLT, Nat.reduceEqDiff, reduceIte, w_9m0_2, w_9m0_3, w_9m0_4, w_9m0_5, w_9m0_6, w_9m0_14, w_9m0_42, u_15_2, u_15_3, u_15_4, u_15_5, u_15_6, u_15_14, u_15_42] at c_8
        refine ⟨fun c_9 => ?_, fun c_9 => ?_⟩
        · skip
          try simp (disch := omega) only [↓i_in, ↓i_isCouple, ↓i_isBridge, ↓i_isTheme, ↓i_isBarge, i_lt, i_le, i_eq, i_clamp, i_upd, i_m1, Int32.toInt_toInt64, Int32.toInt_add, Int32.toInt_sub, Int32.toInt_mul, bm32, Int32.reduceToInt, Int64.reduceToInt, Nat.reduceLT, Nat.reduceEqDiff, reduceIte, w_9m0_2, w_9m0_3, w_9m0_4, w_9m0_5, w_9m0_6, w_9m0_14, w_9m0_42, u_15_2, u_15_3, u_15_4, u_15_5, u_15_6, u_15_14, u_15_42] at c_9
          refine ⟨fun c_10 => ?_, fun c_10 => ?_⟩
          · skip
            try simp (disch := omega) only [↓i_in, ↓i_isCouple, ↓i_isBridge, ↓i_isTheme, ↓i_isBarge, i_lt, i_le, i_eq, i_clamp, i_upd, i_m1, Int32.toInt_toInt64, Int32.toInt_add, Int32.toInt_sub, Int32.toInt_mul, bm32, Int32.reduceToInt, Int64.reduceToInt, Nat.reduceLT, Nat.reduceEqDiff, reduceIte, w_9m0_2, w_9m0_3, w_9m0_4, w_9m0_5, w_9m0_6, w_9m0_14, w_9m0_42, u_15_2, u_15_3, u_15_4, u_15_5, u_15_6, u_15_14, u_15_42] at c_10
            refine ⟨fun c_11 => ?_, fun c_11 => ?_⟩
            · skip
              try simp (disch := omega) only [↓i_in, ↓i_isCouple, ↓i_isBridge, ↓i_isTheme, ↓i_isBarge, i_lt, i_le, i_eq, i_clamp, i_upd, i_m1, Int32.toInt_toInt64, Int32.toInt_add, Int32.toInt_sub, Int32.toInt_mul, bm32, Int32.reduceToInt, Int64.reduceToInt, Nat.reduceLT, Nat.reduceEqDiff, reduceIte, w_9m0_2, w_9m0_3, w_9m0_4, w_9m0_5, w_9m0_6, w_9m0_14, w_9m0_42, u_15_2, u_15_3, u_15_4, u_15_5, u_15_6, u_15_14, u_15_42] at c_11
              refine ⟨fun c_12 => ?_, fun c_12 => ?_⟩
              · skip
                try simp (disch := omega) only [↓i_in, ↓i_isCouple, ↓i_isBridge, ↓i_isTheme, ↓i_isBarge, i_lt, i_le, i_eq, i_clamp, i_upd, i_m1, Int32.toInt_toInt64, Int32.toInt_add, Int32.toInt_sub, Int32.toInt_mul, bm32, Int32.reduceToInt, Int64.reduceToInt, Nat.reduceLT, Nat.reduceEqDiff, reduceIte, w_9m0_2, w_9m0_3, w_9m0_4, w_9m0_5, w_9m0_6, w_9m0_14, w_9m0_42, u_15_2, u_15_3, u_15_4, u_15_5, u_15_6, u_15_14, u_15_42] at c_12
                exact ih (w_9l6 + 1) w_9l5 w_9l4 w_9l3 u_15 (⟨i_7, (by first | omega | (simp (disch := omega) only [↓i_in, ↓i_isCouple, ↓i_isBridge, ↓i_isTheme, ↓i_isBarge, i_lt, i_le, i_eq, i_clamp, i_upd, i_m1, Int32.toInt_toInt64, Int32.toInt_add, Int32.toInt_sub, Int32.toInt_mul, bm32, Int32.reduceToInt, Int64.reduceToInt, Nat.reduceLT, Nat.reduceEqDiff, reduceIte, w_9m0_2, w_9m0_3, w_9m0_4, w_9m0_5, w_9m0_6, w_9m0_14, w_9m0_42, u_15_2, u_15_3, u_15_4, u_15_5, u_15_6, u_15_14, u_15_42] <;> omega)), (by first | omega | (simp (disch := omega) only [↓i_in, ↓i_isCouple, ↓i_isBridge, ↓i_isTheme, ↓i_isBarge, i_lt, i_le, i_eq, i_clamp, i_upd, i_m1, Int32.toInt_toInt64, Int32.toInt_add, Int32.toInt_sub, Int32.toInt_mul, bm32, Int32.reduceToInt, Int64.reduceToInt, Nat.reduceLT, Nat.reduceEqDiff, reduceIte, w_9m0_2, w_9m0_3, w_9m0_4, w_9m0_5, w_9m0_6, w_9m0_14, w_9m0_42, u_15_2, u_15_3, u_15_4, u_15_5, u_15_6, u_15_14, u_15_42] <;> omega))⟩) (by first | omega | (simp (disch := omega) only [↓i_in, ↓i_isCouple, ↓i_isBridge, ↓i_isTheme, ↓i_isBarge, i_lt, i_le, i_eq, i_clamp, i_upd, i_m1, Int32.toInt_toInt64, Int32.toInt_add, Int32.toInt_sub, Int32.toInt_mul, bm32, Int32.reduceToInt, Int64.reduceToInt, Nat.reduceLT, Nat.reduceEqDiff, reduceIte, w_9m0_2, w_9m0_3, w_9m0_4, w_9m0_5, w_9m0_6, w_9m0_14, w_9m0_42, u_15_2, u_15_3, u_15_4, u_15_5, u_15_6, u_15_14, u_15_42] <;> omega))
              · skip
                try simp (disch := omega) only [↓i_in, ↓i_isCouple, ↓i_isBridge, ↓i_isTheme, ↓i_isBarge, i_lt, i_le, i_eq, i_clamp, i_upd, i_m1, Int32.toInt_toInt64, Int32.toInt_add, Int32.toInt_sub, Int32.toInt_mul, bm32, Int32.reduceToInt, Int64.reduceToInt, Nat.reduceLT, Nat.reduceEqDiff, reduceIte, w_9m0_2, w_9m0_3, w_9m0_4, w_9m0_5, w_9m0_6, w_9m0_14, w_9m0_42, u_15_2, u_15_3, u_15_4, u_15_5, u_15_6, u_15_14, u_15_42] at c_12
                exact ih (w_9l6 + 1) w_9l5 1000000000 w_9l3 u_15 (⟨i_7, (by first | omega | (simp (disch := omega) only [↓i_in, ↓i_isCouple, ↓i_isBridge, ↓i_isTheme, ↓i_isBarge, i_lt, i_le, i_eq, i_clamp, i_upd, i_m1, Int32.toInt_toInt64, Int32.toInt_add, Int32.toInt_sub, Int32.toInt_mul, bm32, Int32.reduceToInt, Int64.reduceToInt, Nat.reduceLT, Nat.reduceEqDiff, reduceIte, w_9m0_2, w_9m0_3, w_9m0_4, w_9m0_5, w_9m0_6, w_9m0_14, w_9m0_42, u_15_2, u_15_3, u_15_4, u_15_5, u_15_6, u_15_14, u_15_42] <;> omega)), (by first | omega | (simp (disch := omega) only [↓i_in, ↓i_isCouple, ↓i_isBridge, ↓i_isTheme, ↓i_isBarge, i_lt, i_le, i_eq, i_clamp, i_upd, i_m1, Int32.toInt_toInt64, Int32.toInt_add, Int32.toInt_sub, Int32.toInt_mul, bm32, Int32.reduceToInt, Int64.reduceToInt, Nat.reduceLT, Nat.reduceEqDiff, reduceIte, w_9m0_2, w_9m0_3, w_9m0_4, w_9m0_5, w_9m0_6, w_9m0_14, w_9m0_42, u_15_2, u_15_3, u_15_4, u_15_5, u_15_6, u_15_14, u_15_42] <;> omega))⟩) (by first | omega | (simp (disch := omega) only [↓i_in, ↓i_isCouple, ↓i_isBridge, ↓i_isTheme, ↓i_isBarge, i_lt, i_le, i_eq, i_clamp, i_upd, i_m1, Int32.toInt_toInt64, Int32.toInt_add, Int32.toInt_sub, Int32.toInt_mul, bm32, Int32.reduceToInt, Int64.reduceToInt, Nat.reduceLT, Nat.reduceEqDiff, reduceIte, w_9m0_2, w_9m0_3, w_9m0_4, w_9m0_5, w_9m0_6, w_9m0_14, w_9m0_42, u_15_2, u_15_3, u_15_4, u_15_5, u_15_6, u_15_14, u_15_42] <;> omega))
            · skip
              try simp (disch := omega) only [↓i_in, ↓i_isCouple, ↓i_isBridge, ↓i_isTheme, ↓i_isBarge, i_lt, i_le, i_eq, i_clamp, i_upd, i_m1, Int32.toInt_toInt64, Int32.toInt_add, Int32.toInt_sub, Int32.toInt_mul, bm32, Int32.reduceToInt, Int64.reduceToInt, Nat.reduceLT, Nat.reduceEqDiff, reduceIte, w_9m0_2, w_9m0_3, w_9m0_4, w_9m0_5, w_9m0_6, w_9m0_14, w_9m0_42, u_15_2, u_15_3, u_15_4, u_15_5, u_15_6, u_15_14, u_15_42] at c_11
              refine ⟨fun c_13 => ?_, fun c_13 => ?_⟩
              · skip
                try simp (disch := omega) only [↓i_in, ↓i_isCouple, ↓i_isBridge, ↓i_isTheme, ↓i_isBarge, i_lt, i_le, i_eq, i_clamp, i_upd, i_m1, Int32.toInt_toInt64, Int32.toInt_add, Int32.toInt_sub, Int32.toInt_mul, bm32, Int32.reduceToInt, Int64.reduceToInt, Nat.reduceLT, Nat.reduceEqDiff, reduceIte, w_9m0_2, w_9m0_3, w_9m0_4, w_9m0_5, w_9m0_6, w_9m0_14, w_9m0_42, u_15_2, u_15_3, u_15_4, u_15_5, u_15_6, u_15_14, u_15_42] at c_13
                exact ih (w_9l6 + 1) w_9l5 w_9l4 w_9l6 u_15 (⟨i_7, (by first | omega | (simp (disch := omega) only [↓i_in, ↓i_isCouple, ↓i_isBridge, ↓i_isTheme, ↓i_isBarge, i_lt, i_le, i_eq, i_clamp, i_upd, i_m1, Int32.toInt_toInt64, Int32.toInt_add, Int32.toInt_sub, Int32.toInt_mul, bm32, Int32.reduceToInt, Int64.reduceToInt, Nat.reduceLT, Nat.reduceEqDiff, reduceIte, w_9m0_2, w_9m0_3, w_9m0_4, w_9m0_5, w_9m0_6, w_9m0_14, w_9m0_42, u_15_2, u_15_3, u_15_4, u_15_5, u_15_6, u_15_14, u_15_42] <;> omega)), (by first | omega | (simp (disch := omega) only [↓i_in, ↓i_isCouple, ↓i_isBridge, ↓i_isTheme, ↓i_isBarge, i_lt, i_le, i_eq, i_clamp, i_upd, i_m1, Int32.toInt_toInt64, Int32.toInt_add, Int32.toInt_sub, Int32.toInt_mul, bm32, Int32.reduceToInt, Int64.reduceToInt, Nat.reduceLT, Nat.reduceEqDiff, reduceIte, w_9m0_2, w_9m0_3, w_9m0_4, w_9m0_5, w_9m0_6, w_9m0_14, w_9m0_42, u_15_2, u_15_3, u_15_4, u_15_5, u_15_6, u_15_14, u_15_42] <;> omega))⟩) (by first | omega | (simp (disch := omega) only [↓i_in, ↓i_isCouple, ↓i_isBridge, ↓i_isTheme, ↓i_isBarge, i_lt, i_le, i_eq, i_clamp, i_upd, i_m1, Int32.toInt_toInt64, Int32.toInt_add, Int32.toInt_sub, Int32.toInt_mul, bm32, Int32.reduceToInt, Int64.reduceToInt, Nat.reduceLT, Nat.reduceEqDiff, reduceIte, w_9m0_2, w_9m0_3, w_9m0_4, w_9m0_5, w_9m0_6, w_9m0_14, w_9m0_42, u_15_2, u_15_3, u_15_4, u_15_5, u_15_6, u_15_14, u_15_42] <;> omega))
              · skip
                try simp (disch := omega) only [↓i_in, ↓i_isCouple, ↓i_isBridge, ↓i_isTheme, ↓i_isBarge, i_lt, i_le, i_eq, i_clamp, i_upd, i_m1, Int32.toInt_toInt64, Int32.toInt_add, Int32.toInt_sub, Int32.toInt_mul, bm32, Int32.reduceToInt, Int64.reduceToInt, Nat.reduceLT, Nat.reduceEqDiff, reduceIte, w_9m0_2, w_9m0_3, w_9m0_4, w_9m0_5, w_9m0_6, w_9m0_14, w_9m0_42, u_15_2, u_15_3, u_15_4, u_15_5, u_15_6, u_15_14, u_15_42] at c_13
                exact ih (w_9l6 + 1) w_9l5 1000000000 w_9l6 u_15 (⟨i_7, (by first | omega | (simp (disch := omega) only [↓i_in, ↓i_isCouple, ↓i_isBridge, ↓i_isTheme, ↓i_isBarge, i_lt, i_le, i_eq, i_clamp, i_upd, i_m1, Int32.toInt_toInt64, Int32.toInt_add, Int32.toInt_sub, Int32.toInt_mul, bm32, Int32.reduceToInt, Int64.reduceToInt, Nat.reduceLT, Nat.reduceEqDiff, reduceIte, w_9m0_2, w_9m0_3, w_9m0_4, w_9m0_5, w_9m0_6, w_9m0_14, w_9m0_42, u_15_2, u_15_3, u_15_4, u_15_5, u_15_6, u_15_14, u_15_42] <;> omega)), (by first | omega | (simp (disch := omega) only [↓i_in, ↓i_isCouple, ↓i_isBridge, ↓i_isTheme, ↓i_isBarge, i_lt, i_le, i_eq, i_clamp, i_upd, i_m1, Int32.toInt_toInt64, Int32.toInt_add, Int32.toInt_sub, Int32.toInt_mul, bm32, Int32.reduceToInt, Int64.reduceToInt, Nat.reduceLT, Nat.reduceEqDiff, reduceIte, w_9m0_2, w_9m0_3, w_9m0_4, w_9m0_5, w_9m0_6, w_9m0_14, w_9m0_42, u_15_2, u_15_3, u_15_4, u_15_5, u_15_6, u_15_14, u_15_42] <;> omega))⟩) (by first | omega | (simp (disch := omega) only [↓i_in, ↓i_isCouple, ↓i_isBridge, ↓i_isTheme, ↓i_isBarge, i_lt, i_le, i_eq, i_clamp, i_upd, i_m1, Int32.toInt_toInt64, Int32.toInt_add, Int32.toInt_sub, Int32.toInt_mul, bm32, Int32.reduceToInt, Int64.reduceToInt, Nat.reduceLT, Nat.reduceEqDiff, reduceIte, w_9m0_2, w_9m0_3, w_9m0_4, w_9m0_5, w_9m0_6, w_9m0_14, w_9m0_42, u_15_2, u_15_3, u_15_4, u_15_5, u_15_6, u_15_14, u_15_42] <;> omega))
          · skip
            try simp (disch := omega) only [↓i_in, ↓i_isCouple, ↓i_isBridge, ↓i_isTheme, ↓i_isBarge, i_lt, i_le, i_eq, i_clamp, i_upd, i_m1, Int32.toInt_toInt64, Int32.toInt_add, Int32.toInt_sub, Int32.toInt_mul, bm32, Int32.reduceToInt, Int64.reduceToInt, Nat.reduceLT, Nat.reduceEqDiff, reduceIte, w_9m0_2, w_9m0_3, w_9m0_4, w_9m0_5, w_9m0_6, w_9m0_14, w_9m0_42, u_15_2, u_15_3, u_15_4, u_15_5, u_15_6, u_15_14, u_15_42] at c_10
            refine ⟨fun c_14 => ?_, fun c_14 => ?_⟩
            · skip
              try simp (disch := omega) only [↓i_in, ↓i_isCouple, ↓i_isBridge, ↓i_isTheme, ↓i_isBarge, i_lt, i_le, i_eq, i_clamp, i_upd, i_m1, Int32.toInt_toInt64, Int32.toInt_add, Int32.toInt_sub, Int32.toInt_mul, bm32, Int32.reduceToInt, Int64.reduceToInt, Nat.reduceLT, Nat.reduceEqDiff, reduceIte, w_9m0_2, w_9m0_3, w_9m0_4, w_9m0_5, w_9m0_6, w_9m0_14, w_9m0_42, u_15_2, u_15_3, u_15_4, u_15_5, u_15_6, u_15_14, u_15_42] at c_14
              refine ⟨fun c_15 => ?_, fun c_15 => ?_⟩
              · skip
                try simp (disch := omega) only [↓i_in, ↓i_isCouple, ↓i_isBridge, ↓i_isTheme, ↓i_isBarge, i_lt, i_le, i_eq, i_clamp, i_upd, i_m1, Int32.toInt_toInt64, Int32.toInt_add, Int32.toInt_sub, Int32.toInt_mul, bm32, Int32.reduceToInt, Int64.reduceToInt, Nat.reduceLT, Nat.reduceEqDiff, reduceIte, w_9m0_2, w_9m0_3, w_9m0_4, w_9m0_5, w_9m0_6, w_9m0_14, w_9m0_42, u_15_2, u_15_3, u_15_4, u_15_5, u_15_6, u_15_14, u_15_42] at c_15
                exact ih (w_9l6 + 1) 1000000000 w_9l4 w_9l3 u_15 (⟨i_7, (by first | omega | (simp (disch := omega) only [↓i_in, ↓i_isCouple, ↓i_isBridge, ↓i_isTheme, ↓i_isBarge, i_lt, i_le, i_eq, i_clamp, i_upd, i_m1, Int32.toInt_toInt64, Int32.toInt_add, Int32.toInt_sub, Int32.toInt_mul, bm32, Int32.reduceToInt, Int64.reduceToInt, Nat.reduceLT, Nat.reduceEqDiff, reduceIte, w_9m0_2, w_9m0_3, w_9m0_4, w_9m0_5, w_9m0_6, w_9m0_14, w_9m0_42, u_15_2, u_15_3, u_15_4, u_15_5, u_15_6, u_15_14, u_15_42] <;> omega)), (by first | omega | (simp (disch := omega) only [↓i_in, ↓i_isCouple, ↓i_isBridge, ↓i_isTheme, ↓i_isBarge, i_lt, i_le, i_eq, i_clamp, i_upd, i_m1, Int32.toInt_toInt64, Int32.toInt_add, Int32.toInt_sub, Int32.toInt_mul, bm32, Int32.reduceToInt, Int64.reduceToInt, Nat.reduceLT, Nat.reduceEqDiff, reduceIte, w_9m0_2, w_9m0_3, w_9m0_4, w_9m0_5, w_9m0_6, w_9m0_14, w_9m0_42, u_15_2, u_15_3, u_15_4, u_15_5, u_15_6, u_15_14, u_15_42] <;> omega))⟩) (by first | omega | (simp (disch := omega) only [↓i_in, ↓i_isCouple, ↓i_isBridge, ↓i_isTheme, ↓i_isBarge, i_lt, i_le, i_eq, i_clamp, i_upd, i_m1, Int32.toInt_toInt64, Int32.toInt_add, Int32.toInt_sub, Int32.toInt_mul, bm32, Int32.reduceToInt, Int64.reduceToInt, Nat.reduceLT, Nat.reduceEqDiff, reduceIte, w_9m0_2, w_9m0_3, w_9m0_4, w_9m0_5, w_9m0_6, w_9m0_14, w_9m0_42, u_15_2, u_15_3, u_15_4, u_15_5, u_15_6, u_15_14, u_15_42] <;> omega))
              · skip
                try simp (disch := omega) only [↓i_in, ↓i_isCouple, ↓i_isBridge, ↓i_isTheme, ↓i_isBarge, i_lt, i_le, i_eq, i_clamp, i_upd, i_m1, Int32.toInt_toInt64, Int32.toInt_add, Int32.toInt_sub, Int32.toInt_mul, bm32, Int32.reduceToInt, Int64.reduceToInt, Nat.reduceLT, Nat.reduceEqDiff, reduceIte, w_9m0_2, w_9m0_3, w_9m0_4, w_9m0_5, w_9m0_6, w_9m0_14, w_9m0_42, u_15_2, u_15_3, u_15_4, u_15_5, u_15_6, u_15_14, u_15_42] at c_15
                exact ih (w_9l6 + 1) 1000000000 1000000000 w_9l3 u_15 (⟨i_7, (by first | omega | (simp (disch := omega) only [↓i_in, ↓i_isCouple, ↓i_isBridge, ↓i_isTheme, ↓i_isBarge, i_lt, i_le, i_eq, i_clamp, i_upd, i_m1, Int32.toInt_toInt64, Int32.toInt_add, Int32.toInt_sub, Int32.toInt_mul, bm32, Int32.reduceToInt, Int64.reduceToInt, Nat.reduceLT, Nat.reduceEqDiff, reduceIte, w_9m0_2, w_9m0_3, w_9m0_4, w_9m0_5, w_9m0_6, w_9m0_14, w_9m0_42, u_15_2, u_15_3, u_15_4, u_15_5, u_15_6, u_15_14, u_15_42] <;> omega)), (by first | omega | (simp (disch := omega) only [↓i_in, ↓i_isCouple, ↓i_isBridge, ↓i_isTheme, ↓i_isBarge, i_lt, i_le, i_eq, i_clamp, i_upd, i_m1, Int32.toInt_toInt64, Int32.toInt_add, Int32.toInt_sub, Int32.toInt_mul, bm32, Int32.reduceToInt, Int64.reduceToInt, Nat.reduceLT, Nat.reduceEqDiff, reduceIte, w_9m0_2, w_9m0_3, w_9m0_4, w_9m0_5, w_9m0_6, w_9m0_14, w_9m0_42, u_15_2, u_15_3, u_15_4, u_15_5, u_15_6, u_15_14, u_15_42] <;> omega))⟩) (by first | omega | (simp (disch := omega) only [↓i_in, ↓i_isCouple, ↓i_isBridge, ↓i_isTheme, ↓i_isBarge, i_lt, i_le, i_eq, i_clamp, i_upd, i_m1, Int32.toInt_toInt64, Int32.toInt_add, Int32.toInt_sub, Int32.toInt_mul, bm32, Int32.reduceToInt, Int64.reduceToInt, Nat.reduceLT, Nat.reduceEqDiff, reduceIte, w_9m0_2, w_9m0_3, w_9m0_4, w_9m0_5, w_9m0_6, w_9m0_14, w_9m0_42, u_15_2, u_15_3, u_15_4, u_15_5, u_15_6, u_15_14, u_15_42] <;> omega))
            · skip
              try simp (disch := omega) only [↓i_in, ↓i_isCouple, ↓i_isBridge, ↓i_isTheme, ↓i_isBarge, i_lt, i_le, i_eq, i_clamp, i_upd, i_m1, Int32.toInt_toInt64, Int32.toInt_add, Int32.toInt_sub, Int32.toInt_mul, bm32, Int32.reduceToInt, Int64.reduceToInt, Nat.reduceLT, Nat.reduceEqDiff, reduceIte, w_9m0_2, w_9m0_3, w_9m0_4, w_9m0_5, w_9m0_6, w_9m0_14, w_9m0_42, u_15_2, u_15_3, u_15_4, u_15_5, u_15_6, u_15_14, u_15_42] at c_14
              refine ⟨fun c_16 => ?_, fun c_16 => ?_⟩
              · skip
                try simp (disch := omega) only [↓i_in, ↓i_isCouple, ↓i_isBridge, ↓i_isTheme, ↓i_isBarge, i_lt, i_le, i_eq, i_clamp, i_upd, i_m1, Int32.toInt_toInt64, Int32.toInt_add, Int32.toInt_sub, Int32.toInt_mul, bm32, Int32.reduceToInt, Int64.reduceToInt, Nat.reduceLT, Nat.reduceEqDiff, reduceIte, w_9m0_2, w_9m0_3, w_9m0_4, w_9m0_5, w_9m0_6, w_9m0_14, w_9m0_42, u_15_2, u_15_3, u_15_4, u_15_5, u_15_6, u_15_14, u_15_42] at c_16
                exact ih (w_9l6 + 1) 1000000000 w_9l4 w_9l6 u_15 (⟨i_7, (by first | omega | (simp (disch := omega) only [↓i_in, ↓i_isCouple, ↓i_isBridge, ↓i_isTheme, ↓i_isBarge, i_lt, i_le, i_eq, i_clamp, i_upd, i_m1, Int32.toInt_toInt64, Int32.toInt_add, Int32.toInt_sub, Int32.toInt_mul, bm32, Int32.reduceToInt, Int64.reduceToInt, Nat.reduceLT, Nat.reduceEqDiff, reduceIte, w_9m0_2, w_9m0_3, w_9m0_4, w_9m0_5, w_9m0_6, w_9m0_14, w_9m0_42, u_15_2, u_15_3, u_15_4, u_15_5, u_15_6, u_15_14, u_15_42] <;> omega)), (by first | omega | (simp (disch := omega) only [↓i_in, ↓i_isCouple, ↓i_isBridge, ↓i_isTheme, ↓i_isBarge, i_lt, i_le, i_eq, i_clamp, i_upd, i_m1, Int32.toInt_toInt64, Int32.toInt_add, Int32.toInt_sub, Int32.toInt_mul, bm32, Int32.reduceToInt, Int64.reduceToInt, Nat.reduceLT, Nat.reduceEqDiff, reduceIte, w_9m0_2, w_9m0_3, w_9m0_4, w_9m0_5, w_9m0_6, w_9m0_14, w_9m0_42, u_15_2, u_15_3, u_15_4, u_15_5, u_15_6, u_15_14, u_15_42] <;> omega))⟩) (by first | omega | (simp (disch := omega) only [↓i_in, ↓i_isCouple, ↓i_isBridge, ↓i_isTheme, ↓i_isBarge, i_lt, i_le, i_eq, i_clamp, i_upd, i_m1, Int32.toInt_toInt64, Int32.toInt_add, Int32.toInt_sub, Int32.toInt_mul, bm32, Int32.reduceToInt, Int64.reduceToInt, Nat.reduceLT, Nat.reduceEqDiff, reduceIte, w_9m0_2, w_9m0_3, w_9m0_4, w_9m0_5, w_9m0_6, w_9m0_14, w_9m0_42, u_15_2, u_15_3, u_15_4, u_15_5, u_15_6, u_15_14, u_15_42] <;> omega))
              · skip
                try simp (disch := omega) only [↓i_in, ↓i_isCouple, ↓i_isBridge, ↓i_isTheme, ↓i_isBarge, i_lt, i_le, i_eq, i_clamp, i_upd, i_m1, Int32.toInt_toInt64, Int32.toInt_add, Int32.toInt_sub, Int32.toInt_mul, bm32, Int32.reduceToInt, Int64.reduceToInt, Nat.reduceLT, Nat.reduceEqDiff, reduceIte, w_9m0_2, w_9m0_3, w_9m0_4, w_9m0_5, w_9m0_6, w_9m0_14, w_9m0_42, u_15_2, u_15_3, u_15_4, u_15_5, u_15_6, u_15_14, u_15_42] at c_16
                exact ih (w_9l6 + 1) 1000000000 1000000000 w_9l6 u_15 (⟨i_7, (by first | omega | (simp (disch := omega) only [↓i_in, ↓i_isCouple, ↓i_isBridge, ↓i_isTheme, ↓i_isBarge, i_lt, i_le, i_eq, i_clamp, i_upd, i_m1, Int32.toInt_toInt64, Int32.toInt_add, Int32.toInt_sub, Int32.toInt_mul, bm32, Int32.reduceToInt, Int64.reduceToInt, Nat.reduceLT, Nat.reduceEqDiff, reduceIte, w_9m0_2, w_9m0_3, w_9m0_4, w_9m0_5, w_9m0_6, w_9m0_14, w_9m0_42, u_15_2, u_15_3, u_15_4, u_15_5, u_15_6, u_15_14, u_15_42] <;> omega)), (by first | omega | (simp (disch := omega) only [↓i_in, ↓i_isCouple, ↓i_isBridge, ↓i_isTheme, ↓i_isBarge, i_lt, i_le, i_eq, i_clamp, i_upd, i_m1, Int32.toInt_toInt64, Int32.toInt_add, Int32.toInt_sub, Int32.toInt_mul, bm32, Int32.reduceToInt, Int64.reduceToInt, Nat.reduceLT, Nat.reduceEqDiff, reduceIte, w_9m0_2, w_9m0_3, w_9m0_4, w_9m0_5, w_9m0_6, w_9m0_14, w_9m0_42, u_15_2, u_15_3, u_15_4, u_15_5, u_15_6, u_15_14, u_15_42] <;> omega))⟩) (by first | omega | (simp (disch := omega) only [↓i_in, ↓i_isCouple, ↓i_isBridge, ↓i_isTheme, ↓i_isBarge, i_lt, i_le, i_eq, i_clamp, i_upd, i_m1, Int32.toInt_toInt64, Int32.toInt_add, Int32.toInt_sub, Int32.toInt_mul, bm32, Int32.reduceToInt, Int64.reduceToInt, Nat.reduceLT, Nat.reduceEqDiff, reduceIte, w_9m0_2, w_9m0_3, w_9m0_4, w_9m0_5, w_9m0_6, w_9m0_14, w_9m0_42, u_15_2, u_15_3, u_15_4, u_15_5, u_15_6, u_15_14, u_15_42] <;> omega))
        · skip
          try simp (disch := omega) only [↓i_in, ↓i_isCouple, ↓i_isBridge, ↓i_isTheme, ↓i_isBarge, i_lt, i_le, i_eq, i_clamp, i_upd, i_m1, Int32.toInt_toInt64, Int32.toInt_add, Int32.toInt_sub, Int32.toInt_mul, bm32, Int32.reduceToInt, Int64.reduceToInt, Nat.reduceLT, Nat.reduceEqDiff, reduceIte, w_9m0_2, w_9m0_3, w_9m0_4, w_9m0_5, w_9m0_6, w_9m0_14, w_9m0_42, u_15_2, u_15_3, u_15_4, u_15_5, u_15_6, u_15_14, u_15_42] at c_9
          refine ⟨fun c_17 => ?_, fun c_17 => ?_⟩
          · skip
            try simp (disch := omega) only [↓i_in, ↓i_isCouple, ↓i_isBridge, ↓i_isTheme, ↓i_isBarge, i_lt, i_le, i_eq, i_clamp, i_upd, i_m1, Int32.toInt_toInt64, Int32.toInt_add, Int32.toInt_sub, Int32.toInt_mul, bm32, Int32.reduceToInt, Int64.reduceToInt, Nat.reduceLT, Nat.reduceEqDiff, reduceIte, w_9m0_2, w_9m0_3, w_9m0_4, w_9m0_5, w_9m0_6, w_9m0_14, w_9m0_42, u_15_2, u_15_3, u_15_4, u_15_5, u_15_6, u_15_14, u_15_42] at c_17
            refine ⟨fun c_18 => ?_, fun c_18 => ?_⟩
            · skip
              try simp (disch := omega) only [↓i_in, ↓i_isCouple, ↓i_isBridge, ↓i_isTheme, ↓i_isBarge, i_lt, i_le, i_eq, i_clamp, i_upd, i_m1, Int32.toInt_toInt64, Int32.toInt_add, Int32.toInt_sub, Int32.toInt_mul, bm32, Int32.reduceToInt, Int64.reduceToInt, Nat.reduceLT, Nat.reduceEqDiff, reduceIte, w_9m0_2, w_9m0_3, w_9m0_4, w_9m0_5, w_9m0_6, w_9m0_14, w_9m0_42, u_15_2, u_15_3, u_15_4, u_15_5, u_15_6, u_15_14, u_15_42] at c_18
              exact ih (w_9l6 + 1) w_9l4 w_9l4 w_9l3 u_15 (⟨i_7, (by first | omega | (simp (disch := omega) only [↓i_in, ↓i_isCouple, ↓i_isBridge, ↓i_isTheme, ↓i_isBarge, i_lt, i_le, i_eq, i_clamp, i_upd, i_m1, Int32.toInt_toInt64, Int32.toInt_add, Int32.toInt_sub, Int32.toInt_mul, bm32, Int32.reduceToInt, Int64.reduceToInt, Nat.reduceLT, Nat.reduceEqDiff, reduceIte, w_9m0_2, w_9m0_3, w_9m0_4, w_9m0_5, w_9m0_6, w_9m0_14, w_9m0_42, u_15_2, u_15_3, u_15_4, u_15_5, u_15_6, u_15_14, u_15_42] <;> omega)), (by first | omega | (simp (disch := omega) only [↓i_in, ↓i_isCouple, ↓i_isBridge, ↓i_isTheme, ↓i_isBarge, i_lt, i_le, i_eq, i_clamp, i_upd, i_m1, Int32.toInt_toInt64, Int32.toInt_add, Int32.toInt_sub, Int32.toInt_mul, bm32, Int32.reduceToInt, Int64.reduceToInt, Nat.reduceLT, Nat.reduceEqDiff, reduceIte, w_9m0_2, w_9m0_3, w_9m0_4, w_9m0_5, w_9m0_6, w_9m0_14, w_9m0_42, u_15_2, u_15_3, u_15_4, u_15_5, u_15_6, u_15_14, u_15_42] <;> omega))⟩) (by first | omega | (simp (disch := omega) only [↓i_in, ↓i_isCouple, ↓i_isBridge, ↓i_isTheme, ↓i_isBarge, i_lt, i_le, i_eq, i_clamp, i_upd, i_m1, Int32.toInt_toInt64, Int32.toInt_add, Int32.toInt_sub, Int32.toInt_mul, bm32, Int32.reduceToInt, Int64.reduceToInt, Nat.reduceLT, Nat.reduceEqDiff, reduceIte, w_9m0_2, w_9m0_3, w_9m0_4, w_9m0_5, w_9m0_6, w_9m0_14, w_9m0_42, u_15_2, u_15_3, u_15_4, u_15_5, u_15_6, u_15_14, u_15_42] <;> omega))
            · skip
              try simp (disch := omega) only [↓i_in, ↓i_isCouple, ↓i_isBridge, ↓i_isTheme, ↓i_isBarge, i_lt, i_le, i_eq, i_clamp, i_upd, i_m1, Int32.toInt_toInt64, Int32.toInt_add, Int32.toInt_sub, Int32.toInt_mul, bm32, Int32.reduceToInt, Int64.reduceToInt, Nat.reduceLT, Nat.reduceEqDiff, reduceIte, w_9m0_2, w_9m0_3, w_9m0_4, w_9m0_5, w_9m0_6, w_9m0_14, w_9m0_42, u_15_2, u_15_3, u_15_4, u_15_5, u_15_6, u_15_14, u_15_42] at c_18
              exact ih (w_9l6 + 1) w_9l4 1000000000 w_9l3 u_15 (⟨i_7, (by first | omega | (simp (disch := omega) only [↓i_in, ↓i_isCouple, ↓i_isBridge, ↓i_isTheme, ↓i_isBarge, i_lt, i_le, i_eq, i_clamp, i_upd, i_m1, Int32.toInt_toInt64, Int32.toInt_add, Int32.toInt_sub, Int32.toInt_mul, bm32, Int32.reduceToInt, Int64.reduceToInt, Nat.reduceLT, Nat.reduceEqDiff, reduceIte, w_9m0_2, w_9m0_3, w_9m0_4, w_9m0_5, w_9m0_6, w_9m0_14, w_9m0_42, u_15_2, u_15_3, u_15_4, u_15_5, u_15_6, u_15_14, u_15_42] <;> omega)), (by first | omega | (simp (disch := omega) only [↓i_in, ↓i_isCouple, ↓i_isBridge, ↓i_isTheme, ↓i_isBarge, i_lt, i_le, i_eq, i_clamp, i_upd, i_m1, Int32.toInt_toInt64, Int32.toInt_add, Int32.toInt_sub, Int32.toInt_mul, bm32, Int32.reduceToInt, Int64.reduceToInt, Nat.reduceLT, Nat.reduceEqDiff, reduceIte, w_9m0_2, w_9m0_3, w_9m0_4, w_9m0_5, w_9m0_6, w_9m0_14, w_9m0_42, u_15_2, u_15_3, u_15_4, u_15_5, u_15_6, u_15_14, u_15_42] <;> omega))⟩) (by first | omega | (simp (disch := omega) only [↓i_in, ↓i_isCouple, ↓i_isBridge, ↓i_isTheme, ↓i_isBarge, i_lt, i_le, i_eq, i_clamp, i_upd, i_m1, Int32.toInt_toInt64, Int32.toInt_add, Int32.toInt_sub, Int32.toInt_mul, bm32, Int32.reduceToInt, Int64.reduceToInt, Nat.reduceLT, Nat.reduceEqDiff, reduceIte, w_9m0_2, w_9m0_3, w_9m0_4, w_9m0_5, w_9m0_6, w_9m0_14, w_9m0_42, u_15_2, u_15_3, u_15_4, u_15_5, u_15_6, u_15_14, u_15_42] <;> omega))
          · skip
            try simp (disch := omega) only [↓i_in, ↓i_isCouple, ↓i_isBridge, ↓i_isTheme, ↓i_isBarge, i_lt, i_le, i_eq, i_clamp, i_upd, i_m1, Int32.toInt_toInt64, Int32.toInt_add, Int32.toInt_sub, Int32.toInt_mul, bm32, Int32.reduceToInt, Int64.reduceToInt, Nat.reduceLT, Nat.reduceEqDiff, reduceIte, w_9m0_2, w_9m0_3, w_9m0_4, w_9m0_5, w_9m0_6, w_9m0_14, w_9m0_42, u_15_2, u_15_3, u_15_4, u_15_5, u_15_6, u_15_14, u_15_42] at c_17
            refine ⟨fun c_19 => ?_, fun c_19 => ?_⟩
            · skip
              try simp (disch := omega) only [↓i_in, ↓i_isCouple, ↓i_isBridge, ↓i_isTheme, ↓i_isBarge, i_lt, i_le, i_eq, i_clamp, i_upd, i_m1, Int32.toInt_toInt64, Int32.toInt_add, Int32.toInt_sub, Int32.toInt_mul, bm32, Int32.reduceToInt, Int64.reduceToInt, Nat.reduceLT, Nat.reduceEqDiff, reduceIte, w_9m0_2, w_9m0_3, w_9m0_4, w_9m0_5, w_9m0_6, w_9m0_14, w_9m0_42, u_15_2, u_15_3, u_15_4, u_15_5, u_15_6, u_15_14, u_15_42] at c_19
              exact ih (w_9l6 + 1) w_9l4 w_9l4 w_9l6 u_15 (⟨i_7, (by first | omega | (simp (disch := omega) only [↓i_in, ↓i_isCouple, ↓i_isBridge, ↓i_isTheme, ↓i_isBarge, i_lt, i_le, i_eq, i_clamp, i_upd, i_m1, Int32.toInt_toInt64, Int32.toInt_add, Int32.toInt_sub, Int32.toInt_mul, bm32, Int32.reduceToInt, Int64.reduceToInt, Nat.reduceLT, Nat.reduceEqDiff, reduceIte, w_9m0_2, w_9m0_3, w_9m0_4, w_9m0_5, w_9m0_6, w_9m0_14, w_9m0_42, u_15_2, u_15_3, u_15_4, u_15_5, u_15_6, u_15_14, u_15_42] <;> omega)), (by first | omega | (simp (disch := omega) only [↓i_in, ↓i_isCouple, ↓i_isBridge, ↓i_isTheme, ↓i_isBarge, i_lt, i_le, i_eq, i_clamp, i_upd, i_m1, Int32.toInt_toInt64, Int32.toInt_add, Int32.toInt_sub, Int32.toInt_mul, bm32, Int32.reduceToInt, Int64.reduceToInt, Nat.reduceLT, Nat.reduceEqDiff, reduceIte, w_9m0_2, w_9m0_3, w_9m0_4, w_9m0_5, w_9m0_6, w_9m0_14, w_9m0_42, u_15_2, u_15_3, u_15_4, u_15_5, u_15_6, u_15_14, u_15_42] <;> omega))⟩) (by first | omega | (simp (disch := omega) only [↓i_in, ↓i_isCouple, ↓i_isBridge, ↓i_isTheme, ↓i_isBarge, i_lt, i_le, i_eq, i_clamp, i_upd, i_m1, Int32.toInt_toInt64, Int32.toInt_add, Int32.toInt_sub, Int32.toInt_mul, bm32, Int32.reduceToInt, Int64.reduceToInt, Nat.reduceLT, Nat.reduceEqDiff, reduceIte, w_9m0_2, w_9m0_3, w_9m0_4, w_9m0_5, w_9m0_6, w_9m0_14, w_9m0_42, u_15_2, u_15_3, u_15_4, u_15_5, u_15_6, u_15_14, u_15_42] <;> omega))
            · skip
              try simp (disch := omega) only [↓i_in, ↓i_isCouple, ↓i_isBridge, ↓i_isTheme, ↓i_isBarge, i_lt, i_le, i_eq, i_clamp, i_upd, i_m1, Int32.toInt_toInt64, Int32.toInt_add, Int32.toInt_sub, Int32.toInt_mul, bm32, Int32.reduceToInt, Int64.reduceToInt, Nat.reduceLT, Nat.reduceEqDiff, reduceIte, w_9m0_2, w_9m0_3, w_9m0_4, w_9m0_5, w_9m0_6, w_9m0_14, w_9m0_42, u_15_2, u_15_3, u_15_4, u_15_5, u_15_6, u_15_14, u_15_42] at c_19
              exact ih (w_9l6 + 1) w_9l4 1000000000 w_9l6 u_15 (⟨i_7, (by first | omega | (simp (disch := omega) only [↓i_in, ↓i_isCouple, ↓i_isBridge, ↓i_isTheme, ↓i_isBarge, i_lt, i_le, i_eq, i_clamp, i_upd, i_m1, Int32.toInt_toInt64, Int32.toInt_add, Int32.toInt_sub, Int32.toInt_mul, bm32, Int32.reduceToInt, Int64.reduceToInt, Nat.reduceLT, Nat.reduceEqDiff, reduceIte, w_9m0_2, w_9m0_3, w_9m0_4, w_9m0_5, w_9m0_6, w_9m0_14, w_9m0_42, u_15_2, u_15_3, u_15_4, u_15_5, u_15_6, u_15_14, u_15_42] <;> omega)), (by first | omega | (simp (disch := omega) only [↓i_in, ↓i_isCouple, ↓i_isBridge, ↓i_isTheme, ↓i_isBarge, i_lt, i_le, i_eq, i_clamp, i_upd, i_m1, Int32.toInt_toInt64, Int32.toInt_add, Int32.toInt_sub, Int32.toInt_mul, bm32, Int32.reduceToInt, Int64.reduceToInt, Nat.reduceLT, Nat.reduceEqDiff, reduceIte, w_9m0_2, w_9m0_3, w_9m0_4, w_9m0_5, w_9m0_6, w_9m0_14, w_9m0_42, u_15_2, u_15_3, u_15_4, u_15_5, u_15_6, u_15_14, u_15_42] <;> omega))⟩) (by first | omega | (simp (disch := omega) only [↓i_in, ↓i_isCouple, ↓i_isBridge, ↓i_isTheme, ↓i_isBarge, i_lt, i_le, i_eq, i_clamp, i_upd, i_m1, Int32.toInt_toInt64, Int32.toInt_add, Int32.toInt_sub, Int32.toInt_mul, bm32, Int32.reduceToInt, Int64.reduceToInt, Nat.reduceLT, Nat.reduceEqDiff, reduceIte, w_9m0_2, w_9m0_3, w_9m0_4, w_9m0_5, w_9m0_6, w_9m0_14, w_9m0_42, u_15_2, u_15_3, u_15_4, u_15_5, u_15_6, u_15_14, u_15_42] <;> omega))
      · skip
        try simp (disch := omega) only [↓i_in, ↓i_isCouple, ↓i_isBridge, ↓i_isTheme, ↓i_isBarge, i_lt, i_le, i_eq, i_clamp, i_upd, i_m1, Int32.toInt_toInt64, Int32.toInt_add, Int32.toInt_sub, Int32.toInt_mul, bm32, Int32.reduceToInt, Int64.reduceToInt, Nat.reduceLT, Nat.reduceEqDiff, reduceIte, w_9m0_2, w_9m0_3, w_9m0_4, w_9m0_5, w_9m0_6, w_9m0_14, w_9m0_42, u_15_2, u_15_3, u_15_4, u_15_5, u_15_6, u_15_14, u_15_42] at c_8
        refine ⟨fun c_20 => ?_, fun c_20 => ?_⟩
        · skip
          try simp (disch := omega) only [↓i_in, ↓i_isCouple, ↓i_isBridge, ↓i_isTheme, ↓i_isBarge, i_lt, i_le, i_eq, i_clamp, i_upd, i_m1, Int32.toInt_toInt64, Int32.toInt_add, Int32.toInt_sub, Int32.toInt_mul, bm32, Int32.reduceToInt, Int64.reduceToInt, Nat.reduceLT, Nat.reduceEqDiff, reduceIte, w_9m0_2, w_9m0_3, w_9m0_4, w_9m0_5, w_9m0_6, w_9m0_14, w_9m0_42, u_15_2, u_15_3, u_15_4, u_15_5, u_15_6, u_15_14, u_15_42] at c_20
          refine ⟨fun c_21 => ?_, fun c_21 => ?_⟩
          · skip
            try simp (disch := omega) only [↓i_in, ↓i_isCouple, ↓i_isBridge, ↓i_isTheme, ↓i_isBarge, i_lt, i_le, i_eq, i_clamp, i_upd, i_m1, Int32.toInt_toInt64, Int32.toInt_add, Int32.toInt_sub, Int32.toInt_mul, bm32, Int32.reduceToInt, Int64.reduceToInt, Nat.reduceLT, Nat.reduceEqDiff, reduceIte, w_9m0_2, w_9m0_3, w_9m0_4, w_9m0_5, w_9m0_6, w_9m0_14, w_9m0_42, u_15_2, u_15_3, u_15_4, u_15_5, u_15_6, u_15_14, u_15_42] at c_21
            refine ⟨fun c_22 => ?_, fun c_22 => ?_⟩
            · skip
              try simp (disch := omega) only [↓i_in, ↓i_isCouple, ↓i_isBridge, ↓i_isTheme, ↓i_isBarge, i_lt, i_le, i_eq, i_clamp, i_upd, i_m1, Int32.toInt_toInt64, Int32.toInt_add, Int32.toInt_sub, Int32.toInt_mul, bm32, Int32.reduceToInt, Int64.reduceToInt, Nat.reduceLT, Nat.reduceEqDiff, reduceIte, w_9m0_2, w_9m0_3, w_9m0_4, w_9m0_5, w_9m0_6, w_9m0_14, w_9m0_42, u_15_2, u_15_3, u_15_4, u_15_5, u_15_6, u_15_14, u_15_42] at c_22
              refine ⟨fun c_23 => ?_, fun c_23 => ?_⟩
              · skip
                try simp (disch := omega) only [↓i_in, ↓i_isCouple, ↓i_isBridge, ↓i_isTheme, ↓i_isBarge, i_lt, i_le, i_eq, i_clamp, i_upd, i_m1, Int32.toInt_toInt64, Int32.toInt_add, Int32.toInt_sub, Int32.toInt_mul, bm32, Int32.reduceToInt, Int64.reduceToInt, Nat.reduceLT, Nat.reduceEqDiff, reduceIte, w_9m0_2, w_9m0_3, w_9m0_4, w_9m0_5, w_9m0_6, w_9m0_14, w_9m0_42, u_15_2, u_15_3, u_15_4, u_15_5, u_15_6, u_15_14, u_15_42] at c_23
                exact ih (w_9l6 + 1) w_9l5 w_9l4 w_9l3 u_15 (⟨i_7, (by first | omega | (simp (disch := omega) only [↓i_in, ↓i_isCouple, ↓i_isBridge, ↓i_isTheme, ↓i_isBarge, i_lt, i_le, i_eq, i_clamp, i_upd, i_m1, Int32.toInt_toInt64, Int32.toInt_add, Int32.toInt_sub, Int32.toInt_mul, bm32, Int32.reduceToInt, Int64.reduceToInt, Nat.reduceLT, Nat.reduceEqDiff, reduceIte, w_9m0_2, w_9m0_3, w_9m0_4, w_9m0_5, w_9m0_6, w_9m0_14, w_9m0_42, u_15_2, u_15_3, u_15_4, u_15_5, u_15_6, u_15_14, u_15_42] <;> omega)), (by first | omega | (simp (disch := omega) only [↓i_in, ↓i_isCouple, ↓i_isBridge, ↓i_isTheme, ↓i_isBarge, i_lt, i_le, i_eq, i_clamp, i_upd, i_m1, Int32.toInt_toInt64, Int32.toInt_add, Int32.toInt_sub, Int32.toInt_mul, bm32, Int32.reduceToInt, Int64.reduceToInt, Nat.reduceLT, Nat.reduceEqDiff, reduceIte, w_9m0_2, w_9m0_3, w_9m0_4, w_9m0_5, w_9m0_6, w_9m0_14, w_9m0_42, u_15_2, u_15_3, u_15_4, u_15_5, u_15_6, u_15_14, u_15_42] <;> omega))⟩) (by first | omega | (simp (disch := omega) only [↓i_in, ↓i_isCouple, ↓i_isBridge, ↓i_isTheme, ↓i_isBarge, i_lt, i_le, i_eq, i_clamp, i_upd, i_m1, Int32.toInt_toInt64, Int32.toInt_add, Int32.toInt_sub, Int32.toInt_mul, bm32, Int32.reduceToInt, Int64.reduceToInt, Nat.reduceLT, Nat.reduceEqDiff, reduceIte, w_9m0_2, w_9m0_3, w_9m0_4, w_9m0_5, w_9m0_6, w_9m0_14, w_9m0_42, u_15_2, u_15_3, u_15_4, u_15_5, u_15_6, u_15_14, u_15_42] <;> omega))
              · skip
                try simp (disch := omega) only [↓i_in, ↓i_isCouple, ↓i_isBridge, ↓i_isTheme, ↓i_isBarge, i_lt, i_le, i_eq, i_clamp, i_upd, i_m1, Int32.toInt_toInt64, Int32.toInt_add, Int32.toInt_sub, Int32.toInt_mul, bm32, Int32.reduceToInt, Int64.reduceToInt, Nat.reduceLT, Nat.reduceEqDiff, reduceIte, w_9m0_2, w_9m0_3, w_9m0_4, w_9m0_5, w_9m0_6, w_9m0_14, w_9m0_42, u_15_2, u_15_3, u_15_4, u_15_5, u_15_6, u_15_14, u_15_42] at c_23
                exact ih (w_9l6 + 1) w_9l5 (u_15 35) w_9l3 u_15 (⟨i_7, (by first | omega | (simp (disch := omega) only [↓i_in, ↓i_isCouple, ↓i_isBridge, ↓i_isTheme, ↓i_isBarge, i_lt, i_le, i_eq, i_clamp, i_upd, i_m1, Int32.toInt_toInt64, Int32.toInt_add, Int32.toInt_sub, Int32.toInt_mul, bm32, Int32.reduceToInt, Int64.reduceToInt, Nat.reduceLT, Nat.reduceEqDiff, reduceIte, w_9m0_2, w_9m0_3, w_9m0_4, w_9m0_5, w_9m0_6, w_9m0_14, w_9m0_42, u_15_2, u_15_3, u_15_4, u_15_5, u_15_6, u_15_14, u_15_42] <;> omega)), (by first | omega | (simp (disch := omega) only [↓i_in, ↓i_isCouple, ↓i_isBridge, ↓i_isTheme, ↓i_isBarge, i_lt, i_le, i_eq, i_clamp, i_upd, i_m1, Int32.toInt_toInt64, Int32.toInt_add, Int32.toInt_sub, Int32.toInt_mul, bm32, Int32.reduceToInt, Int64.reduceToInt, Nat.reduceLT, Nat.reduceEqDiff, reduceIte, w_9m0_2, w_9m0_3, w_9m0_4, w_9m0_5, w_9m0_6, w_9m0_14, w_9m0_42, u_15_2, u_15_3, u_15_4, u_15_5, u_15_6, u_15_14, u_15_42] <;> omega))⟩) (by first | omega | (simp (disch := omega) only [↓i_in, ↓i_isCouple, ↓i_isBridge, ↓i_isTheme, ↓i_isBarge, i_lt, i_le, i_eq, i_clamp, i_upd, i_m1, Int32.toInt_toInt64, Int32.toInt_add, Int32.toInt_sub, Int32.toInt_mul, bm32, Int32.reduceToInt, Int64.reduceToInt, Nat.reduceLT, Nat.reduceEqDiff, reduceIte, w_9m0_2, w_9m0_3, w_9m0_4, w_9m0_5, w_9m0_6, w_9m0_14, w_9m0_42, u_15_2, u_15_3, u_15_4, u_15_5, u_15_6, u_15_14, u_15_42] <;> omega))
            · skip
              try simp (disch := omega) only [↓i_in, ↓i_isCouple, ↓i_isBridge, ↓i_isTheme, ↓i_isBarge, i_lt, i_le, i_eq, i_clamp, i_upd, i_m1, Int32.toInt_toInt64, Int32.toInt_add, Int32.toInt_sub, Int32.toInt_mul, bm32, Int32.reduceToInt, Int64.reduceToInt, Nat.reduceLT, Nat.reduceEqDiff, reduceIte, w_9m0_2, w_9m0_3, w_9m0_4, w_9m0_5, w_9m0_6, w_9m0_14, w_9m0_42, u_15_2, u_15_3, u_15_4, u_15_5, u_15_6, u_15_14, u_15_42] at c_22
              refine ⟨fun c_24 => ?_, fun c_24 => ?_⟩
              · skip
                try simp (disch := omega) only [↓i_in, ↓i_isCouple, ↓i_isBridge, ↓i_isTheme, ↓i_isBarge, i_lt, i_le, i_eq, i_clamp, i_upd, i_m1, Int32.toInt_toInt64, Int32.toInt_add, Int32.toInt_sub, Int32.toInt_mul, bm32, Int32.reduceToInt, Int64.reduceToInt, Nat.reduceLT, Nat.reduceEqDiff, reduceIte, w_9m0_2, w_9m0_3, w_9m0_4, w_9m0_5, w_9m0_6, w_9m0_14, w_9m0_42, u_15_2, u_15_3, u_15_4, u_15_5, u_15_6, u_15_14, u_15_42] at c_24
                exact ih (w_9l6 + 1) w_9l5 w_9l4 w_9l6 u_15 (⟨i_7, (by first | omega | (simp (disch := omega) only [↓i_in, ↓i_isCouple, ↓i_isBridge, ↓i_isTheme, ↓i_isBarge, i_lt, i_le, i_eq, i_clamp, i_upd, i_m1, Int32.toInt_toInt64, Int32.toInt_add, Int32.toInt_sub, Int32.toInt_mul, bm32, Int32.reduceToInt, Int64.reduceToInt, Nat.reduceLT, Nat.reduceEqDiff, reduceIte, w_9m0_2, w_9m0_3, w_9m0_4, w_9m0_5, w_9m0_6, w_9m0_14, w_9m0_42, u_15_2, u_15_3, u_15_4, u_15_5, u_15_6, u_15_14, u_15_42] <;> omega)), (by first | omega | (simp (disch := omega) only [↓i_in, ↓i_isCouple, ↓i_isBridge, ↓i_isTheme, ↓i_isBarge, i_lt, i_le, i_eq, i_clamp, i_upd, i_m1, Int32.toInt_toInt64, Int32.toInt_add, Int32.toInt_sub, Int32.toInt_mul, bm32, Int32.reduceToInt, Int64.reduceToInt, Nat.reduceLT, Nat.reduceEqDiff, reduceIte, w_9m0_2, w_9m0_3, w_9m0_4, w_9m0_5, w_9m0_6, w_9m0_14, w_9m0_42, u_15_2, u_15_3, u_15_4, u_15_5, u_15_6, u_15_14, u_15_42] <;> omega))⟩) (by first | omega | (simp (disch := omega) only [↓i_in, ↓i_isCouple, ↓i_isBridge, ↓i_isTheme, ↓i_isBarge, i_lt, i_le, i_eq, i_clamp, i_upd, i_m1, Int32.toInt_toInt64, Int32.toInt_add, Int32.toInt_sub, Int32.toInt_mul, bm32, Int32.reduceToInt, Int64.reduceToInt, Nat.reduceLT, Nat.reduceEqDiff, reduceIte, w_9m0_2, w_9m0_3, w_9m0_4, w_9m0_5, w_9m0_6, w_9m0_14, w_9m0_42, u_15_2, u_15_3, u_15_4, u_15_5, u_15_6, u_15_14, u_15_42] <;> omega))
              · skip
                try simp (disch := omega) only [↓i_in, ↓i_isCouple, ↓i_isBridge, ↓i_isTheme, ↓i_isBarge, i_lt, i_le, i_eq, i_clamp, i_upd, i_m1, Int32.toInt_toInt64, Int32.toInt_add, Int32.toInt_sub, Int32.toInt_mul, bm32, Int32.reduceToInt, Int64.reduceToInt, Nat.reduceLT, Nat.reduceEqDiff, reduceIte, w_9m0_2, w_9m0_3, w_9m0_4, w_9m0_5, w_9m0_6, w_9m0_14, w_9m0_42, u_15_2, u_15_3, u_15_4, u_15_5, u_15_6, u_15_14, u_15_42] at c_24
                exact ih (w_9l6 + 1) w_9l5 (u_15 35) w_9l6 u_15 (⟨i_7, (by first | omega | (simp (disch := omega) only [↓i_in, ↓i_isCouple, ↓i_isBridge, ↓i_isTheme, ↓i_isBarge, i_lt, i_le, i_eq, i_clamp, i_upd, i_m1, Int32.toInt_toInt64, Int32.toInt_add, Int32.toInt_sub, Int32.toInt_mul, bm32, Int32.reduceToInt, Int64.reduceToInt, Nat.reduceLT, Nat.reduceEqDiff, reduceIte, w_9m0_2, w_9m0_3, w_9m0_4, w_9m0_5, w_9m0_6, w_9m0_14, w_9m0_42, u_15_2, u_15_3, u_15_4, u_15_5, u_15_6, u_15_14, u_15_42] <;> omega)), (by first | omega | (simp (disch := omega) only [↓i_in, ↓i_isCouple, ↓i_isBridge, ↓i_isTheme, ↓i_isBarge, i_lt, i_le, i_eq, i_clamp, i_upd, i_m1, Int32.toInt_toInt64, Int32.toInt_add, Int32.toInt_sub, Int32.toInt_mul, bm32, Int32.reduceToInt, Int64.reduceToInt, Nat.reduceLT, Nat.reduceEqDiff, reduceIte, w_9m0_2, w_9m0_3, w_9m0_4, w_9m0_5, w_9m0_6, w_9m0_14, w_9m0_42, u_15_2, u_15_3, u_15_4, u_15_5, u_15_6, u_15_14, u_15_42] <;> omega))⟩) (by first | omega | (simp (disch := omega) only [↓i_in, ↓i_isCouple, ↓i_isBridge, ↓i_isTheme, ↓i_isBarge, i_lt, i_le, i_eq, i_clamp, i_upd, i_m1, Int32.toInt_toInt64, Int32.toInt_add, Int32.toInt_sub, Int32.toInt_mul, bm32, Int32.reduceToInt, Int64.reduceToInt, Nat.reduceLT, Nat.reduceEqDiff, reduceIte, w_9m0_2, w_9m0_3, w_9m0_4, w_9m0_5, w_9m0_6, w_9m0_14, w_9m0_42, u_15_2, u_15_3, u_15_4, u_15_5, u_15_6, u_15_14, u_15_42] <;> omega))
          · skip
            try simp (disch := omega) only [↓i_in, ↓i_isCouple, ↓i_isBridge, ↓i_isTheme, ↓i_isBarge, i_lt, i_le, i_eq, i_clamp, i_upd, i_m1, Int32.toInt_toInt64, Int32.toInt_add, Int32.toInt_sub, Int32.toInt_mul, bm32, Int32.reduceToInt, Int64.reduceToInt, Nat.reduceLT, Nat.reduceEqDiff, reduceIte, w_9m0_2, w_9m0_3, w_9m0_4, w_9m0_5, w_9m0_6, w_9m0_14, w_9m0_42, u_15_2, u_15_3, u_15_4, u_15_5, u_15_6, u_15_14, u_15_42] at c_21
            refine ⟨fun c_25 => ?_, fun c_25 => ?_⟩
            · skip
              try simp (disch := omega) only [↓i_in, ↓i_isCouple, ↓i_isBridge, ↓i_isTheme, ↓i_isBarge, i_lt, i_le, i_eq, i_clamp, i_upd, i_m1, Int32.toInt_toInt64, Int32.toInt_add, Int32.toInt_sub, Int32.toInt_mul, bm32, Int32.reduceToInt, Int64.reduceToInt, Nat.reduceLT, Nat.reduceEqDiff, reduceIte, w_9m0_2, w_9m0_3, w_9m0_4, w_9m0_5, w_9m0_6, w_9m0_14, w_9m0_42, u_15_2, u_15_3, u_15_4, u_15_5, u_15_6, u_15_14, u_15_42] at c_25
              refine ⟨fun c_26 => ?_, fun c_26 => ?_⟩
              · skip
                try simp (disch := omega) only [↓i_in, ↓i_isCouple, ↓i_isBridge, ↓i_isTheme, ↓i_isBarge, i_lt, i_le, i_eq, i_clamp, i_upd, i_m1, Int32.toInt_toInt64, Int32.toInt_add, Int32.toInt_sub, Int32.toInt_mul, bm32, Int32.reduceToInt, Int64.reduceToInt, Nat.reduceLT, Nat.reduceEqDiff, reduceIte, w_9m0_2, w_9m0_3, w_9m0_4, w_9m0_5, w_9m0_6, w_9m0_14, w_9m0_42, u_15_2, u_15_3, u_15_4, u_15_5, u_15_6, u_15_14, u_15_42] at c_26
                exact ih (w_9l6 + 1) (u_15 35) w_9l4 w_9l3 u_15 (⟨i_7, (by first | omega | (simp (disch := omega) only [↓i_in, ↓i_isCouple, ↓i_isBridge, ↓i_isTheme, ↓i_isBarge, i_lt, i_le, i_eq, i_clamp, i_upd, i_m1, Int32.toInt_toInt64, Int32.toInt_add, Int32.toInt_sub, Int32.toInt_mul, bm32, Int32.reduceToInt, Int64.reduceToInt, Nat.reduceLT, Nat.reduceEqDiff, reduceIte, w_9m0_2, w_9m0_3, w_9m0_4, w_9m0_5, w_9m0_6, w_9m0_14, w_9m0_42, u_15_2, u_15_3, u_15_4, u_15_5, u_15_6, u_15_14, u_15_42] <;> omega)), (by first | omega | (simp (disch := omega) only [↓i_in, ↓i_isCouple, ↓i_isBridge, ↓i_isTheme, ↓i_isBarge, i_lt, i_le, i_eq, i_clamp, i_upd, i_m1, Int32.toInt_toInt64, Int32.toInt_add, Int32.toInt_sub, Int32.toInt_mul, bm32, Int32.reduceToInt, Int64.reduceToInt, Nat.reduceLT, Nat.reduceEqDiff, reduceIte, w_9m0_2, w_9m0_3, w_9m0_4, w_9m0_5, w_9m0_6, w_9m0_14, w_9m0_42, u_15_2, u_15_3, u_15_4, u_15_5, u_15_6, u_15_14, u_15_42] <;> omega))⟩) (by first | omega | (simp (disch := omega) only [↓i_in, ↓i_isCouple, ↓i_isBridge, ↓i_isTheme, ↓i_isBarge, i_lt, i_le, i_eq, i_clamp, i_upd, i_m1, Int32.toInt_toInt64, Int32.toInt_add, Int32.toInt_sub, Int32.toInt_mul, bm32, Int32.reduceToInt, Int64.reduceToInt, Nat.reduceLT, Nat.reduceEqDiff, reduceIte, w_9m0_2, w_9m0_3, w_9m0_4, w_9m0_5, w_9m0_6, w_9m0_14, w_9m0_42, u_15_2, u_15_3, u_15_4, u_15_5, u_15_6, u_15_14, u_15_42] <;> omega))
              · skip
                try simp (disch := omega) only [↓i_in, ↓i_isCouple, ↓i_isBridge, ↓i_isTheme, ↓i_isBarge, i_lt, i_le, i_eq, i_clamp, i_upd, i_m1, Int32.toInt_toInt64, Int32.toInt_add, Int32.toInt_sub, Int32.toInt_mul, bm32, Int32.reduceToInt, Int64.reduceToInt, Nat.reduceLT, Nat.reduceEqDiff, reduceIte, w_9m0_2, w_9m0_3, w_9m0_4, w_9m0_5, w_9m0_6, w_9m0_14, w_9m0_42, u_15_2, u_15_3, u_15_4, u_15_5, u_15_6, u_15_14, u_15_42] at c_26
                exact ih (w_9l6 + 1) (u_15 35) (u_15 35) w_9l3 u_15 (⟨i_7, (by first | omega | (simp (disch := omega) only [↓i_in, ↓i_isCouple, ↓i_isBridge, ↓i_isTheme, ↓i_isBarge, i_lt, i_le, i_eq, i_clamp, i_upd, i_m1, Int32.toInt_toInt64, Int32.toInt_add, Int32.toInt_sub, Int32.toInt_mul, bm32, Int32.reduceToInt, Int64.reduceToInt, Nat.reduceLT, Nat.reduceEqDiff, reduceIte, w_9m0_2, w_9m0_3, w_9m0_4, w_9m0_5, w_9m0_6, w_9m0_14, w_9m0_42, u_15_2, u_15_3, u_15_4, u_15_5, u_15_6, u_15_14, u_15_42] <;> omega)), (by first | omega | (simp (disch := omega) only [↓i_in, ↓i_isCouple, ↓i_isBridge, ↓i_isTheme, ↓i_isBarge, i_lt, i_le, i_eq, i_clamp, i_upd, i_m1, Int32.toInt_toInt64, Int32.toInt_add, Int32.toInt_sub, Int32.toInt_mul, bm32, Int32.reduceToInt, Int64.reduceToInt, Nat.reduceLT, Nat.reduceEqDiff, reduceIte, w_9m0_2, w_9m0_3, w_9m0_4, w_9m0_5, w_9m0_6, w_9m0_14, w_9m0_42, u_15_2, u_15_3, u_15_4, u_15_5, u_15_6, u_15_14, u_15_42] <;> omega))⟩) (by first | omega | (simp (disch := omega) only [↓i_in, ↓i_isCouple, ↓i_isBridge, ↓i_isTheme, ↓i_isBarge, i_lt, i_le, i_eq, i_clamp, i_upd, i_m1, Int32.toInt_toInt64, Int32.toInt_add, Int32.toInt_sub, Int32.toInt_mul, bm32, Int32.reduceToInt, Int64.reduceToInt, Nat.reduceLT, Nat.reduceEqDiff, reduceIte, w_9m0_2, w_9m0_3, w_9m0_4, w_9m0_5, w_9m0_6, w_9m0_14, w_9m0_42, u_15_2, u_15_3, u_15_4, u_15_5, u_15_6, u_15_14, u_15_42] <;> omega))
            · skip
              try simp (disch := omega) only [↓i_in, ↓i_isCouple, ↓i_isBridge, ↓i_isTheme, ↓i_isBarge, i_lt, i_le, i_eq, i_clamp, i_upd, i_m1, Int32.toInt_toInt64, Int32.toInt_add, Int32.toInt_sub, Int32.toInt_mul, bm32, Int32.reduceToInt, Int64.reduceToInt, Nat.reduceLT, Nat.reduceEqDiff, reduceIte, w_9m0_2, w_9m0_3, w_9m0_4, w_9m0_5, w_9m0_6, w_9m0_14, w_9m0_42, u_15_2, u_15_3, u_15_4, u_15_5, u_15_6, u_15_14, u_15_42] at c_25
              refine ⟨fun c_27 => ?_, fun c_27 => ?_⟩
              · skip
                try simp (disch := omega) only [↓i_in, ↓i_isCouple, ↓i_isBridge, ↓i_isTheme, ↓i_isBarge, i_lt, i_le, i_eq, i_clamp, i_upd, i_m1, Int32.toInt_toInt64, Int32.toInt_add, Int32.toInt_sub, Int32.toInt_mul, bm32, Int32.reduceToInt, Int64.reduceToInt, Nat.reduceLT, Nat.reduceEqDiff, reduceIte, w_9m0_2, w_9m0_3, w_9m0_4, w_9m0_5, w_9m0_6, w_9m0_14, w_9m0_42, u_15_2, u_15_3, u_15_4, u_15_5, u_15_6, u_15_14, u_15_42] at c_27
                exact ih (w_9l6 + 1) (u_15 35) w_9l4 w_9l6 u_15 (⟨i_7, (by first | omega | (simp (disch := omega) only [↓i_in, ↓i_isCouple, ↓i_isBridge, ↓i_isTheme, ↓i_isBarge, i_lt, i_le, i_eq, i_clamp, i_upd, i_m1, Int32.toInt_toInt64, Int32.toInt_add, Int32.toInt_sub, Int32.toInt_mul, bm32, Int32.reduceToInt, Int64.reduceToInt, Nat.reduceLT, Nat.reduceEqDiff, reduceIte, w_9m0_2, w_9m0_3, w_9m0_4, w_9m0_5, w_9m0_6, w_9m0_14, w_9m0_42, u_15_2, u_15_3, u_15_4, u_15_5, u_15_6, u_15_14, u_15_42] <;> omega)), (by first | omega | (simp (disch := omega) only [↓i_in, ↓i_isCouple, ↓i_isBridge, ↓i_isTheme, ↓i_isBarge, i_lt, i_le, i_eq, i_clamp, i_upd, i_m1, Int32.toInt_toInt64, Int32.toInt_add, Int32.toInt_sub, Int32.toInt_mul, bm32, Int32.reduceToInt, Int64.reduceToInt, Nat.reduceLT, Nat.reduceEqDiff, reduceIte, w_9m0_2, w_9m0_3, w_9m0_4, w_9m0_5, w_9m0_6, w_9m0_14, w_9m0_42, u_15_2, u_15_3, u_15_4, u_15_5, u_15_6, u_15_14, u_15_42] <;> omega))⟩) (by first | omega | (simp (disch := omega) only [↓i_in, ↓i_isCouple, ↓i_isBridge, ↓i_isTheme, ↓i_isBarge, i_lt, i_le, i_eq, i_clamp, i_upd, i_m1, Int32.toInt_toInt64, Int32.toInt_add, Int32.toInt_sub, Int32.toInt_mul, bm32, Int32.reduceToInt, Int64.reduceToInt, Nat.reduceLT, Nat.reduceEqDiff, reduceIte, w_9m0_2, w_9m0_3, w_9m0_4, w_9m0_5, w_9m0_6, w_9m0_14, w_9m0_42, u_15_2, u_15_3, u_15_4, u_15_5, u_15_6, u_15_14, u_15_42] <;> omega))
              · skip
                try simp (disch := omega) only [↓i_in, ↓i_isCouple, ↓i_isBridge, ↓i_isTheme, ↓i_isBarge, i_lt, i_le, i_eq, i_clamp, i_upd, i_m1, Int32.toInt_toInt64, Int32.toInt_add, Int32.toInt_sub, Int32.toInt_mul, bm32, Int32.reduceToInt, Int64.reduceToInt, Nat.reduceLT, Nat.reduceEqDiff, reduceIte, w_9m0_2, w_9m0_3, w_9m0_4, w_9m0_5, w_9m0_6, w_9m0_14, w_9m0_42, u_15_2, u_15_3, u_15_4, u_15_5, u_15_6, u_15_14, u_15_42] at c_27
                exact ih (w_9l6 + 1) (u_15 35) (u_15 35) w_9l6 u_15 (⟨i_7, (by first | omega | (simp (disch := omega) only [↓i_in, ↓i_isCouple, ↓i_isBridge, ↓i_isTheme, ↓i_isBarge, i_lt, i_le, i_eq, i_clamp, i_upd, i_m1, Int32.toInt_toInt64, Int32.toInt_add, Int32.toInt_sub, Int32.toInt_mul, bm32, Int32.reduceToInt, Int64.reduceToInt, Nat.reduceLT, Nat.reduceEqDiff, reduceIte, w_9m0_2, w_9m0_3, w_9m0_4, w_9m0_5, w_9m0_6, w_9m0_14, w_9m0_42, u_15_2, u_15_3, u_15_4, u_15_5, u_15_6, u_15_14, u_15_42] <;> omega)), (by first | omega | (simp (disch := omega) only [↓i_in, ↓i_isCouple, ↓i_isBridge, ↓i_isTheme, ↓i_isBarge, i_lt, i_le, i_eq, i_clamp, i_upd, i_m1, Int32.toInt_toInt64, Int32.toInt_add, Int32.toInt_sub, Int32.toInt_mul, bm32, Int32.reduceToInt, Int64.reduceToInt, Nat.reduceLT, Nat.reduceEqDiff, reduceIte, w_9m0_2, w_9m0_3, w_9m0_4, w_9m0_5, w_9m0_6, w_9m0_14, w_9m0_42, u_15_2, u_15_3, u_15_4, u_15_5, u_15_6, u_15_14, u_15_42] <;> omega))⟩) (by first | omega | (simp (disch := omega) only [↓i_in, ↓i_isCouple, ↓i_isBridge, ↓i_isTheme, ↓i_isBarge, i_lt, i_le, i_eq, i_clamp, i_upd, i_m1, Int32.toInt_toInt64, Int32.toInt_add, Int32.toInt_sub, Int32.toInt_mul, bm32, Int32.reduceToInt, Int64.reduceToInt, Nat.reduceLT, Nat.reduceEqDiff, reduceIte, w_9m0_2, w_9m0_3, w_9m0_4, w_9m0_5, w_9m0_6, w_9m0_14, w_9m0_42, u_15_2, u_15_3, u_15_4, u_15_5, u_15_6, u_15_14, u_15_42] <;> omega))
        · skip
          try simp (disch := omega) only [↓i_in, ↓i_isCouple, ↓i_isBridge, ↓i_isTheme, ↓i_isBarge, i_lt, i_le, i_eq, i_clamp, i_upd, i_m1, Int32.toInt_toInt64, Int32.toInt_add, Int32.toInt_sub, Int32.toInt_mul, bm32, Int32.reduceToInt, Int64.reduceToInt, Nat.reduceLT, Nat.reduceEqDiff, reduceIte, w_9m0_2, w_9m0_3, w_9m0_4, w_9m0_5, w_9m0_6, w_9m0_14, w_9m0_42, u_15_2, u_15_3, u_15_4, u_15_5, u_15_6, u_15_14, u_15_42] at c_20
          refine ⟨fun c_28 => ?_, fun c_28 => ?_⟩
          · skip
            try simp (disch := omega) only [↓i_in, ↓i_isCouple, ↓i_isBridge, ↓i_isTheme, ↓i_isBarge, i_lt, i_le, i_eq, i_clamp, i_upd, i_m1, Int32.toInt_toInt64, Int32.toInt_add, Int32.toInt_sub, Int32.toInt_mul, bm32, Int32.reduceToInt, Int64.reduceToInt, Nat.reduceLT, Nat.reduceEqDiff, reduceIte, w_9m0_2, w_9m0_3, w_9m0_4, w_9m0_5, w_9m0_6, w_9m0_14, w_9m0_42, u_15_2, u_15_3, u_15_4, u_15_5, u_15_6, u_15_14, u_15_42] at c_28
            refine ⟨fun c_29 => ?_, fun c_29 => ?_⟩
            · skip
              try simp (disch := omega) only [↓i_in, ↓i_isCouple, ↓i_isBridge, ↓i_isTheme, ↓i_isBarge, i_lt, i_le, i_eq, i_clamp, i_upd, i_m1, Int32.toInt_toInt64, Int32.toInt_add, Int32.toInt_sub, Int32.toInt_mul, bm32, Int32.reduceToInt, Int64.reduceToInt, Nat.reduceLT, Nat.reduceEqDiff, reduceIte, w_9m0_2, w_9m0_3, w_9m0_4, w_9m0_5, w_9m0_6, w_9m0_14, w_9m0_42, u_15_2, u_15_3, u_15_4, u_15_5, u_15_6, u_15_14, u_15_42] at c_29
              exact ih (w_9l6 + 1) w_9l4 w_9l4 w_9l3 u_15 (⟨i_7, (by first | omega | (simp (disch := omega) only [↓i_in, ↓i_isCouple, ↓i_isBridge, ↓i_isTheme, ↓i_isBarge, i_lt, i_le, i_eq, i_clamp, i_upd, i_m1, Int32.toInt_toInt64, Int32.toInt_add, Int32.toInt_sub, Int32.toInt_mul, bm32, Int32.reduceToInt, Int64.reduceToInt, Nat.reduceLT, Nat.reduceEqDiff, reduceIte, w_9m0_2, w_9m0_3, w_9m0_4, w_9m0_5, w_9m0_6, w_9m0_14, w_9m0_42, u_15_2, u_15_3, u_15_4, u_15_5, u_15_6, u_15_14, u_15_42] <;> omega)), (by first | omega | (simp (disch := omega) only [↓i_in, ↓i_isCouple, ↓i_isBridge, ↓i_isTheme, ↓i_isBarge, i_lt, i_le, i_eq, i_clamp, i_upd, i_m1, Int32.toInt_toInt64, Int32.toInt_add, Int32.toInt_sub, Int32.toInt_mul, bm32, Int32.reduceToInt, Int64.reduceToInt, Nat.reduceLT, Nat.reduceEqDiff, reduceIte, w_9m0_2, w_9m0_3, w_9m0_4, w_9m0_5, w_9m0_6, w_9m0_14, w_9m0_42, u_15_2, u_15_3, u_15_4, u_15_5, u_15_6, u_15_14, u_15_42] <;> omega))⟩) (by first | omega | (simp (disch := omega) only [↓i_in, ↓i_isCouple, ↓i_isBridge, ↓i_isTheme, ↓i_isBarge, i_lt, i_le, i_eq, i_clamp, i_upd, i_m1, Int32.toInt_toInt64, Int32.toInt_add, Int32.toInt_sub, Int32.toInt_mul, bm32, Int32.reduceToInt, Int64.reduceToInt, Nat.reduceLT, Nat.reduceEqDiff, reduceIte, w_9m0_2, w_9m0_3, w_9m0_4, w_9m0_5, w_9m0_6, w_9m0_14, w_9m0_42, u_15_2, u_15_3, u_15_4, u_15_5, u_15_6, u_15_14, u_15_42] <;> omega))
            · skip
              try simp (disch := omega) only [↓i_in, ↓i_isCouple, ↓i_isBridge, ↓i_isTheme, ↓i_isBarge, i_lt, i_le, i_eq, i_clamp, i_upd, i_m1, Int32.toInt_toInt64, Int32.toInt_add, Int32.toInt_sub, Int32.toInt_mul, bm32, Int32.reduceToInt, Int64.reduceToInt, Nat.reduceLT, Nat.reduceEqDiff, reduceIte, w_9m0_2, w_9m0_3, w_9m0_4, w_9m0_5, w_9m0_6, w_9m0_14, w_9m0_42, u_15_2, u_15_3, u_15_4, u_15_5, u_15_6, u_15_14, u_15_42] at c_29
              exact ih (w_9l6 + 1) w_9l4 (u_15 35) w_9l3 u_15 (⟨i_7, (by first | omega | (simp (disch := omega) only [↓i_in, ↓i_isCouple, ↓i_isBridge, ↓i_isTheme, ↓i_isBarge, i_lt, i_le, i_eq, i_clamp, i_upd, i_m1, Int32.toInt_toInt64, Int32.toInt_add, Int32.toInt_sub, Int32.toInt_mul, bm32, Int32.reduceToInt, Int64.reduceToInt, Nat.reduceLT, Nat.reduceEqDiff, reduceIte, w_9m0_2, w_9m0_3, w_9m0_4, w_9m0_5, w_9m0_6, w_9m0_14, w_9m0_42, u_15_2, u_15_3, u_15_4, u_15_5, u_15_6, u_15_14, u_15_42] <;> omega)), (by first | omega | (simp (disch := omega) only [↓i_in, ↓i_isCouple, ↓i_isBridge, ↓i_isTheme, ↓i_isBarge, i_lt, i_le, i_eq, i_clamp, i_upd, i_m1, Int32.toInt_toInt64, Int32.toInt_add, Int32.toInt_sub, Int32.toInt_mul, bm32, Int32.reduceToInt, Int64.reduceToInt, Nat.reduceLT, Nat.reduceEqDiff, reduceIte, w_9m0_2, w_9m0_3, w_9m0_4, w_9m0_5, w_9m0_6, w_9m0_14, w_9m0_42, u_15_2, u_15_3, u_15_4, u_15_5, u_15_6, u_15_14, u_15_42] <;> omega))⟩) (by first | omega | (simp (disch := omega) only [↓i_in, ↓i_isCouple, ↓i_isBridge, ↓i_isTheme, ↓i_isBarge, i_lt, i_le, i_eq, i_clamp, i_upd, i_m1, Int32.toInt_toInt64, Int32.toInt_add, Int32.toInt_sub, Int32.toInt_mul, bm32, Int32.reduceToInt, Int64.reduceToInt, Nat.reduceLT, Nat.reduceEqDiff, reduceIte, w_9m0_2, w_9m0_3, w_9m0_4, w_9m0_5, w_9m0_6, w_9m0_14, w_9m0_42, u_15_2, u_15_3, u_15_4, u_15_5, u_15_6, u_15_14, u_15_42] <;> omega))
          · skip
            try simp (disch := omega) only [↓i_in, ↓i_isCouple, ↓i_isBridge, ↓i_isTheme, ↓i_isBarge, i_lt, i_le, i_eq, i_clamp, i_upd, i_m1, Int32.toInt_toInt64, Int32.toInt_add, Int32.toInt_sub, Int32.toInt_mul, bm32, Int32.reduceToInt, Int64.reduceToInt, Nat.reduceLT, Nat.reduceEqDiff, reduceIte, w_9m0_2, w_9m0_3, w_9m0_4, w_9m0_5, w_9m0_6, w_9m0_14, w_9m0_42, u_15_2, u_15_3, u_15_4, u_15_5, u_15_6, u_15_14, u_15_42] at c_28
            refine ⟨fun c_30 => ?_, fun c_30 => ?_⟩
            · skip
              try simp (disch := omega) only [↓i_in, ↓i_isCouple, ↓i_isBridge, ↓i_isTheme, ↓i_isBarge, i_lt, i_le, i_eq, i_clamp, i_upd, i_m1, Int32.toInt_toInt64, Int32.toInt_add, Int32.toInt_sub, Int32.toInt_mul, bm32, Int32.reduceToInt, Int64.reduceToInt, Nat.reduceLT, Nat.reduceEqDiff, reduceIte, w_9m0_2, w_9m0_3, w_9m0_4, w_9m0_5, w_9m0_6, w_9m0_14, w_9m0_42, u_15_2, u_15_3, u_15_4, u_15_5, u_15_6, u_15_14, u_15_42] at c_30
              exact ih (w_9l6 + 1) w_9l4 w_9l4 w_9l6 u_15 (⟨i_7, (by first | omega | (simp (disch := omega) only [↓i_in, ↓i_isCouple, ↓i_isBridge, ↓i_isTheme, ↓i_isBarge, i_lt, i_le, i_eq, i_clamp, i_upd, i_m1, Int32.toInt_toInt64, Int32.toInt_add, Int32.toInt_sub, Int32.toInt_mul, bm32, Int32.reduceToInt, Int64.reduceToInt, Nat.reduceLT, Nat.reduceEqDiff, reduceIte, w_9m0_2, w_9m0_3, w_9m0_4, w_9m0_5, w_9m0_6, w_9m0_14, w_9m0_42, u_15_2, u_15_3, u_15_4, u_15_5, u_15_6, u_15_14, u_15_42] <;> omega)), (by first | omega | (simp (disch := omega) only [↓i_in, ↓i_isCouple, ↓i_isBridge, ↓i_isTheme, ↓i_isBarge, i_lt, i_le, i_eq, i_clamp, i_upd, i_m1, Int32.toInt_toInt64, Int32.toInt_add, Int32.toInt_sub, Int32.toInt_mul, bm32, Int32.reduceToInt, Int64.reduceToInt, Nat.reduceLT, Nat.reduceEqDiff, reduceIte, w_9m0_2, w_9m0_3, w_9m0_4, w_9m0_5, w_9m0_6, w_9m0_14, w_9m0_42, u_15_2, u_15_3, u_15_4, u_15_5, u_15_6, u_15_14, u_15_42] <;> omega))⟩) (by first | omega | (simp (disch := omega) only [↓i_in, ↓i_isCouple, ↓i_isBridge, ↓i_isTheme, ↓i_isBarge, i_lt, i_le, i_eq, i_clamp, i_upd, i_m1, Int32.toInt_toInt64, Int32.toInt_add, Int32.toInt_sub, Int32.toInt_mul, bm32, Int32.reduceToInt, Int64.reduceToInt, Nat.reduceLT, Nat.reduceEqDiff, reduceIte, w_9m0_2, w_9m0_3, w_9m0_4, w_9m0_5, w_9m0_6, w_9m0_14, w_9m0_42, u_15_2, u_15_3, u_15_4, u_15_5, u_15_6, u_15_14, u_15_42] <;> omega))
            · skip
              try simp (disch := omega) only [↓i_in, ↓i_isCouple, ↓i_isBridge, ↓i_isTheme, ↓i_isBarge, i_lt, i_le, i_eq, i_clamp, i_upd, i_m1, Int32.toInt_toInt64, Int32.toInt_add, Int32.toInt_sub, Int32.toInt_mul, bm32, Int32.reduceToInt, Int64.reduceToInt, Nat.reduceLT, Nat.reduceEqDiff, reduceIte, w_9m0_2, w_9m0_3, w_9m0_4, w_9m0_5, w_9m0_6, w_9m0_14, w_9m0_42, u_15_2, u_15_3, u_15_4, u_15_5, u_15_6, u_15_14, u_15_42] at c_30
              exact ih (w_9l6 + 1) w_9l4 (u_15 35) w_9l6 u_15 (⟨i_7, (by first | omega | (simp (disch := omega) only [↓i_in, ↓i_isCouple, ↓i_isBridge, ↓i_isTheme, ↓i_isBarge, i_lt, i_le, i_eq, i_clamp, i_upd, i_m1, Int32.toInt_toInt64, Int32.toInt_add, Int32.toInt_sub, Int32.toInt_mul, bm32, Int32.reduceToInt, Int64.reduceToInt, Nat.reduceLT, Nat.reduceEqDiff, reduceIte, w_9m0_2, w_9m0_3, w_9m0_4, w_9m0_5, w_9m0_6, w_9m0_14, w_9m0_42, u_15_2, u_15_3, u_15_4, u_15_5, u_15_6, u_15_14, u_15_42] <;> omega)), (by first | omega | (simp (disch := omega) only [↓i_in, ↓i_isCouple, ↓i_isBridge, ↓i_isTheme, ↓i_isBarge, i_lt, i_le, i_eq, i_clamp, i_upd, i_m1, Int32.toInt_toInt64, Int32.toInt_add, Int32.toInt_sub, Int32.toInt_mul, bm32, Int32.reduceToInt, Int64.reduceToInt, Nat.reduceLT, Nat.reduceEqDiff, reduceIte, w_9m0_2, w_9m0_3, w_9m0_4, w_9m0_5, w_9m0_6, w_9m0_14, w_9m0_42, u_15_2, u_15_3, u_15_4, u_15_5, u_15_6, u_15_14, u_15_42] <;> omega))⟩) (by first | omega | (simp (disch := omega) only [↓i_in, ↓i_isCouple, ↓i_isBridge, ↓i_isTheme, ↓i_isBarge, i_lt, i_le, i_eq, i_clamp, i_upd, i_m1, Int32.toInt_toInt64, Int32.toInt_add, Int32.toInt_sub, Int32.toInt_mul, bm32, Int32.reduceToInt, Int64.reduceToInt, Nat.reduceLT, Nat.reduceEqDiff, reduceIte, w_9m0_2, w_9m0_3, w_9m0_4, w_9m0_5, w_9m0_6, w_9m0_14, w_9m0_42, u_15_2, u_15_3, u_15_4, u_15_5, u_15_6, u_15_14, u_15_42] <;> omega))
set_option maxHeartbeats 4000000 in
theorem pl_hire_39 {G : Nat → Int32} {f0 : Nat → Int32} {f10 : Nat → Int32} {f8 : Nat → Int32} {b_ : Int32} (h_0 : GI G) (h_1 : 0 ≤ b_.toInt) (h_2 : b_.toInt < 6) : ∀ (n : Nat) w_9l6 w_9l5 w_9l4 w_9l3 w_9m0, (QG G w_9m0 ∧ (0 ≤ w_9l6.toInt) ∧ (w_9l6.toInt ≤ 6)) → ∀ r0 r1 r2 r3 r4, f_m_hire_39 f0 f10 f8 b_ n w_9l6 w_9l5 w_9l4 w_9l3 w_9m0 = (r0, r1, r2, r3, r4) → QG G r4 ∧ (0 ≤ r0.toInt) ∧ (r0.toInt ≤ 6) := by
  have h_0_g := h_0
  obtain ⟨⟨h_0_2a, h_0_2b⟩, ⟨h_0_3a, h_0_3b⟩, ⟨h_0_4a, h_0_4b⟩, ⟨h_0_5a, h_0_5b⟩, ⟨h_0_6a, h_0_6b⟩, ⟨h_0_14a, h_0_14b⟩, ⟨h_0_42a, h_0_42b⟩⟩ := h_0_g
  intro n
  induction n with
  | zero =>
    intro w_9l6 w_9l5 w_9l4 w_9l3 w_9m0 hI r0 r1 r2 r3 r4 e
    replace e : (w_9l6, w_9l5, w_9l4, w_9l3, w_9m0) = (r0, r1, r2, r3, r4) := e
    cases e
    exact hI
  | succ n ih =>
    intro w_9l6 w_9l5 w_9l4 w_9l3 w_9m0 hI r0 r1 r2 r3 r4 e
    rw [f_m_hire_39_s] at e
    have hI0 := hI
    obtain ⟨i_1, i_2, i_3⟩ := hI0
    obtain ⟨w_9m0_2, w_9m0_3, w_9m0_4, w_9m0_5, w_9m0_6, w_9m0_14, w_9m0_42⟩ := QGs i_1
    by_cases c_4 : (w_9m0 5) ≤ w_9l6
    · rw [if_pos c_4] at e
      try simp (disch := omega) only [↓i_in, ↓i_isCouple, ↓i_isBridge, ↓i_isTheme, ↓i_isBarge, i_lt, i_le, i_eq, i_clamp, i_upd, i_m1, Int32.toInt_toInt64, Int32.toInt_add, Int32.toInt_sub, Int32.toInt_mul, bm32, Int32.reduceToInt, Int64.reduceToInt, Nat.reduceLT, Nat.reduceEqDiff, reduceIte, w_9m0_2, w_9m0_3, w_9m0_4, w_9m0_5, w_9m0_6, w_9m0_14, w_9m0_42] at c_4
      cases e
      exact hI
    · rw [if_neg c_4] at e
      try simp (disch := omega) only [↓i_in, ↓i_isCouple, ↓i_isBridge, ↓i_isTheme, ↓i_isBarge, i_lt, i_le, i_eq, i_clamp, i_upd, i_m1, Int32.toInt_toInt64, Int32.toInt_add, Int32.toInt_sub, Int32.toInt_mul, bm32, Int32.reduceToInt, Int64.reduceToInt, Nat.reduceLT, Nat.reduceEqDiff, reduceIte, w_9m0_2, w_9m0_3, w_9m0_4, w_9m0_5, w_9m0_6, w_9m0_14, w_9m0_42] at c_4
      generalize x_5 : (f_m_best w_9m0 f0 f10 f8 w_9l6 b_) = z_6 at e
      obtain ⟨r_16, u_15⟩ := z_6
      replace e : ((if r_16 = (-1) then (if w_9l4 ≤ 1000000000 then (if w_9l5 ≤ 1000000000 then (if w_9l4 ≤ 1000000000 then (if w_9l4 ≤ 1000000000 then (f_m_hire_39 f0 f10 f8 b_ n (w_9l6 + 1) w_9l5 w_9l4 w_9l3 u_15) else (f_m_hire_39 f0 f10 f8 b_ n (w_9l6 + 1) w_9l5 1000000000 w_9l3 u_15)) else (if w_9l4 ≤ 1000000000 then (f_m_hire_39 f0 f10 f8 b_ n (w_9l6 + 1) w_9l5 w_9l4 w_9l6 u_15) else (f_m_hire_39 f0 f10 f8 b_ n (w_9l6 + 1) w_9l5 1000000000 w_9l6 u_15))) else (if w_9l4 ≤ 1000000000 then (if w_9l4 ≤ 1000000000 then (f_m_hire_39 f0 f10 f8 b_ n (w_9l6 + 1) 1000000000 w_9l4 w_9l3 u_15) else (f_m_hire_39 f0 f10 f8 b_ n (w_9l6 + 1) 1000000000 1000000000 w_9l3 u_15)) else (if w_9l4 ≤ 1000000000 then (f_m_hire_39 f0 f10 f8 b_ n (w_9l6 + 1) 1000000000 w_9l4 w_9l6 u_15) else (f_m_hire_39 f0 f10 f8 b_ n (w_9l6 + 1) 1000000000 1000000000 w_9l6 u_15)))) else (if w_9l4 ≤ 1000000000 then (if w_9l4 ≤ 1000000000 then (f_m_hire_39 f0 f10 f8 b_ n (w_9l6 + 1) w_9l4 w_9l4 w_9l3 u_15) else (f_m_hire_39 f0 f10 f8 b_ n (w_9l6 + 1) w_9l4 1000000000 w_9l3 u_15)) else (if w_9l4 ≤ 1000000000 then (f_m_hire_39 f0 f10 f8 b_ n (w_9l6 + 1) w_9l4 w_9l4 w_9l6 u_15) else (f_m_hire_39 f0 f10 f8 b_ n (w_9l6 + 1) w_9l4 1000000000 w_9l6 u_15)))) else (if w_9l4 ≤ (u_15 35) then (if w_9l5 ≤ (u_15 35) then (if w_9l4 ≤ (u_15 35) then (if w_9l4 ≤ (u_15 35) then (f_m_hire_39 f0 f10 f8 b_ n (w_9l6 + 1) w_9l5 w_9l4 w_9l3 u_15) else (f_m_hire_39 f0 f10 f8 b_ n (w_9l6 + 1) w_9l5 (u_15 35) w_9l3 u_15)) else (if w_9l4 ≤ (u_15 35) then (f_m_hire_39 f0 f10 f8 b_ n (w_9l6 + 1) w_9l5 w_9l4 w_9l6 u_15) else (f_m_hire_39 f0 f10 f8 b_ n (w_9l6 + 1) w_9l5 (u_15 35) w_9l6 u_15))) else (if w_9l4 ≤ (u_15 35) then (if w_9l4 ≤ (u_15 35) then (f_m_hire_39 f0 f10 f8 b_ n (w_9l6 + 1) (u_15 35) w_9l4 w_9l3 u_15) else (f_m_hire_39 f0 f10 f8 b_ n (w_9l6 + 1) (u_15 35) (u_15 35) w_9l3 u_15)) else (if w_9l4 ≤ (u_15 35) then (f_m_hire_39 f0 f10 f8 b_ n (w_9l6 + 1) (u_15 35) w_9l4 w_9l6 u_15) else (f_m_hire_39 f0 f10 f8 b_ n (w_9l6 + 1) (u_15 35) (u_15 35) w_9l6 u_15)))) else (if w_9l4 ≤ (u_15 35) then (if w_9l4 ≤ (u_15 35) then (f_m_hire_39 f0 f10 f8 b_ n (w_9l6 + 1) w_9l4 w_9l4 w_9l3 u_15) else (f_m_hire_39 f0 f10 f8 b_ n (w_9l6 + 1) w_9l4 (u_15 35) w_9l3 u_15)) else (if w_9l4 ≤ (u_15 35) then (f_m_hire_39 f0 f10 f8 b_ n (w_9l6 + 1) w_9l4 w_9l4 w_9l6 u_15) else (f_m_hire_39 f0 f10 f8 b_ n (w_9l6 + 1) w_9l4 (u_15 35) w_9l6 u_15)))))) = (r0, r1, r2, r3, r4) := e
      have p_7 := p_best (GI.of i_1 h_0) (by first | omega | (simp (disch := omega) only [↓i_in, ↓i_isCouple, ↓i_isBridge, ↓i_isTheme, ↓i_isBarge, i_lt, i_le, i_eq, i_clamp, i_upd, i_m1, Int32.toInt_toInt64, Int32.toInt_add, Int32.toInt_sub, Int32.toInt_mul, bm32, Int32.reduceToInt, Int64.reduceToInt, Nat.reduceLT, Nat.reduceEqDiff, reduceIte, w_9m0_2, w_9m0_3, w_9m0_4, w_9m0_5, w_9m0_6, w_9m0_14, w_9m0_42] <;> omega)) (by first | omega | (simp (disch := omega) only [↓i_in, ↓i_isCouple, ↓i_isBridge, ↓i_isTheme, ↓i_isBarge, i_lt, i_le, i_eq, i_clamp, i_upd, i_m1, Int32.toInt_toInt64, Int32.toInt_add, Int32.toInt_sub, Int32.toInt_mul, bm32, Int32.reduceToInt, Int64.reduceToInt, Nat.reduceLT, Nat.reduceEqDiff, reduceIte, w_9m0_2, w_9m0_3, w_9m0_4, w_9m0_5, w_9m0_6, w_9m0_14, w_9m0_42] <;> omega)) (by first | omega | (simp (disch := omega) only [↓i_in, ↓i_isCouple, ↓i_isBridge, ↓i_isTheme, ↓i_isBarge, i_lt, i_le, i_eq, i_clamp, i_upd, i_m1, Int32.toInt_toInt64, Int32.toInt_add, Int32.toInt_sub, Int32.toInt_mul, bm32, Int32.reduceToInt, Int64.reduceToInt, Nat.reduceLT, Nat.reduceEqDiff, reduceIte, w_9m0_2, w_9m0_3, w_9m0_4, w_9m0_5, w_9m0_6, w_9m0_14, w_9m0_42] <;> omega)) (by first | omega | (simp (disch := omega) only [↓i_in, ↓i_isCouple, ↓i_isBridge, ↓i_isTheme, ↓i_isBarge, i_lt, i_le, i_eq, i_clamp, i_upd, i_m1, Int32.toInt_toInt64, Int32.toInt_add, Int32.toInt_sub, Int32.toInt_mul, bm32, Int32.reduceToInt, Int64.reduceToInt, Nat.reduceLT, Nat.reduceEqDiff, reduceIte, w_9m0_2, w_9m0_3, w_9m0_4, w_9m0_5, w_9m0_6, w_9m0_14, w_9m0_42] <;> omega)) _ _ x_5
      have i_8 := p_7
      replace i_8 := QG.trans i_1 i_8
      obtain ⟨u_15_2, u_15_3, u_15_4, u_15_5, u_15_6, u_15_14, u_15_42⟩ := QGs i_8
      by_cases c_9 : r_16 = (-1)
      · rw [if_pos c_9] at e
        try simp (disch := omega) only [↓i_in, ↓i_isCouple, ↓i_isBridge, ↓i_isTheme, ↓i_isBarge, i_lt, i_le, i_eq, i_clamp, i_upd, i_m1, Int32.toInt_toInt64, Int32.toInt_add, Int32.toInt_sub, Int32.toInt_mul, bm32, Int32.reduceToInt, Int64.reduceToInt, Nat.reduceLT, Nat.reduceEqDiff, reduceIte, w_9m0_2, w_9m0_3, w_9m0_4, w_9m0_5, w_9m0_6, w_9m0_14, w_9m0_42, u_15_2, u_15_3, u_15_4, u_15_5, u_15_6, u_15_14, u_15_42] at c_9
        by_cases c_10 : w_9l4 ≤ 1000000000
        · rw [if_pos c_10] at e
          try simp (disch := omega) only [↓i_in, ↓i_isCouple, ↓i_isBridge, ↓i_isTheme, ↓i_isBarge, i_lt, i_le, i_eq, i_clamp, i_upd, i_m1, Int32.toInt_toInt64, Int32.toInt_add, Int32.toInt_sub, Int32.toInt_mul, bm32, Int32.reduceToInt, Int64.reduceToInt, Nat.reduceLT, Nat.reduceEqDiff, reduceIte, w_9m0_2, w_9m0_3, w_9m0_4, w_9m0_5, w_9m0_6, w_9m0_14, w_9m0_42, u_15_2, u_15_3, u_15_4, u_15_5, u_15_6, u_15_14, u_15_42] at c_10
          by_cases c_11 : w_9l5 ≤ 1000000000
          · rw [if_pos c_11] at e
            try simp (disch := omega) only [↓i_in, ↓i_isCouple, ↓i_isBridge, ↓i_isTheme, ↓i_isBarge, i_lt, i_le, i_eq, i_clamp, i_upd, i_m1, Int32.toInt_toInt64, Int32.toInt_add, Int32.toInt_sub, Int32.toInt_mul, bm32, Int32.reduceToInt, Int64.reduceToInt, Nat.reduceLT, Nat.reduceEqDiff, reduceIte, w_9m0_2, w_9m0_3, w_9m0_4, w_9m0_5, w_9m0_6, w_9m0_14, w_9m0_42, u_15_2, u_15_3, u_15_4, u_15_5, u_15_6, u_15_14, u_15_42] at c_11
            by_cases c_12 : w_9l4 ≤ 1000000000
            · rw [if_pos c_12] at e
              try simp (disch := omega) only [↓i_in, ↓i_isCouple, ↓i_isBridge, ↓i_isTheme, ↓i_isBarge, i_lt, i_le, i_eq, i_clamp, i_upd, i_m1, Int32.toInt_toInt64, Int32.toInt_add, Int32.toInt_sub, Int32.toInt_mul, bm32, Int32.reduceToInt, Int64.reduceToInt, Nat.reduceLT, Nat.reduceEqDiff, reduceIte, w_9m0_2, w_9m0_3, w_9m0_4, w_9m0_5, w_9m0_6, w_9m0_14, w_9m0_42, u_15_2, u_15_3, u_15_4, u_15_5, u_15_6, u_15_14, u_15_42] at c_12
              by_cases c_13 : w_9l4 ≤ 1000000000
              · rw [if_pos c_13] at e
                try simp (disch := omega) only [↓i_in, ↓i_isCouple, ↓i_isBridge, ↓i_isTheme, ↓i_isBarge, i_lt, i_le, i_eq, i_clamp, i_upd, i_m1, Int32.toInt_toInt64, Int32.toInt_add, Int32.toInt_sub, Int32.toInt_mul, bm32, Int32.reduceToInt, Int64.reduceToInt, Nat.reduceLT, Nat.reduceEqDiff, reduceIte, w_9m0_2, w_9m0_3, w_9m0_4, w_9m0_5, w_9m0_6, w_9m0_14, w_9m0_42, u_15_2, u_15_3, u_15_4, u_15_5, u_15_6, u_15_14, u_15_42] at c_13
                exact ih (w_9l6 + 1) w_9l5 w_9l4 w_9l3 u_15 (⟨i_8, (by first | omega | (simp (disch := omega) only [↓i_in, ↓i_isCouple, ↓i_isBridge, ↓i_isTheme, ↓i_isBarge, i_lt, i_le, i_eq, i_clamp, i_upd, i_m1, Int32.toInt_toInt64, Int32.toInt_add, Int32.toInt_sub, Int32.toInt_mul, bm32, Int32.reduceToInt, Int64.reduceToInt, Nat.reduceLT, Nat.reduceEqDiff, reduceIte, w_9m0_2, w_9m0_3, w_9m0_4, w_9m0_5, w_9m0_6, w_9m0_14, w_9m0_42, u_15_2, u_15_3, u_15_4, u_15_5, u_15_6, u_15_14, u_15_42] <;> omega)), (by first | omega | (simp (disch := omega) only [↓i_in, ↓i_isCouple, ↓i_isBridge, ↓i_isTheme, ↓i_isBarge, i_lt, i_le, i_eq, i_clamp, i_upd, i_m1, Int32.toInt_toInt64, Int32.toInt_add, Int32.toInt_sub, Int32.toInt_mul, bm32, Int32.reduceToInt, Int64.reduceToInt, Nat.reduceLT, Nat.reduceEqDiff, reduceIte, w_9m0_2, w_9m0_3, w_9m0_4, w_9m0_5, w_9m0_6, w_9m0_14, w_9m0_42, u_15_2, u_15_3, u_15_4, u_15_5, u_15_6, u_15_14, u_15_42] <;> omega))⟩) _ _ _ _ _ e
              · rw [if_neg c_13] at e
                try simp (disch := omega) only [↓i_in, ↓i_isCouple, ↓i_isBridge, ↓i_isTheme, ↓i_isBarge, i_lt, i_le, i_eq, i_clamp, i_upd, i_m1, Int32.toInt_toInt64, Int32.toInt_add, Int32.toInt_sub, Int32.toInt_mul, bm32, Int32.reduceToInt, Int64.reduceToInt, Nat.reduceLT, Nat.reduceEqDiff, reduceIte, w_9m0_2, w_9m0_3, w_9m0_4, w_9m0_5, w_9m0_6, w_9m0_14, w_9m0_42, u_15_2, u_15_3, u_15_4, u_15_5, u_15_6, u_15_14, u_15_42] at c_13
                exact ih (w_9l6 + 1) w_9l5 1000000000 w_9l3 u_15 (⟨i_8, (by first | omega | (simp (disch := omega) only [↓i_in, ↓i_isCouple, ↓i_isBridge, ↓i_isTheme, ↓i_isBarge, i_lt, i_le, i_eq, i_clamp, i_upd, i_m1, Int32.toInt_toInt64, Int32.toInt_add, Int32.toInt_sub, Int32.toInt_mul, bm32, Int32.reduceToInt, Int64.reduceToInt, Nat.reduceLT, Nat.reduceEqDiff, reduceIte, w_9m0_2, w_9m0_3, w_9m0_4, w_9m0_5, w_9m0_6, w_9m0_14, w_9m0_42, u_15_2, u_15_3, u_15_4, u_15_5, u_15_6, u_15_14, u_15_42] <;> omega)), (by first | omega | (simp (disch := omega) only [↓i_in, ↓i_isCouple, ↓i_isBridge, ↓i_isTheme, ↓i_isBarge, i_lt, i_le, i_eq, i_clamp, i_upd, i_m1, Int32.toInt_toInt64, Int32.toInt_add, Int32.toInt_sub, Int32.toInt_mul, bm32, Int32.reduceToInt, Int64.reduceToInt, Nat.reduceLT, Nat.reduceEqDiff, reduceIte, w_9m0_2, w_9m0_3, w_9m0_4, w_9m0_5, w_9m0_6, w_9m0_14, w_9m0_42, u_15_2, u_15_3, u_15_4, u_15_5, u_15_6, u_15_14, u_15_42] <;> omega))⟩) _ _ _ _ _ e
            · rw [if_neg c_12] at e
              try simp (disch := omega) only [↓i_in, ↓i_isCouple, ↓i_isBridge, ↓i_isTheme, ↓i_isBarge, i_lt, i_le, i_eq, i_clamp, i_upd, i_m1, Int32.toInt_toInt64, Int32.toInt_add, Int32.toInt_sub, Int32.toInt_mul, bm32, Int32.reduceToInt, Int64.reduceToInt, Nat.reduceLT, Nat.reduceEqDiff, reduceIte, w_9m0_2, w_9m0_3, w_9m0_4, w_9m0_5, w_9m0_6, w_9m0_14, w_9m0_42, u_15_2, u_15_3, u_15_4, u_15_5, u_15_6, u_15_14, u_15_42] at c_12
              by_cases c_14 : w_9l4 ≤ 1000000000
              · rw [if_pos c_14] at e
                try simp (disch := omega) only [↓i_in, ↓i_isCouple, ↓i_isBridge, ↓i_isTheme, ↓i_isBarge, i_lt, i_le, i_eq, i_clamp, i_upd, i_m1, Int32.toInt_toInt64, Int32.toInt_add, Int32.toInt_sub, Int32.toInt_mul, bm32, Int32.reduceToInt, Int64.reduceToInt, Nat.reduceLT, Nat.reduceEqDiff, reduceIte, w_9m0_2, w_9m0_3, w_9m0_4, w_9m0_5, w_9m0_6, w_9m0_14, w_9m0_42, u_15_2, u_15_3, u_15_4, u_15_5, u_15_6, u_15_14, u_15_42] at c_14
                exact ih (w_9l6 + 1) w_9l5 w_9l4 w_9l6 u_15 (⟨i_8, (by first | omega | (simp (disch := omega) only [↓i_in, ↓i_isCouple, ↓i_isBridge, ↓i_isTheme, ↓i_isBarge, i_lt, i_le, i_eq, i_clamp, i_upd, i_m1, Int32.toInt_toInt64, Int32.toInt_add, Int32.toInt_sub, Int32.toInt_mul, bm32, Int32.reduceToInt, Int64.reduceToInt, Nat.reduceLT, Nat.reduceEqDiff, reduceIte, w_9m0_2, w_9m0_3, w_9m0_4, w_9m0_5, w_9m0_6, w_9m0_14, w_9m0_42, u_15_2, u_15_3, u_15_4, u_15_5, u_15_6, u_15_14, u_15_42] <;> omega)), (by first | omega | (simp (disch := omega) only [↓i_in, ↓i_isCouple, ↓i_isBridge, ↓i_isTheme, ↓i_isBarge, i_lt, i_le, i_eq, i_clamp, i_upd, i_m1, Int32.toInt_toInt64, Int32.toInt_add, Int32.toInt_sub, Int32.toInt_mul, bm32, Int32.reduceToInt, Int64.reduceToInt, Nat.reduceLT, Nat.reduceEqDiff, reduceIte, w_9m0_2, w_9m0_3, w_9m0_4, w_9m0_5, w_9m0_6, w_9m0_14, w_9m0_42, u_15_2, u_15_3, u_15_4, u_15_5, u_15_6, u_15_14, u_15_42] <;> omega))⟩) _ _ _ _ _ e
              · rw [if_neg c_14] at e
                try simp (disch := omega) only [↓i_in, ↓i_isCouple, ↓i_isBridge, ↓i_isTheme, ↓i_isBarge, i_lt, i_le, i_eq, i_clamp, i_upd, i_m1, Int32.toInt_toInt64, Int32.toInt_add, Int32.toInt_sub, Int32.toInt_mul, bm32, Int32.reduceToInt, Int64.reduceToInt, Nat.reduceLT, Nat.reduceEqDiff, reduceIte, w_9m0_2, w_9m0_3, w_9m0_4, w_9m0_5, w_9m0_6, w_9m0_14, w_9m0_42, u_15_2, u_15_3, u_15_4, u_15_5, u_15_6, u_15_14, u_15_42] at c_14
                exact ih (w_9l6 + 1) w_9l5 1000000000 w_9l6 u_15 (⟨i_8, (by first | omega | (simp (disch := omega) only [↓i_in, ↓i_isCouple, ↓i_isBridge, ↓i_isTheme, ↓i_isBarge, i_lt, i_le, i_eq, i_clamp, i_upd, i_m1, Int32.toInt_toInt64, Int32.toInt_add, Int32.toInt_sub, Int32.toInt_mul, bm32, Int32.reduceToInt, Int64.reduceToInt, Nat.reduceLT, Nat.reduceEqDiff, reduceIte, w_9m0_2, w_9m0_3, w_9m0_4, w_9m0_5, w_9m0_6, w_9m0_14, w_9m0_42, u_15_2, u_15_3, u_15_4, u_15_5, u_15_6, u_15_14, u_15_42] <;> omega)), (by first | omega | (simp (disch := omega) only [↓i_in, ↓i_isCouple, ↓i_isBridge, ↓i_isTheme, ↓i_isBarge, i_lt, i_le, i_eq, i_clamp, i_upd, i_m1, Int32.toInt_toInt64, Int32.toInt_add, Int32.toInt_sub, Int32.toInt_mul, bm32, Int32.reduceToInt, Int64.reduceToInt, Nat.reduceLT, Nat.reduceEqDiff, reduceIte, w_9m0_2, w_9m0_3, w_9m0_4, w_9m0_5, w_9m0_6, w_9m0_14, w_9m0_42, u_15_2, u_15_3, u_15_4, u_15_5, u_15_6, u_15_14, u_15_42] <;> omega))⟩) _ _ _ _ _ e
          · rw [if_neg c_11] at e
            try simp (disch := omega) only [↓i_in, ↓i_isCouple, ↓i_isBridge, ↓i_isTheme, ↓i_isBarge, i_lt, i_le, i_eq, i_clamp, i_upd, i_m1, Int32.toInt_toInt64, Int32.toInt_add, Int32.toInt_sub, Int32.toInt_mul, bm32, Int32.reduceToInt, Int64.reduceToInt, Nat.reduceLT, Nat.reduceEqDiff, reduceIte, w_9m0_2, w_9m0_3, w_9m0_4, w_9m0_5, w_9m0_6, w_9m0_14, w_9m0_42, u_15_2, u_15_3, u_15_4, u_15_5, u_15_6, u_15_14, u_15_42] at c_11
            by_cases c_15 : w_9l4 ≤ 1000000000
            · rw [if_pos c_15] at e
              try simp (disch := omega) only [↓i_in, ↓i_isCouple, ↓i_isBridge, ↓i_isTheme, ↓i_isBarge, i_lt, i_le, i_eq, i_clamp, i_upd, i_m1, Int32.toInt_toInt64, Int32.toInt_add, Int32.toInt_sub, Int32.toInt_mul, bm32, Int32.reduceToInt, Int64.reduceToInt, Nat.reduceLT, Nat.reduceEqDiff, reduceIte, w_9m0_2, w_9m0_3, w_9m0_4, w_9m0_5, w_9m0_6, w_9m0_14, w_9m0_42, u_15_2, u_15_3, u_15_4, u_15_5, u_15_6, u_15_14, u_15_42] at c_15
              by_cases c_16 : w_9l4 ≤ 1000000000
              · rw [if_pos c_16] at e
                try simp (disch := omega) only [↓i_in, ↓i_isCouple, ↓i_isBridge, ↓i_isTheme, ↓i_isBarge, i_lt, i_le, i_eq, i_clamp, i_upd, i_m1, Int32.toInt_toInt64, Int32.toInt_add, Int32.toInt_sub, Int32.toInt_mul, bm32, Int32.reduceToInt, Int64.reduceToInt, Nat.reduceLT, Nat.reduceEqDiff, reduceIte, w_9m0_2, w_9m0_3, w_9m0_4, w_9m0_5, w_9m0_6, w_9m0_14, w_9m0_42, u_15_2, u_15_3, u_15_4, u_15_5, u_15_6, u_15_14, u_15_42] at c_16
                exact ih (w_9l6 + 1) 1000000000 w_9l4 w_9l3 u_15 (⟨i_8, (by first | omega | (simp (disch := omega) only [↓i_in, ↓i_isCouple, ↓i_isBridge, ↓i_isTheme, ↓i_isBarge, i_lt, i_le, i_eq, i_clamp, i_upd, i_m1, Int32.toInt_toInt64, Int32.toInt_add, Int32.toInt_sub, Int32.toInt_mul, bm32, Int32.reduceToInt, Int64.reduceToInt, Nat.reduceLT, Nat.reduceEqDiff, reduceIte, w_9m0_2, w_9m0_3, w_9m0_4, w_9m0_5, w_9m0_6, w_9m0_14, w_9m0_42, u_15_2, u_15_3, u_15_4, u_15_5, u_15_6, u_15_14, u_15_42] <;> omega)), (by first | omega | (simp (disch := omega) only [↓i_in, ↓i_isCouple, ↓i_isBridge, ↓i_isTheme, ↓i_isBarge, i_lt, i_le, i_eq, i_clamp, i_upd, i_m1, Int32.toInt_toInt64, Int32.toInt_add, Int32.toInt_sub, Int32.toInt_mul, bm32, Int32.reduceToInt, Int64.reduceToInt, Nat.reduceLT, Nat.reduceEqDiff, reduceIte, w_9m0_2, w_9m0_3, w_9m0_4, w_9m0_5, w_9m0_6, w_9m0_14, w_9m0_42, u_15_2, u_15_3, u_15_4, u_15_5, u_15_6, u_15_14, u_15_42] <;> omega))⟩) _ _ _ _ _ e
              · rw [if_neg c_16] at e
                try simp (disch := omega) only [↓i_in, ↓i_isCouple, ↓i_isBridge, ↓i_isTheme, ↓i_isBarge, i_lt, i_le, i_eq, i_clamp, i_upd, i_m1, Int32.toInt_toInt64, Int32.toInt_add, Int32.toInt_sub, Int32.toInt_mul, bm32, Int32.reduceToInt, Int64.reduceToInt, Nat.reduceLT, Nat.reduceEqDiff, reduceIte, w_9m0_2, w_9m0_3, w_9m0_4, w_9m0_5, w_9m0_6, w_9m0_14, w_9m0_42, u_15_2, u_15_3, u_15_4, u_15_5, u_15_6, u_15_14, u_15_42] at c_16
                exact ih (w_9l6 + 1) 1000000000 1000000000 w_9l3 u_15 (⟨i_8, (by first | omega | (simp (disch := omega) only [↓i_in, ↓i_isCouple, ↓i_isBridge, ↓i_isTheme, ↓i_isBarge, i_lt, i_le, i_eq, i_clamp, i_upd, i_m1, Int32.toInt_toInt64, Int32.toInt_add, Int32.toInt_sub, Int32.toInt_mul, bm32, Int32.reduceToInt, Int64.reduceToInt, Nat.reduceLT, Nat.reduceEqDiff, reduceIte, w_9m0_2, w_9m0_3, w_9m0_4, w_9m0_5, w_9m0_6, w_9m0_14, w_9m0_42, u_15_2, u_15_3, u_15_4, u_15_5, u_15_6, u_15_14, u_15_42] <;> omega)), (by first | omega | (simp (disch := omega) only [↓i_in, ↓i_isCouple, ↓i_isBridge, ↓i_isTheme, ↓i_isBarge, i_lt, i_le, i_eq, i_clamp, i_upd, i_m1, Int32.toInt_toInt64, Int32.toInt_add, Int32.toInt_sub, Int32.toInt_mul, bm32, Int32.reduceToInt, Int64.reduceToInt, Nat.reduceLT, Nat.reduceEqDiff, reduceIte, w_9m0_2, w_9m0_3, w_9m0_4, w_9m0_5, w_9m0_6, w_9m0_14, w_9m0_42, u_15_2, u_15_3, u_15_4, u_15_5, u_15_6, u_15_14, u_15_42] <;> omega))⟩) _ _ _ _ _ e
            · rw [if_neg c_15] at e
              try simp (disch := omega) only [↓i_in, ↓i_isCouple, ↓i_isBridge, ↓i_isTheme, ↓i_isBarge, i_lt, i_le, i_eq, i_clamp, i_upd, i_m1, Int32.toInt_toInt64, Int32.toInt_add, Int32.toInt_sub, Int32.toInt_mul, bm32, Int32.reduceToInt, Int64.reduceToInt, Nat.reduceLT, Nat.reduceEqDiff, reduceIte, w_9m0_2, w_9m0_3, w_9m0_4, w_9m0_5, w_9m0_6, w_9m0_14, w_9m0_42, u_15_2, u_15_3, u_15_4, u_15_5, u_15_6, u_15_14, u_15_42] at c_15
              by_cases c_17 : w_9l4 ≤ 1000000000
              · rw [if_pos c_17] at e
                try simp (disch := omega) only [↓i_in, ↓i_isCouple, ↓i_isBridge, ↓i_isTheme, ↓i_isBarge, i_lt, i_le, i_eq, i_clamp, i_upd, i_m1, Int32.toInt_toInt64, Int32.toInt_add, Int32.toInt_sub, Int32.toInt_mul, bm32, Int32.reduceToInt, Int64.reduceToInt, Nat.reduceLT, Nat.reduceEqDiff, reduceIte, w_9m0_2, w_9m0_3, w_9m0_4, w_9m0_5, w_9m0_6, w_9m0_14, w_9m0_42, u_15_2, u_15_3, u_15_4, u_15_5, u_15_6, u_15_14, u_15_42] at c_17
                exact ih (w_9l6 + 1) 1000000000 w_9l4 w_9l6 u_15 (⟨i_8, (by first | omega | (simp (disch := omega) only [↓i_in, ↓i_isCouple, ↓i_isBridge, ↓i_isTheme, ↓i_isBarge, i_lt, i_le, i_eq, i_clamp, i_upd, i_m1, Int32.toInt_toInt64, Int32.toInt_add, Int32.toInt_sub, Int32.toInt_mul, bm32, Int32.reduceToInt, Int64.reduceToInt, Nat.reduceLT, Nat.reduceEqDiff, reduceIte, w_9m0_2, w_9m0_3, w_9m0_4, w_9m0_5, w_9m0_6, w_9m0_14, w_9m0_42, u_15_2, u_15_3, u_15_4, u_15_5, u_15_6, u_15_14, u_15_42] <;> omega)), (by first | omega | (simp (disch := omega) only [↓i_in, ↓i_isCouple, ↓i_isBridge, ↓i_isTheme, ↓i_isBarge, i_lt, i_le, i_eq, i_clamp, i_upd, i_m1, Int32.toInt_toInt64, Int32.toInt_add, Int32.toInt_sub, Int32.toInt_mul, bm32, Int32.reduceToInt, Int64.reduceToInt, Nat.reduceLT, Nat.reduceEqDiff, reduceIte, w_9m0_2, w_9m0_3, w_9m0_4, w_9m0_5, w_9m0_6, w_9m0_14, w_9m0_42, u_15_2, u_15_3, u_15_4, u_15_5, u_15_6, u_15_14, u_15_42] <;> omega))⟩) _ _ _ _ _ e
              · rw [if_neg c_17] at e
                try simp (disch := omega) only [↓i_in, ↓i_isCouple, ↓i_isBridge, ↓i_isTheme, ↓i_isBarge, i_lt, i_le, i_eq, i_clamp, i_upd, i_m1, Int32.toInt_toInt64, Int32.toInt_add, Int32.toInt_sub, Int32.toInt_mul, bm32, Int32.reduceToInt, Int64.reduceToInt, Nat.reduceLT, Nat.reduceEqDiff, reduceIte, w_9m0_2, w_9m0_3, w_9m0_4, w_9m0_5, w_9m0_6, w_9m0_14, w_9m0_42, u_15_2, u_15_3, u_15_4, u_15_5, u_15_6, u_15_14, u_15_42] at c_17
                exact ih (w_9l6 + 1) 1000000000 1000000000 w_9l6 u_15 (⟨i_8, (by first | omega | (simp (disch := omega) only [↓i_in, ↓i_isCouple, ↓i_isBridge, ↓i_isTheme, ↓i_isBarge, i_lt, i_le, i_eq, i_clamp, i_upd, i_m1, Int32.toInt_toInt64, Int32.toInt_add, Int32.toInt_sub, Int32.toInt_mul, bm32, Int32.reduceToInt, Int64.reduceToInt, Nat.reduceLT, Nat.reduceEqDiff, reduceIte, w_9m0_2, w_9m0_3, w_9m0_4, w_9m0_5, w_9m0_6, w_9m0_14, w_9m0_42, u_15_2, u_15_3, u_15_4, u_15_5, u_15_6, u_15_14, u_15_42] <;> omega)), (by first | omega | (simp (disch := omega) only [↓i_in, ↓i_isCouple, ↓i_isBridge, ↓i_isTheme, ↓i_isBarge, i_lt, i_le, i_eq, i_clamp, i_upd, i_m1, Int32.toInt_toInt64, Int32.toInt_add, Int32.toInt_sub, Int32.toInt_mul, bm32, Int32.reduceToInt, Int64.reduceToInt, Nat.reduceLT, Nat.reduceEqDiff, reduceIte, w_9m0_2, w_9m0_3, w_9m0_4, w_9m0_5, w_9m0_6, w_9m0_14, w_9m0_42, u_15_2, u_15_3, u_15_4, u_15_5, u_15_6, u_15_14, u_15_42] <;> omega))⟩) _ _ _ _ _ e
        · rw [if_neg c_10] at e
          try simp (disch := omega) only [↓i_in, ↓i_isCouple, ↓i_isBridge, ↓i_isTheme, ↓i_isBarge, i_lt, i_le, i_eq, i_clamp, i_upd, i_m1, Int32.toInt_toInt64, Int32.toInt_add, Int32.toInt_sub, Int32.toInt_mul, bm32, Int32.reduceToInt, Int64.reduceToInt, Nat.reduceLT, Nat.reduceEqDiff, reduceIte, w_9m0_2, w_9m0_3, w_9m0_4, w_9m0_5, w_9m0_6, w_9m0_14, w_9m0_42, u_15_2, u_15_3, u_15_4, u_15_5, u_15_6, u_15_14, u_15_42] at c_10
          by_cases c_18 : w_9l4 ≤ 1000000000
          · rw [if_pos c_18] at e
            try simp (disch := omega) only [↓i_in, ↓i_isCouple, ↓i_isBridge, ↓i_isTheme, ↓i_isBarge, i_lt, i_le, i_eq, i_clamp, i_upd, i_m1, Int32.toInt_toInt64, Int32.toInt_add, Int32.toInt_sub, Int32.toInt_mul, bm32, Int32.reduceToInt, Int64.reduceToInt, Nat.reduceLT, Nat.reduceEqDiff, reduceIte, w_9m0_2, w_9m0_3, w_9m0_4, w_9m0_5, w_9m0_6, w_9m0_14, w_9m0_42, u_15_2, u_15_3, u_15_4, u_15_5, u_15_6, u_15_14, u_15_42] at c_18
            by_cases c_19 : w_9l4 ≤ 1000000000
            · rw [if_pos c_19] at e
              try simp (disch := omega) only [↓i_in, ↓i_isCouple, ↓i_isBridge, ↓i_isTheme, ↓i_isBarge, i_lt, i_le, i_eq, i_clamp, i_upd, i_m1, Int32.toInt_toInt64, Int32.toInt_add, Int32.toInt_sub, Int32.toInt_mul, bm32, Int32.reduceToInt, Int64.reduceToInt, Nat.reduceLT, Nat.reduceEqDiff, reduceIte, w_9m0_2, w_9m0_3, w_9m0_4, w_9m0_5, w_9m0_6, w_9m0_14, w_9m0_42, u_15_2, u_15_3, u_15_4, u_15_5, u_15_6, u_15_14, u_15_42] at c_19
              exact ih (w_9l6 + 1) w_9l4 w_9l4 w_9l3 u_15 (⟨i_8, (by first | omega | (simp (disch := omega) only [↓i_in, ↓i_isCouple, ↓i_isBridge, ↓i_isTheme, ↓i_isBarge, i_lt, i_le, i_eq, i_clamp, i_upd, i_m1, Int32.toInt_toInt64, Int32.toInt_add, Int32.toInt_sub, Int32.toInt_mul, bm32, Int32.reduceToInt, Int64.reduceToInt, Nat.reduceLT, Nat.reduceEqDiff, reduceIte, w_9m0_2, w_9m0_3, w_9m0_4, w_9m0_5, w_9m0_6, w_9m0_14, w_9m0_42, u_15_2, u_15_3, u_15_4, u_15_5, u_15_6, u_15_14, u_15_42] <;> omega)), (by first | omega | (simp (disch := omega) only [↓i_in, ↓i_isCouple, ↓i_isBridge, ↓i_isTheme, ↓i_isBarge, i_lt, i_le, i_eq, i_clamp, i_upd, i_m1, Int32.toInt_toInt64, Int32.toInt_add, Int32.toInt_sub, Int32.toInt_mul, bm32, Int32.reduceToInt, Int64.reduceToInt, Nat.reduceLT, Nat.reduceEqDiff, reduceIte, w_9m0_2, w_9m0_3, w_9m0_4, w_9m0_5, w_9m0_6, w_9m0_14, w_9m0_42, u_15_2, u_15_3, u_15_4, u_15_5, u_15_6, u_15_14, u_15_42] <;> omega))⟩) _ _ _ _ _ e
            · rw [if_neg c_19] at e
              try simp (disch := omega) only [↓i_in, ↓i_isCouple, ↓i_isBridge, ↓i_isTheme, ↓i_isBarge, i_lt, i_le, i_eq, i_clamp, i_upd, i_m1, Int32.toInt_toInt64, Int32.toInt_add, Int32.toInt_sub, Int32.toInt_mul, bm32, Int32.reduceToInt, Int64.reduceToInt, Nat.reduceLT, Nat.reduceEqDiff, reduceIte, w_9m0_2, w_9m0_3, w_9m0_4, w_9m0_5, w_9m0_6, w_9m0_14, w_9m0_42, u_15_2, u_15_3, u_15_4, u_15_5, u_15_6, u_15_14, u_15_42] at c_19
              exact ih (w_9l6 + 1) w_9l4 1000000000 w_9l3 u_15 (⟨i_8, (by first | omega | (simp (disch := omega) only [↓i_in, ↓i_isCouple, ↓i_isBridge, ↓i_isTheme, ↓i_isBarge, i_lt, i_le, i_eq, i_clamp, i_upd, i_m1, Int32.toInt_toInt64, Int32.toInt_add, Int32.toInt_sub, Int32.toInt_mul, bm32, Int32.reduceToInt, Int64.reduceToInt, Nat.reduceLT, Nat.reduceEqDiff, reduceIte, w_9m0_2, w_9m0_3, w_9m0_4, w_9m0_5, w_9m0_6, w_9m0_14, w_9m0_42, u_15_2, u_15_3, u_15_4, u_15_5, u_15_6, u_15_14, u_15_42] <;> omega)), (by first | omega | (simp (disch := omega) only [↓i_in, ↓i_isCouple, ↓i_isBridge, ↓i_isTheme, ↓i_isBarge, i_lt, i_le, i_eq, i_clamp, i_upd, i_m1, Int32.toInt_toInt64, Int32.toInt_add, Int32.toInt_sub, Int32.toInt_mul, bm32, Int32.reduceToInt, Int64.reduceToInt, Nat.reduceLT, Nat.reduceEqDiff, reduceIte, w_9m0_2, w_9m0_3, w_9m0_4, w_9m0_5, w_9m0_6, w_9m0_14, w_9m0_42, u_15_2, u_15_3, u_15_4, u_15_5, u_15_6, u_15_14, u_15_42] <;> omega))⟩) _ _ _ _ _ e
          · rw [if_neg c_18] at e
            try simp (disch := omega) only [↓i_in, ↓i_isCouple, ↓i_isBridge, ↓i_isTheme, ↓i_isBarge, i_lt, i_le, i_eq, i_clamp, i_upd, i_m1, Int32.toInt_toInt64, Int32.toInt_add, Int32.toInt_sub, Int32.toInt_mul, bm32, Int32.reduceToInt, Int64.reduceToInt, Nat.reduceLT, Nat.reduceEqDiff, reduceIte, w_9m0_2, w_9m0_3, w_9m0_4, w_9m0_5, w_9m0_6, w_9m0_14, w_9m0_42, u_15_2, u_15_3, u_15_4, u_15_5, u_15_6, u_15_14, u_15_42] at c_18
            by_cases c_20 : w_9l4 ≤ 1000000000
            · rw [if_pos c_20] at e
              try simp (disch := omega) only [↓i_in, ↓i_isCouple, ↓i_isBridge, ↓i_isTheme, ↓i_isBarge, i_lt, i_le, i_eq, i_clamp, i_upd, i_m1, Int32.toInt_toInt64, Int32.toInt_add, Int32.toInt_sub, Int32.toInt_mul, bm32, Int32.reduceToInt, Int64.reduceToInt, Nat.reduceLT, Nat.reduceEqDiff, reduceIte, w_9m0_2, w_9m0_3, w_9m0_4, w_9m0_5, w_9m0_6, w_9m0_14, w_9m0_42, u_15_2, u_15_3, u_15_4, u_15_5, u_15_6, u_15_14, u_15_42] at c_20
              exact ih (w_9l6 + 1) w_9l4 w_9l4 w_9l6 u_15 (⟨i_8, (by first | omega | (simp (disch := omega) only [↓i_in, ↓i_isCouple, ↓i_isBridge, ↓i_isTheme, ↓i_isBarge, i_lt, i_le, i_eq, i_clamp, i_upd, i_m1, Int32.toInt_toInt64, Int32.toInt_add, Int32.toInt_sub, Int32.toInt_mul, bm32, Int32.reduceToInt, Int64.reduceToInt, Nat.reduceLT, Nat.reduceEqDiff, reduceIte, w_9m0_2, w_9m0_3, w_9m0_4, w_9m0_5, w_9m0_6, w_9m0_14, w_9m0_42, u_15_2, u_15_3, u_15_4, u_15_5, u_15_6, u_15_14, u_15_42] <;> omega)), (by first | omega | (simp (disch := omega) only [↓i_in, ↓i_isCouple, ↓i_isBridge, ↓i_isTheme, ↓i_isBarge, i_lt, i_le, i_eq, i_clamp, i_upd, i_m1, Int32.toInt_toInt64, Int32.toInt_add, Int32.toInt_sub, Int32.toInt_mul, bm32, Int32.reduceToInt, Int64.reduceToInt, Nat.reduceLT, Nat.reduceEqDiff, reduceIte, w_9m0_2, w_9m0_3, w_9m0_4, w_9m0_5, w_9m0_6, w_9m0_14, w_9m0_42, u_15_2, u_15_3, u_15_4, u_15_5, u_15_6, u_15_14, u_15_42] <;> omega))⟩) _ _ _ _ _ e
            · rw [if_neg c_20] at e
              try simp (disch := omega) only [↓i_in, ↓i_isCouple, ↓i_isBridge, ↓i_isTheme, ↓i_isBarge, i_lt, i_le, i_eq, i_clamp, i_upd, i_m1, Int32.toInt_toInt64, Int32.toInt_add, Int32.toInt_sub, Int32.toInt_mul, bm32, Int32.reduceToInt, Int64.reduceToInt, Nat.reduceLT, Nat.reduceEqDiff, reduceIte, w_9m0_2, w_9m0_3, w_9m0_4, w_9m0_5, w_9m0_6, w_9m0_14, w_9m0_42, u_15_2, u_15_3, u_15_4, u_15_5, u_15_6, u_15_14, u_15_42] at c_20
              exact ih (w_9l6 + 1) w_9l4 1000000000 w_9l6 u_15 (⟨i_8, (by first | omega | (simp (disch := omega) only [↓i_in, ↓i_isCouple, ↓i_isBridge, ↓i_isTheme, ↓i_isBarge, i_lt, i_le, i_eq, i_clamp, i_upd, i_m1, Int32.toInt_toInt64, Int32.toInt_add, Int32.toInt_sub, Int32.toInt_mul, bm32, Int32.reduceToInt, Int64.reduceToInt, Nat.reduceLT, Nat.reduceEqDiff, reduceIte, w_9m0_2, w_9m0_3, w_9m0_4, w_9m0_5, w_9m0_6, w_9m0_14, w_9m0_42, u_15_2, u_15_3, u_15_4, u_15_5, u_15_6, u_15_14, u_15_42] <;> omega)), (by first | omega | (simp (disch := omega) only [↓i_in, ↓i_isCouple, ↓i_isBridge, ↓i_isTheme, ↓i_isBarge, i_lt, i_le, i_eq, i_clamp, i_upd, i_m1, Int32.toInt_toInt64, Int32.toInt_add, Int32.toInt_sub, Int32.toInt_mul, bm32, Int32.reduceToInt, Int64.reduceToInt, Nat.reduceLT, Nat.reduceEqDiff, reduceIte, w_9m0_2, w_9m0_3, w_9m0_4, w_9m0_5, w_9m0_6, w_9m0_14, w_9m0_42, u_15_2, u_15_3, u_15_4, u_15_5, u_15_6, u_15_14, u_15_42] <;> omega))⟩) _ _ _ _ _ e
      · rw [if_neg c_9] at e
        try simp (disch := omega) only [↓i_in, ↓i_isCouple, ↓i_isBridge, ↓i_isTheme, ↓i_isBarge, i_lt, i_le, i_eq, i_clamp, i_upd, i_m1, Int32.toInt_toInt64, Int32.toInt_add, Int32.toInt_sub, Int32.toInt_mul, bm32, Int32.reduceToInt, Int64.reduceToInt, Nat.reduceLT, Nat.reduceEqDiff, reduceIte, w_9m0_2, w_9m0_3, w_9m0_4, w_9m0_5, w_9m0_6, w_9m0_14, w_9m0_42, u_15_2, u_15_3, u_15_4, u_15_5, u_15_6, u_15_14, u_15_42] at c_9
        by_cases c_21 : w_9l4 ≤ (u_15 35)
        · rw [if_pos c_21] at e
          try simp (disch := omega) only [↓i_in, ↓i_isCouple, ↓i_isBridge, ↓i_isTheme, ↓i_isBarge, i_lt, i_le, i_eq, i_clamp, i_upd, i_m1, Int32.toInt_toInt64, Int32.toInt_add, Int32.toInt_sub, Int32.toInt_mul, bm32, Int32.reduceToInt, Int64.reduceToInt, Nat.reduceLT, Nat.reduceEqDiff, reduceIte, w_9m0_2, w_9m0_3, w_9m0_4, w_9m0_5, w_9m0_6, w_9m0_14, w_9m0_42, u_15_2, u_15_3, u_15_4, u_15_5, u_15_6, u_15_14, u_15_42] at c_21
          by_cases c_22 : w_9l5 ≤ (u_15 35)
          · rw [if_pos c_22] at e
            try simp (disch := omega) only [↓i_in, ↓i_isCouple, ↓i_isBridge, ↓i_isTheme, ↓i_isBarge, i_lt, i_le, i_eq, i_clamp, i_upd, i_m1, Int32.toInt_toInt64, Int32.toInt_add, Int32.toInt_sub, Int32.toInt_mul, bm32, Int32.reduceToInt, Int64.reduceToInt, Nat.reduceLT, Nat.reduceEqDiff, reduceIte, w_9m0_2, w_9m0_3, w_9m0_4, w_9m0_5, w_9m0_6, w_9m0_14, w_9m0_42, u_15_2, u_15_3, u_15_4, u_15_5, u_15_6, u_15_14, u_15_42] at c_22
            by_cases c_23 : w_9l4 ≤ (u_15 35)
            · rw [if_pos c_23] at e
              try simp (disch := omega) only [↓i_in, ↓i_isCouple, ↓i_isBridge, ↓i_isTheme, ↓i_isBarge, i_lt, i_le, i_eq, i_clamp, i_upd, i_m1, Int32.toInt_toInt64, Int32.toInt_add, Int32.toInt_sub, Int32.toInt_mul, bm32, Int32.reduceToInt, Int64.reduceToInt, Nat.reduceLT, Nat.reduceEqDiff, reduceIte, w_9m0_2, w_9m0_3, w_9m0_4, w_9m0_5, w_9m0_6, w_9m0_14, w_9m0_42, u_15_2, u_15_3, u_15_4, u_15_5, u_15_6, u_15_14, u_15_42] at c_23
              by_cases c_24 : w_9l4 ≤ (u_15 35)
              · rw [if_pos c_24] at e
                try simp (disch := omega) only [↓i_in, ↓i_isCouple, ↓i_isBridge, ↓i_isTheme, ↓i_isBarge, i_lt, i_le, i_eq, i_clamp, i_upd, i_m1, Int32.toInt_toInt64, Int32.toInt_add, Int32.toInt_sub, Int32.toInt_mul, bm32, Int32.reduceToInt, Int64.reduceToInt, Nat.reduceLT, Nat.reduceEqDiff, reduceIte, w_9m0_2, w_9m0_3, w_9m0_4, w_9m0_5, w_9m0_6, w_9m0_14, w_9m0_42, u_15_2, u_15_3, u_15_4, u_15_5, u_15_6, u_15_14, u_15_42] at c_24
                exact ih (w_9l6 + 1) w_9l5 w_9l4 w_9l3 u_15 (⟨i_8, (by first | omega | (simp (disch := omega) only [↓i_in, ↓i_isCouple, ↓i_isBridge, ↓i_isTheme, ↓i_isBarge, i_lt, i_le, i_eq, i_clamp, i_upd, i_m1, Int32.toInt_toInt64, Int32.toInt_add, Int32.toInt_sub, Int32.toInt_mul, bm32, Int32.reduceToInt, Int64.reduceToInt, Nat.reduceLT, Nat.reduceEqDiff, reduceIte, w_9m0_2, w_9m0_3, w_9m0_4, w_9m0_5, w_9m0_6, w_9m0_14, w_9m0_42, u_15_2, u_15_3, u_15_4, u_15_5, u_15_6, u_15_14, u_15_42] <;> omega)), (by first | omega | (simp (disch := omega) only [↓i_in, ↓i_isCouple, ↓i_isBridge, ↓i_isTheme, ↓i_isBarge, i_lt, i_le, i_eq, i_clamp, i_upd, i_m1, Int32.toInt_toInt64, Int32.toInt_add, Int32.toInt_sub, Int32.toInt_mul, bm32, Int32.reduceToInt, Int64.reduceToInt, Nat.reduceLT, Nat.reduceEqDiff, reduceIte, w_9m0_2, w_9m0_3, w_9m0_4, w_9m0_5, w_9m0_6, w_9m0_14, w_9m0_42, u_15_2, u_15_3, u_15_4, u_15_5, u_15_6, u_15_14, u_15_42] <;> omega))⟩) _ _ _ _ _ e
              · rw [if_neg c_24] at e
                try simp (disch := omega) only [↓i_in, ↓i_isCouple, ↓i_isBridge, ↓i_isTheme, ↓i_isBarge, i_lt, i_le, i_eq, i_clamp, i_upd, i_m1, Int32.toInt_toInt64, Int32.toInt_add, Int32.toInt_sub, Int32.toInt_mul, bm32, Int32.reduceToInt, Int64.reduceToInt, Nat.reduceLT, Nat.reduceEqDiff, reduceIte, w_9m0_2, w_9m0_3, w_9m0_4, w_9m0_5, w_9m0_6, w_9m0_14, w_9m0_42, u_15_2, u_15_3, u_15_4, u_15_5, u_15_6, u_15_14, u_15_42] at c_24
                exact ih (w_9l6 + 1) w_9l5 (u_15 35) w_9l3 u_15 (⟨i_8, (by first | omega | (simp (disch := omega) only [↓i_in, ↓i_isCouple, ↓i_isBridge, ↓i_isTheme, ↓i_isBarge, i_lt, i_le, i_eq, i_clamp, i_upd, i_m1, Int32.toInt_toInt64, Int32.toInt_add, Int32.toInt_sub, Int32.toInt_mul, bm32, Int32.reduceToInt, Int64.reduceToInt, Nat.reduceLT, Nat.reduceEqDiff, reduceIte, w_9m0_2, w_9m0_3, w_9m0_4, w_9m0_5, w_9m0_6, w_9m0_14, w_9m0_42, u_15_2, u_15_3, u_15_4, u_15_5, u_15_6, u_15_14, u_15_42] <;> omega)), (by first | omega | (simp (disch := omega) only [↓i_in, ↓i_isCouple, ↓i_isBridge, ↓i_isTheme, ↓i_isBarge, i_lt, i_le, i_eq, i_clamp, i_upd, i_m1, Int32.toInt_toInt64, Int32.toInt_add, Int32.toInt_sub, Int32.toInt_mul, bm32, Int32.reduceToInt, Int64.reduceToInt, Nat.reduceLT, Nat.reduceEqDiff, reduceIte, w_9m0_2, w_9m0_3, w_9m0_4, w_9m0_5, w_9m0_6, w_9m0_14, w_9m0_42, u_15_2, u_15_3, u_15_4, u_15_5, u_15_6, u_15_14, u_15_42] <;> omega))⟩) _ _ _ _ _ e
            · rw [if_neg c_23] at e
              try simp (disch := omega) only [↓i_in, ↓i_isCouple, ↓i_isBridge, ↓i_isTheme, ↓i_isBarge, i_lt, i_le, i_eq, i_clamp, i_upd, i_m1, Int32.toInt_toInt64, Int32.toInt_add, Int32.toInt_sub, Int32.toInt_mul, bm32, Int32.reduceToInt, Int64.reduceToInt, Nat.reduceLT, Nat.reduceEqDiff, reduceIte, w_9m0_2, w_9m0_3, w_9m0_4, w_9m0_5, w_9m0_6, w_9m0_14, w_9m0_42, u_15_2, u_15_3, u_15_4, u_15_5, u_15_6, u_15_14, u_15_42] at c_23
              by_cases c_25 : w_9l4 ≤ (u_15 35)
              · rw [if_pos c_25] at e
                try simp (disch := omega) only [↓i_in, ↓i_isCouple, ↓i_isBridge, ↓i_isTheme, ↓i_isBarge, i_lt, i_le, i_eq, i_clamp, i_upd, i_m1, Int32.toInt_toInt64, Int32.toInt_add, Int32.toInt_sub, Int32.toInt_mul, bm32, Int32.reduceToInt, Int64.reduceToInt, Nat.reduceLT, Nat.reduceEqDiff, reduceIte, w_9m0_2, w_9m0_3, w_9m0_4, w_9m0_5, w_9m0_6, w_9m0_14, w_9m0_42, u_15_2, u_15_3, u_15_4, u_15_5, u_15_6, u_15_14, u_15_42] at c_25
                exact ih (w_9l6 + 1) w_9l5 w_9l4 w_9l6 u_15 (⟨i_8, (by first | omega | (simp (disch := omega) only [↓i_in, ↓i_isCouple, ↓i_isBridge, ↓i_isTheme, ↓i_isBarge, i_lt, i_le, i_eq, i_clamp, i_upd, i_m1, Int32.toInt_toInt64, Int32.toInt_add, Int32.toInt_sub, Int32.toInt_mul, bm32, Int32.reduceToInt, Int64.reduceToInt, Nat.reduceLT, Nat.reduceEqDiff, reduceIte, w_9m0_2, w_9m0_3, w_9m0_4, w_9m0_5, w_9m0_6, w_9m0_14, w_9m0_42, u_15_2, u_15_3, u_15_4, u_15_5, u_15_6, u_15_14, u_15_42] <;> omega)), (by first | omega | (simp (disch := omega) only [↓i_in, ↓i_isCouple, ↓i_isBridge, ↓i_isTheme, ↓i_isBarge, i_lt, i_le, i_eq, i_clamp, i_upd, i_m1, Int32.toInt_toInt64, Int32.toInt_add, Int32.toInt_sub, Int32.toInt_mul, bm32, Int32.reduceToInt, Int64.reduceToInt, Nat.reduceLT, Nat.reduceEqDiff, reduceIte, w_9m0_2, w_9m0_3, w_9m0_4, w_9m0_5, w_9m0_6, w_9m0_14, w_9m0_42, u_15_2, u_15_3, u_15_4, u_15_5, u_15_6, u_15_14, u_15_42] <;> omega))⟩) _ _ _ _ _ e
              · rw [if_neg c_25] at e
                try simp (disch := omega) only [↓i_in, ↓i_isCouple, ↓i_isBridge, ↓i_isTheme, ↓i_isBarge, i_lt, i_le, i_eq, i_clamp, i_upd, i_m1, Int32.toInt_toInt64, Int32.toInt_add, Int32.toInt_sub, Int32.toInt_mul, bm32, Int32.reduceToInt, Int64.reduceToInt, Nat.reduceLT, Nat.reduceEqDiff, reduceIte, w_9m0_2, w_9m0_3, w_9m0_4, w_9m0_5, w_9m0_6, w_9m0_14, w_9m0_42, u_15_2, u_15_3, u_15_4, u_15_5, u_15_6, u_15_14, u_15_42] at c_25
                exact ih (w_9l6 + 1) w_9l5 (u_15 35) w_9l6 u_15 (⟨i_8, (by first | omega | (simp (disch := omega) only [↓i_in, ↓i_isCouple, ↓i_isBridge, ↓i_isTheme, ↓i_isBarge, i_lt, i_le, i_eq, i_clamp, i_upd, i_m1, Int32.toInt_toInt64, Int32.toInt_add, Int32.toInt_sub, Int32.toInt_mul, bm32, Int32.reduceToInt, Int64.reduceToInt, Nat.reduceLT, Nat.reduceEqDiff, reduceIte, w_9m0_2, w_9m0_3, w_9m0_4, w_9m0_5, w_9m0_6, w_9m0_14, w_9m0_42, u_15_2, u_15_3, u_15_4, u_15_5, u_15_6, u_15_14, u_15_42] <;> omega)), (by first | omega | (simp (disch := omega) only [↓i_in, ↓i_isCouple, ↓i_isBridge, ↓i_isTheme, ↓i_isBarge, i_lt, i_le, i_eq, i_clamp, i_upd, i_m1, Int32.toInt_toInt64, Int32.toInt_add, Int32.toInt_sub, Int32.toInt_mul, bm32, Int32.reduceToInt, Int64.reduceToInt, Nat.reduceLT, Nat.reduceEqDiff, reduceIte, w_9m0_2, w_9m0_3, w_9m0_4, w_9m0_5, w_9m0_6, w_9m0_14, w_9m0_42, u_15_2, u_15_3, u_15_4, u_15_5, u_15_6, u_15_14, u_15_42] <;> omega))⟩) _ _ _ _ _ e
          · rw [if_neg c_22] at e
            try simp (disch := omega) only [↓i_in, ↓i_isCouple, ↓i_isBridge, ↓i_isTheme, ↓i_isBarge, i_lt, i_le, i_eq, i_clamp, i_upd, i_m1, Int32.toInt_toInt64, Int32.toInt_add, Int32.toInt_sub, Int32.toInt_mul, bm32, Int32.reduceToInt, Int64.reduceToInt, Nat.reduceLT, Nat.reduceEqDiff, reduceIte, w_9m0_2, w_9m0_3, w_9m0_4, w_9m0_5, w_9m0_6, w_9m0_14, w_9m0_42, u_15_2, u_15_3, u_15_4, u_15_5, u_15_6, u_15_14, u_15_42] at c_22
            by_cases c_26 : w_9l4 ≤ (u_15 35)
            · rw [if_pos c_26] at e
              try simp (disch := omega) only [↓i_in, ↓i_isCouple, ↓i_isBridge, ↓i_isTheme, ↓i_isBarge, i_lt, i_le, i_eq, i_clamp, i_upd, i_m1, Int32.toInt_toInt64, Int32.toInt_add, Int32.toInt_sub, Int32.toInt_mul, bm32, Int32.reduceToInt, Int64.reduceToInt, Nat.reduceLT, Nat.reduceEqDiff, reduceIte, w_9m0_2, w_9m0_3, w_9m0_4, w_9m0_5, w_9m0_6, w_9m0_14, w_9m0_42, u_15_2, u_15_3, u_15_4, u_15_5, u_15_6, u_15_14, u_15_42] at c_26
              by_cases c_27 : w_9l4 ≤ (u_15 35)
              · rw [if_pos c_27] at e
                try simp (disch := omega) only [↓i_in, ↓i_isCouple, ↓i_isBridge, ↓i_isTheme, ↓i_isBarge, i_lt, i_le, i_eq, i_clamp, i_upd, i_m1, Int32.toInt_toInt64, Int32.toInt_add, Int32.toInt_sub, Int32.toInt_mul, bm32, Int32.reduceToInt, Int64.reduceToInt, Nat.reduceLT, Nat.reduceEqDiff, reduceIte, w_9m0_2, w_9m0_3, w_9m0_4, w_9m0_5, w_9m0_6, w_9m0_14, w_9m0_42, u_15_2, u_15_3, u_15_4, u_15_5, u_15_6, u_15_14, u_15_42] at c_27
                exact ih (w_9l6 + 1) (u_15 35) w_9l4 w_9l3 u_15 (⟨i_8, (by first | omega | (simp (disch := omega) only [↓i_in, ↓i_isCouple, ↓i_isBridge, ↓i_isTheme, ↓i_isBarge, i_lt, i_le, i_eq, i_clamp, i_upd, i_m1, Int32.toInt_toInt64, Int32.toInt_add, Int32.toInt_sub, Int32.toInt_mul, bm32, Int32.reduceToInt, Int64.reduceToInt, Nat.reduceLT, Nat.reduceEqDiff, reduceIte, w_9m0_2, w_9m0_3, w_9m0_4, w_9m0_5, w_9m0_6, w_9m0_14, w_9m0_42, u_15_2, u_15_3, u_15_4, u_15_5, u_15_6, u_15_14, u_15_42] <;> omega)), (by first | omega | (simp (disch := omega) only [↓i_in, ↓i_isCouple, ↓i_isBridge, ↓i_isTheme, ↓i_isBarge, i_lt, i_le, i_eq, i_clamp, i_upd, i_m1, Int32.toInt_toInt64, Int32.toInt_add, Int32.toInt_sub, Int32.toInt_mul, bm32, Int32.reduceToInt, Int64.reduceToInt, Nat.reduceLT, Nat.reduceEqDiff, reduceIte, w_9m0_2, w_9m0_3, w_9m0_4, w_9m0_5, w_9m0_6, w_9m0_14, w_9m0_42, u_15_2, u_15_3, u_15_4, u_15_5, u_15_6, u_15_14, u_15_42] <;> omega))⟩) _ _ _ _ _ e
              · rw [if_neg c_27] at e
                try simp (disch := omega) only [↓i_in, ↓i_isCouple, ↓i_isBridge, ↓i_isTheme, ↓i_isBarge, i_lt, i_le, i_eq, i_clamp, i_upd, i_m1, Int32.toInt_toInt64, Int32.toInt_add, Int32.toInt_sub, Int32.toInt_mul, bm32, Int32.reduceToInt, Int64.reduceToInt, Nat.reduceLT, Nat.reduceEqDiff, reduceIte, w_9m0_2, w_9m0_3, w_9m0_4, w_9m0_5, w_9m0_6, w_9m0_14, w_9m0_42, u_15_2, u_15_3, u_15_4, u_15_5, u_15_6, u_15_14, u_15_42] at c_27
                exact ih (w_9l6 + 1) (u_15 35) (u_15 35) w_9l3 u_15 (⟨i_8, (by first | omega | (simp (disch := omega) only [↓i_in, ↓i_isCouple, ↓i_isBridge, ↓i_isTheme, ↓i_isBarge, i_lt, i_le, i_eq, i_clamp, i_upd, i_m1, Int32.toInt_toInt64, Int32.toInt_add, Int32.toInt_sub, Int32.toInt_mul, bm32, Int32.reduceToInt, Int64.reduceToInt, Nat.reduceLT, Nat.reduceEqDiff, reduceIte, w_9m0_2, w_9m0_3, w_9m0_4, w_9m0_5, w_9m0_6, w_9m0_14, w_9m0_42, u_15_2, u_15_3, u_15_4, u_15_5, u_15_6, u_15_14, u_15_42] <;> omega)), (by first | omega | (simp (disch := omega) only [↓i_in, ↓i_isCouple, ↓i_isBridge, ↓i_isTheme, ↓i_isBarge, i_lt, i_le, i_eq, i_clamp, i_upd, i_m1, Int32.toInt_toInt64, Int32.toInt_add, Int32.toInt_sub, Int32.toInt_mul, bm32, Int32.reduceToInt, Int64.reduceToInt, Nat.reduceLT, Nat.reduceEqDiff, reduceIte, w_9m0_2, w_9m0_3, w_9m0_4, w_9m0_5, w_9m0_6, w_9m0_14, w_9m0_42, u_15_2, u_15_3, u_15_4, u_15_5, u_15_6, u_15_14, u_15_42] <;> omega))⟩) _ _ _ _ _ e
            · rw [if_neg c_26] at e
              try simp (disch := omega) only [↓i_in, ↓i_isCouple, ↓i_isBridge, ↓i_isTheme, ↓i_isBarge, i_lt, i_le, i_eq, i_clamp, i_upd, i_m1, Int32.toInt_toInt64, Int32.toInt_add, Int32.toInt_sub, Int32.toInt_mul, bm32, Int32.reduceToInt, Int64.reduceToInt, Nat.reduceLT, Nat.reduceEqDiff, reduceIte, w_9m0_2, w_9m0_3, w_9m0_4, w_9m0_5, w_9m0_6, w_9m0_14, w_9m0_42, u_15_2, u_15_3, u_15_4, u_15_5, u_15_6, u_15_14, u_15_42] at c_26
              by_cases c_28 : w_9l4 ≤ (u_15 35)
              · rw [if_pos c_28] at e
                try simp (disch := omega) only [↓i_in, ↓i_isCouple, ↓i_isBridge, ↓i_isTheme, ↓i_isBarge, i_lt, i_le, i_eq, i_clamp, i_upd, i_m1, Int32.toInt_toInt64, Int32.toInt_add, Int32.toInt_sub, Int32.toInt_mul, bm32, Int32.reduceToInt, Int64.reduceToInt, Nat.reduceLT, Nat.reduceEqDiff, reduceIte, w_9m0_2, w_9m0_3, w_9m0_4, w_9m0_5, w_9m0_6, w_9m0_14, w_9m0_42, u_15_2, u_15_3, u_15_4, u_15_5, u_15_6, u_15_14, u_15_42] at c_28
                exact ih (w_9l6 + 1) (u_15 35) w_9l4 w_9l6 u_15 (⟨i_8, (by first | omega | (simp (disch := omega) only [↓i_in, ↓i_isCouple, ↓i_isBridge, ↓i_isTheme, ↓i_isBarge, i_lt, i_le, i_eq, i_clamp, i_upd, i_m1, Int32.toInt_toInt64, Int32.toInt_add, Int32.toInt_sub, Int32.toInt_mul, bm32, Int32.reduceToInt, Int64.reduceToInt, Nat.reduceLT, Nat.reduceEqDiff, reduceIte, w_9m0_2, w_9m0_3, w_9m0_4, w_9m0_5, w_9m0_6, w_9m0_14, w_9m0_42, u_15_2, u_15_3, u_15_4, u_15_5, u_15_6, u_15_14, u_15_42] <;> omega)), (by first | omega | (simp (disch := omega) only [↓i_in, ↓i_isCouple, ↓i_isBridge, ↓i_isTheme, ↓i_isBarge, i_lt, i_le, i_eq, i_clamp, i_upd, i_m1, Int32.toInt_toInt64, Int32.toInt_add, Int32.toInt_sub, Int32.toInt_mul, bm32, Int32.reduceToInt, Int64.reduceToInt, Nat.reduceLT, Nat.reduceEqDiff, reduceIte, w_9m0_2, w_9m0_3, w_9m0_4, w_9m0_5, w_9m0_6, w_9m0_14, w_9m0_42, u_15_2, u_15_3, u_15_4, u_15_5, u_15_6, u_15_14, u_15_42] <;> omega))⟩) _ _ _ _ _ e
              · rw [if_neg c_28] at e
                try simp (disch := omega) only [↓i_in, ↓i_isCouple, ↓i_isBridge, ↓i_isTheme, ↓i_isBarge, i_lt, i_le, i_eq, i_clamp, i_upd, i_m1, Int32.toInt_toInt64, Int32.toInt_add, Int32.toInt_sub, Int32.toInt_mul, bm32, Int32.reduceToInt, Int64.reduceToInt, Nat.reduceLT, Nat.reduceEqDiff, reduceIte, w_9m0_2, w_9m0_3, w_9m0_4, w_9m0_5, w_9m0_6, w_9m0_14, w_9m0_42, u_15_2, u_15_3, u_15_4, u_15_5, u_15_6, u_15_14, u_15_42] at c_28
                exact ih (w_9l6 + 1) (u_15 35) (u_15 35) w_9l6 u_15 (⟨i_8, (by first | omega | (simp (disch := omega) only [↓i_in, ↓i_isCouple, ↓i_isBridge, ↓i_isTheme, ↓i_isBarge, i_lt, i_le, i_eq, i_clamp, i_upd, i_m1, Int32.toInt_toInt64, Int32.toInt_add, Int32.toInt_sub, Int32.toInt_mul, bm32, Int32.reduceToInt, Int64.reduceToInt, Nat.reduceLT, Nat.reduceEqDiff, reduceIte, w_9m0_2, w_9m0_3, w_9m0_4, w_9m0_5, w_9m0_6, w_9m0_14, w_9m0_42, u_15_2, u_15_3, u_15_4, u_15_5, u_15_6, u_15_14, u_15_42] <;> omega)), (by first | omega | (simp (disch := omega) only [↓i_in, ↓i_isCouple, ↓i_isBridge, ↓i_isTheme, ↓i_isBarge, i_lt, i_le, i_eq, i_clamp, i_upd, i_m1, Int32.toInt_toInt64, Int32.toInt_add, Int32.toInt_sub, Int32.toInt_mul, bm32, Int32.reduceToInt, Int64.reduceToInt, Nat.reduceLT, Nat.reduceEqDiff, reduceIte, w_9m0_2, w_9m0_3, w_9m0_4, w_9m0_5, w_9m0_6, w_9m0_14, w_9m0_42, u_15_2, u_15_3, u_15_4, u_15_5, u_15_6, u_15_14, u_15_42] <;> omega))⟩) _ _ _ _ _ e
        · rw [if_neg c_21] at e
          try simp (disch := omega) only [↓i_in, ↓i_isCouple, ↓i_isBridge, ↓i_isTheme, ↓i_isBarge, i_lt, i_le, i_eq, i_clamp, i_upd, i_m1, Int32.toInt_toInt64, Int32.toInt_add, Int32.toInt_sub, Int32.toInt_mul, bm32, Int32.reduceToInt, Int64.reduceToInt, Nat.reduceLT, Nat.reduceEqDiff, reduceIte, w_9m0_2, w_9m0_3, w_9m0_4, w_9m0_5, w_9m0_6, w_9m0_14, w_9m0_42, u_15_2, u_15_3, u_15_4, u_15_5, u_15_6, u_15_14, u_15_42] at c_21
          by_cases c_29 : w_9l4 ≤ (u_15 35)
          · rw [if_pos c_29] at e
            try simp (disch := omega) only [↓i_in, ↓i_isCouple, ↓i_isBridge, ↓i_isTheme, ↓i_isBarge, i_lt, i_le, i_eq, i_clamp, i_upd, i_m1, Int32.toInt_toInt64, Int32.toInt_add, Int32.toInt_sub, Int32.toInt_mul, bm32, Int32.reduceToInt, Int64.reduceToInt, Nat.reduceLT, Nat.reduceEqDiff, reduceIte, w_9m0_2, w_9m0_3, w_9m0_4, w_9m0_5, w_9m0_6, w_9m0_14, w_9m0_42, u_15_2, u_15_3, u_15_4, u_15_5, u_15_6, u_15_14, u_15_42] at c_29
            by_cases c_30 : w_9l4 ≤ (u_15 35)
            · rw [if_pos c_30] at e
              try simp (disch := omega) only [↓i_in, ↓i_isCouple, ↓i_isBridge, ↓i_isTheme, ↓i_isBarge, i_lt, i_le, i_eq, i_clamp, i_upd, i_m1, Int32.toInt_toInt64, Int32.toInt_add, Int32.toInt_sub, Int32.toInt_mul, bm32, Int32.reduceToInt, Int64.reduceToInt, Nat.reduceLT, Nat.reduceEqDiff, reduceIte, w_9m0_2, w_9m0_3, w_9m0_4, w_9m0_5, w_9m0_6, w_9m0_14, w_9m0_42, u_15_2, u_15_3, u_15_4, u_15_5, u_15_6, u_15_14, u_15_42] at c_30
              exact ih (w_9l6 + 1) w_9l4 w_9l4 w_9l3 u_15 (⟨i_8, (by first | omega | (simp (disch := omega) only [↓i_in, ↓i_isCouple, ↓i_isBridge, ↓i_isTheme, ↓i_isBarge, i_lt, i_le, i_eq, i_clamp, i_upd, i_m1, Int32.toInt_toInt64, Int32.toInt_add, Int32.toInt_sub, Int32.toInt_mul, bm32, Int32.reduceToInt, Int64.reduceToInt, Nat.reduceLT, Nat.reduceEqDiff, reduceIte, w_9m0_2, w_9m0_3, w_9m0_4, w_9m0_5, w_9m0_6, w_9m0_14, w_9m0_42, u_15_2, u_15_3, u_15_4, u_15_5, u_15_6, u_15_14, u_15_42] <;> omega)), (by first | omega | (simp (disch := omega) only [↓i_in, ↓i_isCouple, ↓i_isBridge, ↓i_isTheme, ↓i_isBarge, i_lt, i_le, i_eq, i_clamp, i_upd, i_m1, Int32.toInt_toInt64, Int32.toInt_add, Int32.toInt_sub, Int32.toInt_mul, bm32, Int32.reduceToInt, Int64.reduceToInt, Nat.reduceLT, Nat.reduceEqDiff, reduceIte, w_9m0_2, w_9m0_3, w_9m0_4, w_9m0_5, w_9m0_6, w_9m0_14, w_9m0_42, u_15_2, u_15_3, u_15_4, u_15_5, u_15_6, u_15_14, u_15_42] <;> omega))⟩) _ _ _ _ _ e
            · rw [if_neg c_30] at e
              try simp (disch := omega) only [↓i_in, ↓i_isCouple, ↓i_isBridge, ↓i_isTheme, ↓i_isBarge, i_lt, i_le, i_eq, i_clamp, i_upd, i_m1, Int32.toInt_toInt64, Int32.toInt_add, Int32.toInt_sub, Int32.toInt_mul, bm32, Int32.reduceToInt, Int64.reduceToInt, Nat.reduceLT, Nat.reduceEqDiff, reduceIte, w_9m0_2, w_9m0_3, w_9m0_4, w_9m0_5, w_9m0_6, w_9m0_14, w_9m0_42, u_15_2, u_15_3, u_15_4, u_15_5, u_15_6, u_15_14, u_15_42] at c_30
              exact ih (w_9l6 + 1) w_9l4 (u_15 35) w_9l3 u_15 (⟨i_8, (by first | omega | (simp (disch := omega) only [↓i_in, ↓i_isCouple, ↓i_isBridge, ↓i_isTheme, ↓i_isBarge, i_lt, i_le, i_eq, i_clamp, i_upd, i_m1, Int32.toInt_toInt64, Int32.toInt_add, Int32.toInt_sub, Int32.toInt_mul, bm32, Int32.reduceToInt, Int64.reduceToInt, Nat.reduceLT, Nat.reduceEqDiff, reduceIte, w_9m0_2, w_9m0_3, w_9m0_4, w_9m0_5, w_9m0_6, w_9m0_14, w_9m0_42, u_15_2, u_15_3, u_15_4, u_15_5, u_15_6, u_15_14, u_15_42] <;> omega)), (by first | omega | (simp (disch := omega) only [↓i_in, ↓i_isCouple, ↓i_isBridge, ↓i_isTheme, ↓i_isBarge, i_lt, i_le, i_eq, i_clamp, i_upd, i_m1, Int32.toInt_toInt64, Int32.toInt_add, Int32.toInt_sub, Int32.toInt_mul, bm32, Int32.reduceToInt, Int64.reduceToInt, Nat.reduceLT, Nat.reduceEqDiff, reduceIte, w_9m0_2, w_9m0_3, w_9m0_4, w_9m0_5, w_9m0_6, w_9m0_14, w_9m0_42, u_15_2, u_15_3, u_15_4, u_15_5, u_15_6, u_15_14, u_15_42] <;> omega))⟩) _ _ _ _ _ e
          · rw [if_neg c_29] at e
            try simp (disch := omega) only [↓i_in, ↓i_isCouple, ↓i_isBridge, ↓i_isTheme, ↓i_isBarge, i_lt, i_le, i_eq, i_clamp, i_upd, i_m1, Int32.toInt_toInt64, Int32.toInt_add, Int32.toInt_sub, Int32.toInt_mul, bm32, Int32.reduceToInt, Int64.reduceToInt, Nat.reduceLT, Nat.reduceEqDiff, reduceIte, w_9m0_2, w_9m0_3, w_9m0_4, w_9m0_5, w_9m0_6, w_9m0_14, w_9m0_42, u_15_2, u_15_3, u_15_4, u_15_5, u_15_6, u_15_14, u_15_42] at c_29
            by_cases c_31 : w_9l4 ≤ (u_15 35)
            · rw [if_pos c_31] at e
              try simp (disch := omega) only [↓i_in, ↓i_isCouple, ↓i_isBridge, ↓i_isTheme, ↓i_isBarge, i_lt, i_le, i_eq, i_clamp, i_upd, i_m1, Int32.toInt_toInt64, Int32.toInt_add, Int32.toInt_sub, Int32.toInt_mul, bm32, Int32.reduceToInt, Int64.reduceToInt, Nat.reduceLT, Nat.reduceEqDiff, reduceIte, w_9m0_2, w_9m0_3, w_9m0_4, w_9m0_5, w_9m0_6, w_9m0_14, w_9m0_42, u_15_2, u_15_3, u_15_4, u_15_5, u_15_6, u_15_14, u_15_42] at c_31
              exact ih (w_9l6 + 1) w_9l4 w_9l4 w_9l6 u_15 (⟨i_8, (by first | omega | (simp (disch := omega) only [↓i_in, ↓i_isCouple, ↓i_isBridge, ↓i_isTheme, ↓i_isBarge, i_lt, i_le, i_eq, i_clamp, i_upd, i_m1, Int32.toInt_toInt64, Int32.toInt_add, Int32.toInt_sub, Int32.toInt_mul, bm32, Int32.reduceToInt, Int64.reduceToInt, Nat.reduceLT, Nat.reduceEqDiff, reduceIte, w_9m0_2, w_9m0_3, w_9m0_4, w_9m0_5, w_9m0_6, w_9m0_14, w_9m0_42, u_15_2, u_15_3, u_15_4, u_15_5, u_15_6, u_15_14, u_15_42] <;> omega)), (by first | omega | (simp (disch := omega) only [↓i_in, ↓i_isCouple, ↓i_isBridge, ↓i_isTheme, ↓i_isBarge, i_lt, i_le, i_eq, i_clamp, i_upd, i_m1, Int32.toInt_toInt64, Int32.toInt_add, Int32.toInt_sub, Int32.toInt_mul, bm32, Int32.reduceToInt, Int64.reduceToInt, Nat.reduceLT, Nat.reduceEqDiff, reduceIte, w_9m0_2, w_9m0_3, w_9m0_4, w_9m0_5, w_9m0_6, w_9m0_14, w_9m0_42, u_15_2, u_15_3, u_15_4, u_15_5, u_15_6, u_15_14, u_15_42] <;> omega))⟩) _ _ _ _ _ e
            · rw [if_neg c_31] at e
              try simp (disch := omega) only [↓i_in, ↓i_isCouple, ↓i_isBridge, ↓i_isTheme, ↓i_isBarge, i_lt, i_le, i_eq, i_clamp, i_upd, i_m1, Int32.toInt_toInt64, Int32.toInt_add, Int32.toInt_sub, Int32.toInt_mul, bm32, Int32.reduceToInt, Int64.reduceToInt, Nat.reduceLT, Nat.reduceEqDiff, reduceIte, w_9m0_2, w_9m0_3, w_9m0_4, w_9m0_5, w_9m0_6, w_9m0_14, w_9m0_42, u_15_2, u_15_3, u_15_4, u_15_5, u_15_6, u_15_14, u_15_42] at c_31
              exact ih (w_9l6 + 1) w_9l4 (u_15 35) w_9l6 u_15 (⟨i_8, (by first | omega | (simp (disch := omega) only [↓i_in, ↓i_isCouple, ↓i_isBridge, ↓i_isTheme, ↓i_isBarge, i_lt, i_le, i_eq, i_clamp, i_upd, i_m1, Int32.toInt_toInt64, Int32.toInt_add, Int32.toInt_sub, Int32.toInt_mul, bm32, Int32.reduceToInt, Int64.reduceToInt, Nat.reduceLT, Nat.reduceEqDiff, reduceIte, w_9m0_2, w_9m0_3, w_9m0_4, w_9m0_5, w_9m0_6, w_9m0_14, w_9m0_42, u_15_2, u_15_3, u_15_4, u_15_5, u_15_6, u_15_14, u_15_42] <;> omega)), (by first | omega | (simp (disch := omega) only [↓i_in, ↓i_isCouple, ↓i_isBridge, ↓i_isTheme, ↓i_isBarge, i_lt, i_le, i_eq, i_clamp, i_upd, i_m1, Int32.toInt_toInt64, Int32.toInt_add, Int32.toInt_sub, Int32.toInt_mul, bm32, Int32.reduceToInt, Int64.reduceToInt, Nat.reduceLT, Nat.reduceEqDiff, reduceIte, w_9m0_2, w_9m0_3, w_9m0_4, w_9m0_5, w_9m0_6, w_9m0_14, w_9m0_42, u_15_2, u_15_3, u_15_4, u_15_5, u_15_6, u_15_14, u_15_42] <;> omega))⟩) _ _ _ _ _ e
set_option maxHeartbeats 4000000 in
theorem s_hire {G : Nat → Int32} {f0 : Nat → Int32} {f10 : Nat → Int32} {f8 : Nat → Int32} {b_ : Int32} {w_ : Int32} (h_0 : GI G) : S_m_hire G f0 f10 f8 b_ w_ := by
  unfold S_m_hire
  have h_0_g := h_0
  obtain ⟨⟨h_0_2a, h_0_2b⟩, ⟨h_0_3a, h_0_3b⟩, ⟨h_0_4a, h_0_4b⟩, ⟨h_0_5a, h_0_5b⟩, ⟨h_0_6a, h_0_6b⟩, ⟨h_0_14a, h_0_14b⟩, ⟨h_0_42a, h_0_42b⟩⟩ := h_0_g
  refine ⟨s_isBridge, ?_⟩
  refine ⟨fun c_1 => ?_, fun c_1 => ?_⟩
  · exact trivial
  · skip
    try simp (disch := omega) only [↓i_in, ↓i_isCouple, ↓i_isBridge, ↓i_isTheme, ↓i_isBarge, i_lt, i_le, i_eq, i_clamp, i_upd, i_m1, Int32.toInt_toInt64, Int32.toInt_add, Int32.toInt_sub, Int32.toInt_mul, bm32, Int32.reduceToInt, Int64.reduceToInt, Nat.reduceLT, Nat.reduceEqDiff, reduceIte] at c_1
    refine ⟨s_in, ?_⟩
    refine ⟨fun c_2 => ?_, fun c_2 => ?_⟩
    · exact trivial
    · skip
      try simp (disch := omega) only [↓i_in, ↓i_isCouple, ↓i_isBridge, ↓i_isTheme, ↓i_isBarge, i_lt, i_le, i_eq, i_clamp, i_upd, i_m1, Int32.toInt_toInt64, Int32.toInt_add, Int32.toInt_sub, Int32.toInt_mul, bm32, Int32.reduceToInt, Int64.reduceToInt, Nat.reduceLT, Nat.reduceEqDiff, reduceIte] at c_2
      refine sl_hire_39 h_0 (by first | omega | (simp (disch := omega) only [↓i_in, ↓i_isCouple, ↓i_isBridge, ↓i_isTheme, ↓i_isBarge, i_lt, i_le, i_eq, i_clamp, i_upd, i_m1, Int32.toInt_toInt64, Int32.toInt_add, Int32.toInt_sub, Int32.toInt_mul, bm32, Int32.reduceToInt, Int64.reduceToInt, Nat.reduceLT, Nat.reduceEqDiff, reduceIte] <;> omega)) (by first | omega | (simp (disch := omega) only [↓i_in, ↓i_isCouple, ↓i_isBridge, ↓i_isTheme, ↓i_isBarge, i_lt, i_le, i_eq, i_clamp, i_upd, i_m1, Int32.toInt_toInt64, Int32.toInt_add, Int32.toInt_sub, Int32.toInt_mul, bm32, Int32.reduceToInt, Int64.reduceToInt, Nat.reduceLT, Nat.reduceEqDiff, reduceIte] <;> omega)) ?_ 10 0 1000000000 1000000000 (-1) G (⟨(QG.refl _), (by first | omega | (simp (disch := omega) only [↓i_in, ↓i_isCouple, ↓i_isBridge, ↓i_isTheme, ↓i_isBarge, i_lt, i_le, i_eq, i_clamp, i_upd, i_m1, Int32.toInt_toInt64, Int32.toInt_add, Int32.toInt_sub, Int32.toInt_mul, bm32, Int32.reduceToInt, Int64.reduceToInt, Nat.reduceLT, Nat.reduceEqDiff, reduceIte] <;> omega)), (by first | omega | (simp (disch := omega) only [↓i_in, ↓i_isCouple, ↓i_isBridge, ↓i_isTheme, ↓i_isBarge, i_lt, i_le, i_eq, i_clamp, i_upd, i_m1, Int32.toInt_toInt64, Int32.toInt_add, Int32.toInt_sub, Int32.toInt_mul, bm32, Int32.reduceToInt, Int64.reduceToInt, Nat.reduceLT, Nat.reduceEqDiff, reduceIte] <;> omega))⟩) (by first | omega | (simp (disch := omega) only [↓i_in, ↓i_isCouple, ↓i_isBridge, ↓i_isTheme, ↓i_isBarge, i_lt, i_le, i_eq, i_clamp, i_upd, i_m1, Int32.toInt_toInt64, Int32.toInt_add, Int32.toInt_sub, Int32.toInt_mul, bm32, Int32.reduceToInt, Int64.reduceToInt, Nat.reduceLT, Nat.reduceEqDiff, reduceIte] <;> omega))
      intro w_9l6 w_9l5 w_9l4 w_9l3 w_9m0 i_3
      obtain ⟨i_4, i_5, i_6⟩ := i_3
      obtain ⟨w_9m0_2, w_9m0_3, w_9m0_4, w_9m0_5, w_9m0_6, w_9m0_14, w_9m0_42⟩ := QGs i_4
      refine ⟨fun c_7 => ?_, fun c_7 => ?_⟩
      · exact trivial
      · skip
        try simp (disch := omega) only [↓i_in, ↓i_isCouple, ↓i_isBridge, ↓i_isTheme, ↓i_isBarge, i_lt, i_le, i_eq, i_clamp, i_upd, i_m1, Int32.toInt_toInt64, Int32.toInt_add, Int32.toInt_sub, Int32.toInt_mul, bm32, Int32.reduceToInt, Int64.reduceToInt, Nat.reduceLT, Nat.reduceEqDiff, reduceIte, w_9m0_2, w_9m0_3, w_9m0_4, w_9m0_5, w_9m0_6, w_9m0_14, w_9m0_42] at c_7
        refine ⟨fun c_8 => ?_, fun c_8 => ?_⟩
        · exact trivial
        · skip
          try simp (disch := omega) only [↓i_in, ↓i_isCouple, ↓i_isBridge, ↓i_isTheme, ↓i_isBarge, i_lt, i_le, i_eq, i_clamp, i_upd, i_m1, Int32.toInt_toInt64, Int32.toInt_add, Int32.toInt_sub, Int32.toInt_mul, bm32, Int32.reduceToInt, Int64.reduceToInt, Nat.reduceLT, Nat.reduceEqDiff, reduceIte, w_9m0_2, w_9m0_3, w_9m0_4, w_9m0_5, w_9m0_6, w_9m0_14, w_9m0_42] at c_8
          refine ⟨fun c_9 => ?_, fun c_9 => ?_⟩
          · exact trivial
          · exact trivial
set_option maxHeartbeats 4000000 in
theorem p_hire {G : Nat → Int32} {f0 : Nat → Int32} {f10 : Nat → Int32} {f8 : Nat → Int32} {b_ : Int32} {w_ : Int32} (h_0 : GI G) : ∀ (r : Int32) (u : (Nat → Int32)), f_m_hire G f0 f10 f8 b_ w_ = (r, u) → QG G u := by
  have h_0_g := h_0
  obtain ⟨⟨h_0_2a, h_0_2b⟩, ⟨h_0_3a, h_0_3b⟩, ⟨h_0_4a, h_0_4b⟩, ⟨h_0_5a, h_0_5b⟩, ⟨h_0_6a, h_0_6b⟩, ⟨h_0_14a, h_0_14b⟩, ⟨h_0_42a, h_0_42b⟩⟩ := h_0_g
  intro r u e
  unfold f_m_hire at e
  by_cases c_1 : (f_m_isBridge G b_) = 0
  · rw [if_pos c_1] at e
    try simp (disch := omega) only [↓i_in, ↓i_isCouple, ↓i_isBridge, ↓i_isTheme, ↓i_isBarge, i_lt, i_le, i_eq, i_clamp, i_upd, i_m1, Int32.toInt_toInt64, Int32.toInt_add, Int32.toInt_sub, Int32.toInt_mul, bm32, Int32.reduceToInt, Int64.reduceToInt, Nat.reduceLT, Nat.reduceEqDiff, reduceIte] at c_1
    cases e
    exact (QG.refl _)
  · rw [if_neg c_1] at e
    try simp (disch := omega) only [↓i_in, ↓i_isCouple, ↓i_isBridge, ↓i_isTheme, ↓i_isBarge, i_lt, i_le, i_eq, i_clamp, i_upd, i_m1, Int32.toInt_toInt64, Int32.toInt_add, Int32.toInt_sub, Int32.toInt_mul, bm32, Int32.reduceToInt, Int64.reduceToInt, Nat.reduceLT, Nat.reduceEqDiff, reduceIte] at c_1
    by_cases c_2 : (f_m_in w_.toInt64 0 1) = 0
    · rw [if_pos c_2] at e
      try simp (disch := omega) only [↓i_in, ↓i_isCouple, ↓i_isBridge, ↓i_isTheme, ↓i_isBarge, i_lt, i_le, i_eq, i_clamp, i_upd, i_m1, Int32.toInt_toInt64, Int32.toInt_add, Int32.toInt_sub, Int32.toInt_mul, bm32, Int32.reduceToInt, Int64.reduceToInt, Nat.reduceLT, Nat.reduceEqDiff, reduceIte] at c_2
      cases e
      exact (QG.refl _)
    · rw [if_neg c_2] at e
      try simp (disch := omega) only [↓i_in, ↓i_isCouple, ↓i_isBridge, ↓i_isTheme, ↓i_isBarge, i_lt, i_le, i_eq, i_clamp, i_upd, i_m1, Int32.toInt_toInt64, Int32.toInt_add, Int32.toInt_sub, Int32.toInt_mul, bm32, Int32.reduceToInt, Int64.reduceToInt, Nat.reduceLT, Nat.reduceEqDiff, reduceIte] at c_2
      generalize x_3 : (f_m_hire_39 f0 f10 f8 b_ 10 0 1000000000 1000000000 (-1) G) = z_4 at e
      obtain ⟨w_9l6, w_9l5, w_9l4, w_9l3, w_9m0⟩ := z_4
      replace e : ((if w_9l3 = (-1) then (w_9l3, w_9m0) else (if w_ = 0 then (w_9l3, w_9m0) else (if w_9l5 = 1000000000 then (w_9l4, w_9m0) else (w_9l5, w_9m0))))) = (r, u) := e
      have p_5 := pl_hire_39 h_0 (by first | omega | (simp (disch := omega) only [↓i_in, ↓i_isCouple, ↓i_isBridge, ↓i_isTheme, ↓i_isBarge, i_lt, i_le, i_eq, i_clamp, i_upd, i_m1, Int32.toInt_toInt64, Int32.toInt_add, Int32.toInt_sub, Int32.toInt_mul, bm32, Int32.reduceToInt, Int64.reduceToInt, Nat.reduceLT, Nat.reduceEqDiff, reduceIte] <;> omega)) (by first | omega | (simp (disch := omega) only [↓i_in, ↓i_isCouple, ↓i_isBridge, ↓i_isTheme, ↓i_isBarge, i_lt, i_le, i_eq, i_clamp, i_upd, i_m1, Int32.toInt_toInt64, Int32.toInt_add, Int32.toInt_sub, Int32.toInt_mul, bm32, Int32.reduceToInt, Int64.reduceToInt, Nat.reduceLT, Nat.reduceEqDiff, reduceIte] <;> omega)) 10 0 1000000000 1000000000 (-1) G (⟨(QG.refl _), (by first | omega | (simp (disch := omega) only [↓i_in, ↓i_isCouple, ↓i_isBridge, ↓i_isTheme, ↓i_isBarge, i_lt, i_le, i_eq, i_clamp, i_upd, i_m1, Int32.toInt_toInt64, Int32.toInt_add, Int32.toInt_sub, Int32.toInt_mul, bm32, Int32.reduceToInt, Int64.reduceToInt, Nat.reduceLT, Nat.reduceEqDiff, reduceIte] <;> omega)), (by first | omega | (simp (disch := omega) only [↓i_in, ↓i_isCouple, ↓i_isBridge, ↓i_isTheme, ↓i_isBarge, i_lt, i_le, i_eq, i_clamp, i_upd, i_m1, Int32.toInt_toInt64, Int32.toInt_add, Int32.toInt_sub, Int32.toInt_mul, bm32, Int32.reduceToInt, Int64.reduceToInt, Nat.reduceLT, Nat.reduceEqDiff, reduceIte] <;> omega))⟩) _ _ _ _ _ x_3
      obtain ⟨i_6, i_7, i_8⟩ := p_5
      obtain ⟨w_9m0_2, w_9m0_3, w_9m0_4, w_9m0_5, w_9m0_6, w_9m0_14, w_9m0_42⟩ := QGs i_6
      by_cases c_9 : w_9l3 = (-1)
      · rw [if_pos c_9] at e
        try simp (disch := omega) only [↓i_in, ↓i_isCouple, ↓i_isBridge, ↓i_isTheme, ↓i_isBarge, i_lt, i_le, i_eq, i_clamp, i_upd, i_m1, Int32.toInt_toInt64, Int32.toInt_add, Int32.toInt_sub, Int32.toInt_mul, bm32, Int32.reduceToInt, Int64.reduceToInt, Nat.reduceLT, Nat.reduceEqDiff, reduceIte, w_9m0_2, w_9m0_3, w_9m0_4, w_9m0_5, w_9m0_6, w_9m0_14, w_9m0_42] at c_9
        cases e
        exact i_6
      · rw [if_neg c_9] at e
        try simp (disch := omega) only [↓i_in, ↓i_isCouple, ↓i_isBridge, ↓i_isTheme, ↓i_isBarge, i_lt, i_le, i_eq, i_clamp, i_upd, i_m1, Int32.toInt_toInt64, Int32.toInt_add, Int32.toInt_sub, Int32.toInt_mul, bm32, Int32.reduceToInt, Int64.reduceToInt, Nat.reduceLT, Nat.reduceEqDiff, reduceIte, w_9m0_2, w_9m0_3, w_9m0_4, w_9m0_5, w_9m0_6, w_9m0_14, w_9m0_42] at c_9
        by_cases c_10 : w_ = 0
        · rw [if_pos c_10] at e
          try simp (disch := omega) only [↓i_in, ↓i_isCouple, ↓i_isBridge, ↓i_isTheme, ↓i_isBarge, i_lt, i_le, i_eq, i_clamp, i_upd, i_m1, Int32.toInt_toInt64, Int32.toInt_add, Int32.toInt_sub, Int32.toInt_mul, bm32, Int32.reduceToInt, Int64.reduceToInt, Nat.reduceLT, Nat.reduceEqDiff, reduceIte, w_9m0_2, w_9m0_3, w_9m0_4, w_9m0_5, w_9m0_6, w_9m0_14, w_9m0_42] at c_10
          cases e
          exact i_6
        · rw [if_neg c_10] at e
          try simp (disch := omega) only [↓i_in, ↓i_isCouple, ↓i_isBridge, ↓i_isTheme, ↓i_isBarge, i_lt, i_le, i_eq, i_clamp, i_upd, i_m1, Int32.toInt_toInt64, Int32.toInt_add, Int32.toInt_sub, Int32.toInt_mul, bm32, Int32.reduceToInt, Int64.reduceToInt, Nat.reduceLT, Nat.reduceEqDiff, reduceIte, w_9m0_2, w_9m0_3, w_9m0_4, w_9m0_5, w_9m0_6, w_9m0_14, w_9m0_42] at c_10
          by_cases c_11 : w_9l5 = 1000000000
          · rw [if_pos c_11] at e
            try simp (disch := omega) only [↓i_in, ↓i_isCouple, ↓i_isBridge, ↓i_isTheme, ↓i_isBarge, i_lt, i_le, i_eq, i_clamp, i_upd, i_m1, Int32.toInt_toInt64, Int32.toInt_add, Int32.toInt_sub, Int32.toInt_mul, bm32, Int32.reduceToInt, Int64.reduceToInt, Nat.reduceLT, Nat.reduceEqDiff, reduceIte, w_9m0_2, w_9m0_3, w_9m0_4, w_9m0_5, w_9m0_6, w_9m0_14, w_9m0_42] at c_11
            cases e
            exact i_6
          · rw [if_neg c_11] at e
            try simp (disch := omega) only [↓i_in, ↓i_isCouple, ↓i_isBridge, ↓i_isTheme, ↓i_isBarge, i_lt, i_le, i_eq, i_clamp, i_upd, i_m1, Int32.toInt_toInt64, Int32.toInt_add, Int32.toInt_sub, Int32.toInt_mul, bm32, Int32.reduceToInt, Int64.reduceToInt, Nat.reduceLT, Nat.reduceEqDiff, reduceIte, w_9m0_2, w_9m0_3, w_9m0_4, w_9m0_5, w_9m0_6, w_9m0_14, w_9m0_42] at c_11
            cases e
            exact i_6
set_option maxHeartbeats 4000000 in
theorem sl_toldHer_50 {G : Nat → Int32} {f9 : Nat → Int32} {f10 : Nat → Int32} {f8 : Nat → Int32} {b_ : Int32} {k_ : Int32} {i_ : Int32} {w_9l7 : Int32} {K : Int32 → Int32 → Int32 → Int32 → (Nat → Int32) → Prop} (h_0 : GI G) (h_1 : 0 ≤ w_9l7.toInt) (h_2 : w_9l7.toInt < 6) (h_3 : 0 ≤ b_.toInt) (h_4 : b_.toInt < 6) (hK : ∀ w_13l8 w_13l6 w_13l5 w_13l4 w_13m0, (QG G w_13m0 ∧ (0 ≤ w_13l8.toInt) ∧ (w_13l8.toInt ≤ 5)) → K w_13l8 w_13l6 w_13l5 w_13l4 w_13m0) : ∀ (n : Nat) w_13l8 w_13l6 w_13l5 w_13l4 w_13m0, (QG G w_13m0 ∧ (0 ≤ w_13l8.toInt) ∧ (w_13l8.toInt ≤ 5)) → (6 - w_13l8.toInt).toNat < n → S_m_toldHer_50 f9 f10 f8 b_ k_ i_ w_9l7 K n w_13l8 w_13l6 w_13l5 w_13l4 w_13m0 := by
  have h_0_g := h_0
  obtain ⟨⟨h_0_2a, h_0_2b⟩, ⟨h_0_3a, h_0_3b⟩, ⟨h_0_4a, h_0_4b⟩, ⟨h_0_5a, h_0_5b⟩, ⟨h_0_6a, h_0_6b⟩, ⟨h_0_14a, h_0_14b⟩, ⟨h_0_42a, h_0_42b⟩⟩ := h_0_g
  intro n
  induction n with
  | zero => intro w_13l8 w_13l6 w_13l5 w_13l4 w_13m0 hI hm; exact absurd hm (Nat.not_lt_zero _)
  | succ n ih =>
    intro w_13l8 w_13l6 w_13l5 w_13l4 w_13m0 hI hm
    rw [S_m_toldHer_50_s]
    have hI0 := hI
    obtain ⟨i_1, i_2, i_3⟩ := hI0
    obtain ⟨w_13m0_2, w_13m0_3, w_13m0_4, w_13m0_5, w_13m0_6, w_13m0_14, w_13m0_42⟩ := QGs i_1
    refine ⟨fun c_4 => ?_, fun c_4 => ?_⟩
    · skip
      try simp (disch := omega) only [↓i_in, ↓i_isCouple, ↓i_isBridge, ↓i_isTheme, ↓i_isBarge, i_lt, i_le, i_eq, i_clamp, i_upd, i_m1, Int32.toInt_toInt64, Int32.toInt_add, Int32.toInt_sub, Int32.toInt_mul, bm32, Int32.reduceToInt, Int64.reduceToInt, Nat.reduceLT, Nat.reduceEqDiff, reduceIte, w_13m0_2, w_13m0_3, w_13m0_4, w_13m0_5, w_13m0_6, w_13m0_14, w_13m0_42] at c_4
      exact hK w_13l8 w_13l6 w_13l5 w_13l4 w_13m0 hI
    · skip
      try simp (disch := omega) only [↓i_in, ↓i_isCouple, ↓i_isBridge, ↓i_isTheme, ↓i_isBarge, i_lt, i_le, i_eq, i_clamp, i_upd, i_m1, Int32.toInt_toInt64, Int32.toInt_add, Int32.toInt_sub, Int32.toInt_mul, bm32, Int32.reduceToInt, Int64.reduceToInt, Nat.reduceLT, Nat.reduceEqDiff, reduceIte, w_13m0_2, w_13m0_3, w_13m0_4, w_13m0_5, w_13m0_6, w_13m0_14, w_13m0_42] at c_4
      refine ⟨vp_in_iff.mpr (by first | omega | (simp (disch := omega) only [↓i_in, ↓i_isCouple, ↓i_isBridge, ↓i_isTheme, ↓i_isBarge, i_lt, i_le, i_eq, i_clamp, i_upd, i_m1, Int32.toInt_toInt64, Int32.toInt_add, Int32.toInt_sub, Int32.toInt_mul, bm32, Int32.reduceToInt, Int64.reduceToInt, Nat.reduceLT, Nat.reduceEqDiff, reduceIte, w_13m0_2, w_13m0_3, w_13m0_4, w_13m0_5, w_13m0_6, w_13m0_14, w_13m0_42] <;> omega)), ?_⟩
      refine ⟨vp_in_iff.mpr (by first | omega | (simp (disch := omega) only [↓i_in, ↓i_isCouple, ↓i_isBridge, ↓i_isTheme, ↓i_isBarge, i_lt, i_le, i_eq, i_clamp, i_upd, i_m1, Int32.toInt_toInt64, Int32.toInt_add, Int32.toInt_sub, Int32.toInt_mul, bm32, Int32.reduceToInt, Int64.reduceToInt, Nat.reduceLT, Nat.reduceEqDiff, reduceIte, w_13m0_2, w_13m0_3, w_13m0_4, w_13m0_5, w_13m0_6, w_13m0_14, w_13m0_42] <;> omega)), ?_⟩
      refine ⟨(s_quarrels (by first | omega | (simp (disch := omega) only [↓i_in, ↓i_isCouple, ↓i_isBridge, ↓i_isTheme, ↓i_isBarge, i_lt, i_le, i_eq, i_clamp, i_upd, i_m1, Int32.toInt_toInt64, Int32.toInt_add, Int32.toInt_sub, Int32.toInt_mul, bm32, Int32.reduceToInt, Int64.reduceToInt, Nat.reduceLT, Nat.reduceEqDiff, reduceIte, w_13m0_2, w_13m0_3, w_13m0_4, w_13m0_5, w_13m0_6, w_13m0_14, w_13m0_42] <;> omega)) (by first | omega | (simp (disch := omega) only [↓i_in, ↓i_isCouple, ↓i_isBridge, ↓i_isTheme, ↓i_isBarge, i_lt, i_le, i_eq, i_clamp, i_upd, i_m1, Int32.toInt_toInt64, Int32.toInt_add, Int32.toInt_sub, Int32.toInt_mul, bm32, Int32.reduceToInt, Int64.reduceToInt, Nat.reduceLT, Nat.reduceEqDiff, reduceIte, w_13m0_2, w_13m0_3, w_13m0_4, w_13m0_5, w_13m0_6, w_13m0_14, w_13m0_42] <;> omega)) (by first | omega | (simp (disch := omega) only [↓i_in, ↓i_isCouple, ↓i_isBridge, ↓i_isTheme, ↓i_isBarge, i_lt, i_le, i_eq, i_clamp, i_upd, i_m1, Int32.toInt_toInt64, Int32.toInt_add, Int32.toInt_sub, Int32.toInt_mul, bm32, Int32.reduceToInt, Int64.reduceToInt, Nat.reduceLT, Nat.reduceEqDiff, reduceIte, w_13m0_2, w_13m0_3, w_13m0_4, w_13m0_5, w_13m0_6, w_13m0_14, w_13m0_42] <;> omega)) (by first | omega | (simp (disch := omega) only [↓i_in, ↓i_isCouple, ↓i_isBridge, ↓i_isTheme, ↓i_isBarge, i_lt, i_le, i_eq, i_clamp, i_upd, i_m1, Int32.toInt_toInt64, Int32.toInt_add, Int32.toInt_sub, Int32.toInt_mul, bm32, Int32.reduceToInt, Int64.reduceToInt, Nat.reduceLT, Nat.reduceEqDiff, reduceIte, w_13m0_2, w_13m0_3, w_13m0_4, w_13m0_5, w_13m0_6, w_13m0_14, w_13m0_42] <;> omega))), ?_⟩
      refine ⟨fun c_5 => ?_, fun c_5 => ?_⟩
      · skip
        try simp (disch := omega) only [↓i_in, ↓i_isCouple, ↓i_isBridge, ↓i_isTheme, ↓i_isBarge, i_lt, i_le, i_eq, i_clamp, i_upd, i_m1, Int32.toInt_toInt64, Int32.toInt_add, Int32.toInt_sub, Int32.toInt_mul, bm32, Int32.reduceToInt, Int64.reduceToInt, Nat.reduceLT, Nat.reduceEqDiff, reduceIte, w_13m0_2, w_13m0_3, w_13m0_4, w_13m0_5, w_13m0_6, w_13m0_14, w_13m0_42] at c_5
        refine ⟨fun c_6 => ?_, fun c_6 => ?_⟩
        · skip
          try simp (disch := omega) only [↓i_in, ↓i_isCouple, ↓i_isBridge, ↓i_isTheme, ↓i_isBarge, i_lt, i_le, i_eq, i_clamp, i_upd, i_m1, Int32.toInt_toInt64, Int32.toInt_add, Int32.toInt_sub, Int32.toInt_mul, bm32, Int32.reduceToInt, Int64.reduceToInt, Nat.reduceLT, Nat.reduceEqDiff, reduceIte, w_13m0_2, w_13m0_3, w_13m0_4, w_13m0_5, w_13m0_6, w_13m0_14, w_13m0_42] at c_6
          refine ⟨fun c_7 => ?_, fun c_7 => ?_⟩
          · skip
            try simp (disch := omega) only [↓i_in, ↓i_isCouple, ↓i_isBridge, ↓i_isTheme, ↓i_isBarge, i_lt, i_le, i_eq, i_clamp, i_upd, i_m1, Int32.toInt_toInt64, Int32.toInt_add, Int32.toInt_sub, Int32.toInt_mul, bm32, Int32.reduceToInt, Int64.reduceToInt, Nat.reduceLT, Nat.reduceEqDiff, reduceIte, w_13m0_2, w_13m0_3, w_13m0_4, w_13m0_5, w_13m0_6, w_13m0_14, w_13m0_42] at c_7
            refine ⟨fun c_8 => ?_, fun c_8 => ?_⟩
            · skip
              try simp (disch := omega) only [↓i_in, ↓i_isCouple, ↓i_isBridge, ↓i_isTheme, ↓i_isBarge, i_lt, i_le, i_eq, i_clamp, i_upd, i_m1, Int32.toInt_toInt64, Int32.toInt_add, Int32.toInt_sub, Int32.toInt_mul, bm32, Int32.reduceToInt, Int64.reduceToInt, Nat.reduceLT, Nat.reduceEqDiff, reduceIte, w_13m0_2, w_13m0_3, w_13m0_4, w_13m0_5, w_13m0_6, w_13m0_14, w_13m0_42] at c_8
              exact ih (w_13l8 + 1) ((10 * w_9l7) + w_13l8) (w_13l5 ||| (1 <<< (w_13l8 &&& 31))) (w_13l4 + 1) (f_m_quarrels w_13m0 f10 w_9l7 w_13l8 (f9 (w_9l7 : Int32).toNatClampNeg) (f8 (b_ : Int32).toNatClampNeg)) (⟨(QG.trans i_1 p_quarrels), (by first | omega | (simp (disch := omega) only [↓i_in, ↓i_isCouple, ↓i_isBridge, ↓i_isTheme, ↓i_isBarge, i_lt, i_le, i_eq, i_clamp, i_upd, i_m1, Int32.toInt_toInt64, Int32.toInt_add, Int32.toInt_sub, Int32.toInt_mul, bm32, Int32.reduceToInt, Int64.reduceToInt, Nat.reduceLT, Nat.reduceEqDiff, reduceIte, w_13m0_2, w_13m0_3, w_13m0_4, w_13m0_5, w_13m0_6, w_13m0_14, w_13m0_42] <;> omega)), (by first | omega | (simp (disch := omega) only [↓i_in, ↓i_isCouple, ↓i_isBridge, ↓i_isTheme, ↓i_isBarge, i_lt, i_le, i_eq, i_clamp, i_upd, i_m1, Int32.toInt_toInt64, Int32.toInt_add, Int32.toInt_sub, Int32.toInt_mul, bm32, Int32.reduceToInt, Int64.reduceToInt, Nat.reduceLT, Nat.reduceEqDiff, reduceIte, w_13m0_2, w_13m0_3, w_13m0_4, w_13m0_5, w_13m0_6, w_13m0_14, w_13m0_42] <;> omega))⟩) (by first | omega | (simp (disch := omega) only [↓i_in, ↓i_isCouple, ↓i_isBridge, ↓i_isTheme, ↓i_isBarge, i_lt, i_le, i_eq, i_clamp, i_upd, i_m1, Int32.toInt_toInt64, Int32.toInt_add, Int32.toInt_sub, Int32.toInt_mul, bm32, Int32.reduceToInt, Int64.reduceToInt, Nat.reduceLT, Nat.reduceEqDiff, reduceIte, w_13m0_2, w_13m0_3, w_13m0_4, w_13m0_5, w_13m0_6, w_13m0_14, w_13m0_42] <;> omega))
            · skip
              try simp (disch := omega) only [↓i_in, ↓i_isCouple, ↓i_isBridge, ↓i_isTheme, ↓i_isBarge, i_lt, i_le, i_eq, i_clamp, i_upd, i_m1, Int32.toInt_toInt64, Int32.toInt_add, Int32.toInt_sub, Int32.toInt_mul, bm32, Int32.reduceToInt, Int64.reduceToInt, Nat.reduceLT, Nat.reduceEqDiff, reduceIte, w_13m0_2, w_13m0_3, w_13m0_4, w_13m0_5, w_13m0_6, w_13m0_14, w_13m0_42] at c_8
              exact ih (w_13l8 + 1) w_13l6 (w_13l5 ||| (1 <<< (w_13l8 &&& 31))) (w_13l4 + 1) (f_m_quarrels w_13m0 f10 w_9l7 w_13l8 (f9 (w_9l7 : Int32).toNatClampNeg) (f8 (b_ : Int32).toNatClampNeg)) (⟨(QG.trans i_1 p_quarrels), (by first | omega | (simp (disch := omega) only [↓i_in, ↓i_isCouple, ↓i_isBridge, ↓i_isTheme, ↓i_isBarge, i_lt, i_le, i_eq, i_clamp, i_upd, i_m1, Int32.toInt_toInt64, Int32.toInt_add, Int32.toInt_sub, Int32.toInt_mul, bm32, Int32.reduceToInt, Int64.reduceToInt, Nat.reduceLT, Nat.reduceEqDiff, reduceIte, w_13m0_2, w_13m0_3, w_13m0_4, w_13m0_5, w_13m0_6, w_13m0_14, w_13m0_42] <;> omega)), (by first | omega | (simp (disch := omega) only [↓i_in, ↓i_isCouple, ↓i_isBridge, ↓i_isTheme, ↓i_isBarge, i_lt, i_le, i_eq, i_clamp, i_upd, i_m1, Int32.toInt_toInt64, Int32.toInt_add, Int32.toInt_sub, Int32.toInt_mul, bm32, Int32.reduceToInt, Int64.reduceToInt, Nat.reduceLT, Nat.reduceEqDiff, reduceIte, w_13m0_2, w_13m0_3, w_13m0_4, w_13m0_5, w_13m0_6, w_13m0_14, w_13m0_42] <;> omega))⟩) (by first | omega | (simp (disch := omega) only [↓i_in, ↓i_isCouple, ↓i_isBridge, ↓i_isTheme, ↓i_isBarge, i_lt, i_le, i_eq, i_clamp, i_upd, i_m1, Int32.toInt_toInt64, Int32.toInt_add, Int32.toInt_sub, Int32.toInt_mul, bm32, Int32.reduceToInt, Int64.reduceToInt, Nat.reduceLT, Nat.reduceEqDiff, reduceIte, w_13m0_2, w_13m0_3, w_13m0_4, w_13m0_5, w_13m0_6, w_13m0_14, w_13m0_42] <;> omega))
          · skip
            try simp (disch := omega) only [↓i_in, ↓i_isCouple, ↓i_isBridge, ↓i_isTheme, ↓i_isBarge, i_lt, i_le, i_eq, i_clamp, i_upd, i_m1, Int32.toInt_toInt64, Int32.toInt_add, Int32.toInt_sub, Int32.toInt_mul, bm32, Int32.reduceToInt, Int64.reduceToInt, Nat.reduceLT, Nat.reduceEqDiff, reduceIte, w_13m0_2, w_13m0_3, w_13m0_4, w_13m0_5, w_13m0_6, w_13m0_14, w_13m0_42] at c_7
            exact ih (w_13l8 + 1) w_13l6 w_13l5 w_13l4 (f_m_quarrels w_13m0 f10 w_9l7 w_13l8 (f9 (w_9l7 : Int32).toNatClampNeg) (f8 (b_ : Int32).toNatClampNeg)) (⟨(QG.trans i_1 p_quarrels), (by first | omega | (simp (disch := omega) only [↓i_in, ↓i_isCouple, ↓i_isBridge, ↓i_isTheme, ↓i_isBarge, i_lt, i_le, i_eq, i_clamp, i_upd, i_m1, Int32.toInt_toInt64, Int32.toInt_add, Int32.toInt_sub, Int32.toInt_mul, bm32, Int32.reduceToInt, Int64.reduceToInt, Nat.reduceLT, Nat.reduceEqDiff, reduceIte, w_13m0_2, w_13m0_3, w_13m0_4, w_13m0_5, w_13m0_6, w_13m0_14, w_13m0_42] <;> omega)), (by first | omega | (simp (disch := omega) only [↓i_in, ↓i_isCouple, ↓i_isBridge, ↓i_isTheme, ↓i_isBarge, i_lt, i_le, i_eq, i_clamp, i_upd, i_m1, Int32.toInt_toInt64, Int32.toInt_add, Int32.toInt_sub, Int32.toInt_mul, bm32, Int32.reduceToInt, Int64.reduceToInt, Nat.reduceLT, Nat.reduceEqDiff, reduceIte, w_13m0_2, w_13m0_3, w_13m0_4, w_13m0_5, w_13m0_6, w_13m0_14, w_13m0_42] <;> omega))⟩) (by first | omega | (simp (disch := omega) only [↓i_in, ↓i_isCouple, ↓i_isBridge, ↓i_isTheme, ↓i_isBarge, i_lt, i_le, i_eq, i_clamp, i_upd, i_m1, Int32.toInt_toInt64, Int32.toInt_add, Int32.toInt_sub, Int32.toInt_mul, bm32, Int32.reduceToInt, Int64.reduceToInt, Nat.reduceLT, Nat.reduceEqDiff, reduceIte, w_13m0_2, w_13m0_3, w_13m0_4, w_13m0_5, w_13m0_6, w_13m0_14, w_13m0_42] <;> omega))
        · skip
          try simp (disch := omega) only [↓i_in, ↓i_isCouple, ↓i_isBridge, ↓i_isTheme, ↓i_isBarge, i_lt, i_le, i_eq, i_clamp, i_upd, i_m1, Int32.toInt_toInt64, Int32.toInt_add, Int32.toInt_sub, Int32.toInt_mul, bm32, Int32.reduceToInt, Int64.reduceToInt, Nat.reduceLT, Nat.reduceEqDiff, reduceIte, w_13m0_2, w_13m0_3, w_13m0_4, w_13m0_5, w_13m0_6, w_13m0_14, w_13m0_42] at c_6
          exact ih (w_13l8 + 1) w_13l6 w_13l5 w_13l4 (f_m_quarrels w_13m0 f10 w_9l7 w_13l8 (f9 (w_9l7 : Int32).toNatClampNeg) (f8 (b_ : Int32).toNatClampNeg)) (⟨(QG.trans i_1 p_quarrels), (by first | omega | (simp (disch := omega) only [↓i_in, ↓i_isCouple, ↓i_isBridge, ↓i_isTheme, ↓i_isBarge, i_lt, i_le, i_eq, i_clamp, i_upd, i_m1, Int32.toInt_toInt64, Int32.toInt_add, Int32.toInt_sub, Int32.toInt_mul, bm32, Int32.reduceToInt, Int64.reduceToInt, Nat.reduceLT, Nat.reduceEqDiff, reduceIte, w_13m0_2, w_13m0_3, w_13m0_4, w_13m0_5, w_13m0_6, w_13m0_14, w_13m0_42] <;> omega)), (by first | omega | (simp (disch := omega) only [↓i_in, ↓i_isCouple, ↓i_isBridge, ↓i_isTheme, ↓i_isBarge, i_lt, i_le, i_eq, i_clamp, i_upd, i_m1, Int32.toInt_toInt64, Int32.toInt_add, Int32.toInt_sub, Int32.toInt_mul, bm32, Int32.reduceToInt, Int64.reduceToInt, Nat.reduceLT, Nat.reduceEqDiff, reduceIte, w_13m0_2, w_13m0_3, w_13m0_4, w_13m0_5, w_13m0_6, w_13m0_14, w_13m0_42] <;> omega))⟩) (by first | omega | (simp (disch := omega) only [↓i_in, ↓i_isCouple, ↓i_isBridge, ↓i_isTheme, ↓i_isBarge, i_lt, i_le, i_eq, i_clamp, i_upd, i_m1, Int32.toInt_toInt64, Int32.toInt_add, Int32.toInt_sub, Int32.toInt_mul, bm32, Int32.reduceToInt, Int64.reduceToInt, Nat.reduceLT, Nat.reduceEqDiff, reduceIte, w_13m0_2, w_13m0_3, w_13m0_4, w_13m0_5, w_13m0_6, w_13m0_14, w_13m0_42] <;> omega))
      · skip
        try simp (disch := omega) only [↓i_in, ↓i_isCouple, ↓i_isBridge, ↓i_isTheme, ↓i_isBarge, i_lt, i_le, i_eq, i_clamp, i_upd, i_m1, Int32.toInt_toInt64, Int32.toInt_add, Int32.toInt_sub, Int32.toInt_mul, bm32, Int32.reduceToInt, Int64.reduceToInt, Nat.reduceLT, Nat.reduceEqDiff, reduceIte, w_13m0_2, w_13m0_3, w_13m0_4, w_13m0_5, w_13m0_6, w_13m0_14, w_13m0_42] at c_5
        exact ih (w_13l8 + 1) w_13l6 w_13l5 w_13l4 (f_m_quarrels w_13m0 f10 w_9l7 w_13l8 (f9 (w_9l7 : Int32).toNatClampNeg) (f8 (b_ : Int32).toNatClampNeg)) (⟨(QG.trans i_1 p_quarrels), (by first | omega | (simp (disch := omega) only [↓i_in, ↓i_isCouple, ↓i_isBridge, ↓i_isTheme, ↓i_isBarge, i_lt, i_le, i_eq, i_clamp, i_upd, i_m1, Int32.toInt_toInt64, Int32.toInt_add, Int32.toInt_sub, Int32.toInt_mul, bm32, Int32.reduceToInt, Int64.reduceToInt, Nat.reduceLT, Nat.reduceEqDiff, reduceIte, w_13m0_2, w_13m0_3, w_13m0_4, w_13m0_5, w_13m0_6, w_13m0_14, w_13m0_42] <;> omega)), (by first | omega | (simp (disch := omega) only [↓i_in, ↓i_isCouple, ↓i_isBridge, ↓i_isTheme, ↓i_isBarge, i_lt, i_le, i_eq, i_clamp, i_upd, i_m1, Int32.toInt_toInt64, Int32.toInt_add, Int32.toInt_sub, Int32.toInt_mul, bm32, Int32.reduceToInt, Int64.reduceToInt, Nat.reduceLT, Nat.reduceEqDiff, reduceIte, w_13m0_2, w_13m0_3, w_13m0_4, w_13m0_5, w_13m0_6, w_13m0_14, w_13m0_42] <;> omega))⟩) (by first | omega | (simp (disch := omega) only [↓i_in, ↓i_isCouple, ↓i_isBridge, ↓i_isTheme, ↓i_isBarge, i_lt, i_le, i_eq, i_clamp, i_upd, i_m1, Int32.toInt_toInt64, Int32.toInt_add, Int32.toInt_sub, Int32.toInt_mul, bm32, Int32.reduceToInt, Int64.reduceToInt, Nat.reduceLT, Nat.reduceEqDiff, reduceIte, w_13m0_2, w_13m0_3, w_13m0_4, w_13m0_5, w_13m0_6, w_13m0_14, w_13m0_42] <;> omega))
set_option maxHeartbeats 4000000 in
theorem pl_toldHer_50 {G : Nat → Int32} {f9 : Nat → Int32} {f10 : Nat → Int32} {f8 : Nat → Int32} {b_ : Int32} {k_ : Int32} {i_ : Int32} {w_9l7 : Int32} (h_0 : GI G) (h_1 : 0 ≤ w_9l7.toInt) (h_2 : w_9l7.toInt < 6) (h_3 : 0 ≤ b_.toInt) (h_4 : b_.toInt < 6) : ∀ (n : Nat) w_13l8 w_13l6 w_13l5 w_13l4 w_13m0, (QG G w_13m0 ∧ (0 ≤ w_13l8.toInt) ∧ (w_13l8.toInt ≤ 5)) → ∀ r0 r1 r2 r3 r4, f_m_toldHer_50 f9 f10 f8 b_ k_ i_ w_9l7 n w_13l8 w_13l6 w_13l5 w_13l4 w_13m0 = (r0, r1, r2, r3, r4) → QG G r4 ∧ (0 ≤ r0.toInt) ∧ (r0.toInt ≤ 5) := by
  have h_0_g := h_0
  obtain ⟨⟨h_0_2a, h_0_2b⟩, ⟨h_0_3a, h_0_3b⟩, ⟨h_0_4a, h_0_4b⟩, ⟨h_0_5a, h_0_5b⟩, ⟨h_0_6a, h_0_6b⟩, ⟨h_0_14a, h_0_14b⟩, ⟨h_0_42a, h_0_42b⟩⟩ := h_0_g
  intro n
  induction n with
  | zero =>
    intro w_13l8 w_13l6 w_13l5 w_13l4 w_13m0 hI r0 r1 r2 r3 r4 e
    replace e : (w_13l8, w_13l6, w_13l5, w_13l4, w_13m0) = (r0, r1, r2, r3, r4) := e
    cases e
    exact hI
  | succ n ih =>
    intro w_13l8 w_13l6 w_13l5 w_13l4 w_13m0 hI r0 r1 r2 r3 r4 e
    rw [f_m_toldHer_50_s] at e
    have hI0 := hI
    obtain ⟨i_1, i_2, i_3⟩ := hI0
    obtain ⟨w_13m0_2, w_13m0_3, w_13m0_4, w_13m0_5, w_13m0_6, w_13m0_14, w_13m0_42⟩ := QGs i_1
    by_cases c_4 : (w_13m0 4) ≤ w_13l8
    · rw [if_pos c_4] at e
      try simp (disch := omega) only [↓i_in, ↓i_isCouple, ↓i_isBridge, ↓i_isTheme, ↓i_isBarge, i_lt, i_le, i_eq, i_clamp, i_upd, i_m1, Int32.toInt_toInt64, Int32.toInt_add, Int32.toInt_sub, Int32.toInt_mul, bm32, Int32.reduceToInt, Int64.reduceToInt, Nat.reduceLT, Nat.reduceEqDiff, reduceIte, w_13m0_2, w_13m0_3, w_13m0_4, w_13m0_5, w_13m0_6, w_13m0_14, w_13m0_42] at c_4
      cases e
      exact hI
    · rw [if_neg c_4] at e
      try simp (disch := omega) only [↓i_in, ↓i_isCouple, ↓i_isBridge, ↓i_isTheme, ↓i_isBarge, i_lt, i_le, i_eq, i_clamp, i_upd, i_m1, Int32.toInt_toInt64, Int32.toInt_add, Int32.toInt_sub, Int32.toInt_mul, bm32, Int32.reduceToInt, Int64.reduceToInt, Nat.reduceLT, Nat.reduceEqDiff, reduceIte, w_13m0_2, w_13m0_3, w_13m0_4, w_13m0_5, w_13m0_6, w_13m0_14, w_13m0_42] at c_4
      by_cases c_5 : ((f_m_quarrels w_13m0 f10 w_9l7 w_13l8 (f9 (w_9l7 : Int32).toNatClampNeg) (f8 (b_ : Int32).toNatClampNeg)) 34) = 0
      · rw [if_pos c_5] at e
        try simp (disch := omega) only [↓i_in, ↓i_isCouple, ↓i_isBridge, ↓i_isTheme, ↓i_isBarge, i_lt, i_le, i_eq, i_clamp, i_upd, i_m1, Int32.toInt_toInt64, Int32.toInt_add, Int32.toInt_sub, Int32.toInt_mul, bm32, Int32.reduceToInt, Int64.reduceToInt, Nat.reduceLT, Nat.reduceEqDiff, reduceIte, w_13m0_2, w_13m0_3, w_13m0_4, w_13m0_5, w_13m0_6, w_13m0_14, w_13m0_42] at c_5
        by_cases c_6 : ((f_m_quarrels w_13m0 f10 w_9l7 w_13l8 (f9 (w_9l7 : Int32).toNatClampNeg) (f8 (b_ : Int32).toNatClampNeg)) 33) = 0
        · rw [if_pos c_6] at e
          try simp (disch := omega) only [↓i_in, ↓i_isCouple, ↓i_isBridge, ↓i_isTheme, ↓i_isBarge, i_lt, i_le, i_eq, i_clamp, i_upd, i_m1, Int32.toInt_toInt64, Int32.toInt_add, Int32.toInt_sub, Int32.toInt_mul, bm32, Int32.reduceToInt, Int64.reduceToInt, Nat.reduceLT, Nat.reduceEqDiff, reduceIte, w_13m0_2, w_13m0_3, w_13m0_4, w_13m0_5, w_13m0_6, w_13m0_14, w_13m0_42] at c_6
          by_cases c_7 : ((f_m_quarrels w_13m0 f10 w_9l7 w_13l8 (f9 (w_9l7 : Int32).toNatClampNeg) (f8 (b_ : Int32).toNatClampNeg)) 32) = k_
          · rw [if_pos c_7] at e
            try simp (disch := omega) only [↓i_in, ↓i_isCouple, ↓i_isBridge, ↓i_isTheme, ↓i_isBarge, i_lt, i_le, i_eq, i_clamp, i_upd, i_m1, Int32.toInt_toInt64, Int32.toInt_add, Int32.toInt_sub, Int32.toInt_mul, bm32, Int32.reduceToInt, Int64.reduceToInt, Nat.reduceLT, Nat.reduceEqDiff, reduceIte, w_13m0_2, w_13m0_3, w_13m0_4, w_13m0_5, w_13m0_6, w_13m0_14, w_13m0_42] at c_7
            by_cases c_8 : w_13l4 = i_
            · rw [if_pos c_8] at e
              try simp (disch := omega) only [↓i_in, ↓i_isCouple, ↓i_isBridge, ↓i_isTheme, ↓i_isBarge, i_lt, i_le, i_eq, i_clamp, i_upd, i_m1, Int32.toInt_toInt64, Int32.toInt_add, Int32.toInt_sub, Int32.toInt_mul, bm32, Int32.reduceToInt, Int64.reduceToInt, Nat.reduceLT, Nat.reduceEqDiff, reduceIte, w_13m0_2, w_13m0_3, w_13m0_4, w_13m0_5, w_13m0_6, w_13m0_14, w_13m0_42] at c_8
              exact ih (w_13l8 + 1) ((10 * w_9l7) + w_13l8) (w_13l5 ||| (1 <<< (w_13l8 &&& 31))) (w_13l4 + 1) (f_m_quarrels w_13m0 f10 w_9l7 w_13l8 (f9 (w_9l7 : Int32).toNatClampNeg) (f8 (b_ : Int32).toNatClampNeg)) (⟨(QG.trans i_1 p_quarrels), (by first | omega | (simp (disch := omega) only [↓i_in, ↓i_isCouple, ↓i_isBridge, ↓i_isTheme, ↓i_isBarge, i_lt, i_le, i_eq, i_clamp, i_upd, i_m1, Int32.toInt_toInt64, Int32.toInt_add, Int32.toInt_sub, Int32.toInt_mul, bm32, Int32.reduceToInt, Int64.reduceToInt, Nat.reduceLT, Nat.reduceEqDiff, reduceIte, w_13m0_2, w_13m0_3, w_13m0_4, w_13m0_5, w_13m0_6, w_13m0_14, w_13m0_42] <;> omega)), (by first | omega | (simp (disch := omega) only [↓i_in, ↓i_isCouple, ↓i_isBridge, ↓i_isTheme, ↓i_isBarge, i_lt, i_le, i_eq, i_clamp, i_upd, i_m1, Int32.toInt_toInt64, Int32.toInt_add, Int32.toInt_sub, Int32.toInt_mul, bm32, Int32.reduceToInt, Int64.reduceToInt, Nat.reduceLT, Nat.reduceEqDiff, reduceIte, w_13m0_2, w_13m0_3, w_13m0_4, w_13m0_5, w_13m0_6, w_13m0_14, w_13m0_42] <;> omega))⟩) _ _ _ _ _ e
            · rw [if_neg c_8] at e
              try simp (disch := omega) only [↓i_in, ↓i_isCouple, ↓i_isBridge, ↓i_isTheme, ↓i_isBarge, i_lt, i_le, i_eq, i_clamp, i_upd, i_m1, Int32.toInt_toInt64, Int32.toInt_add, Int32.toInt_sub, Int32.toInt_mul, bm32, Int32.reduceToInt, Int64.reduceToInt, Nat.reduceLT, Nat.reduceEqDiff, reduceIte, w_13m0_2, w_13m0_3, w_13m0_4, w_13m0_5, w_13m0_6, w_13m0_14, w_13m0_42] at c_8
              exact ih (w_13l8 + 1) w_13l6 (w_13l5 ||| (1 <<< (w_13l8 &&& 31))) (w_13l4 + 1) (f_m_quarrels w_13m0 f10 w_9l7 w_13l8 (f9 (w_9l7 : Int32).toNatClampNeg) (f8 (b_ : Int32).toNatClampNeg)) (⟨(QG.trans i_1 p_quarrels), (by first | omega | (simp (disch := omega) only [↓i_in, ↓i_isCouple, ↓i_isBridge, ↓i_isTheme, ↓i_isBarge, i_lt, i_le, i_eq, i_clamp, i_upd, i_m1, Int32.toInt_toInt64, Int32.toInt_add, Int32.toInt_sub, Int32.toInt_mul, bm32, Int32.reduceToInt, Int64.reduceToInt, Nat.reduceLT, Nat.reduceEqDiff, reduceIte, w_13m0_2, w_13m0_3, w_13m0_4, w_13m0_5, w_13m0_6, w_13m0_14, w_13m0_42] <;> omega)), (by first | omega | (simp (disch := omega) only [↓i_in, ↓i_isCouple, ↓i_isBridge, ↓i_isTheme, ↓i_isBarge, i_lt, i_le, i_eq, i_clamp, i_upd, i_m1, Int32.toInt_toInt64, Int32.toInt_add, Int32.toInt_sub, Int32.toInt_mul, bm32, Int32.reduceToInt, Int64.reduceToInt, Nat.reduceLT, Nat.reduceEqDiff, reduceIte, w_13m0_2, w_13m0_3, w_13m0_4, w_13m0_5, w_13m0_6, w_13m0_14, w_13m0_42] <;> omega))⟩) _ _ _ _ _ e
          · rw [if_neg c_7] at e
            try simp (disch := omega) only [↓i_in, ↓i_isCouple, ↓i_isBridge, ↓i_isTheme, ↓i_isBarge, i_lt, i_le, i_eq, i_clamp, i_upd, i_m1, Int32.toInt_toInt64, Int32.toInt_add, Int32.toInt_sub, Int32.toInt_mul, bm32, Int32.reduceToInt, Int64.reduceToInt, Nat.reduceLT, Nat.reduceEqDiff, reduceIte, w_13m0_2, w_13m0_3, w_13m0_4, w_13m0_5, w_13m0_6, w_13m0_14, w_13m0_42] at c_7
            exact ih (w_13l8 + 1) w_13l6 w_13l5 w_13l4 (f_m_quarrels w_13m0 f10 w_9l7 w_13l8 (f9 (w_9l7 : Int32).toNatClampNeg) (f8 (b_ : Int32).toNatClampNeg)) (⟨(QG.trans i_1 p_quarrels), (by first | omega | (simp (disch := omega) only [↓i_in, ↓i_isCouple, ↓i_isBridge, ↓i_isTheme, ↓i_isBarge, i_lt, i_le, i_eq, i_clamp, i_upd, i_m1, Int32.toInt_toInt64, Int32.toInt_add, Int32.toInt_sub, Int32.toInt_mul, bm32, Int32.reduceToInt, Int64.reduceToInt, Nat.reduceLT, Nat.reduceEqDiff, reduceIte, w_13m0_2, w_13m0_3, w_13m0_4, w_13m0_5, w_13m0_6, w_13m0_14, w_13m0_42] <;> omega)), (by first | omega | (simp (disch := omega) only [↓i_in, ↓i_isCouple, ↓i_isBridge, ↓i_isTheme, ↓i_isBarge, i_lt, i_le, i_eq, i_clamp, i_upd, i_m1, Int32.toInt_toInt64, Int32.toInt_add, Int32.toInt_sub, Int32.toInt_mul, bm32, Int32.reduceToInt, Int64.reduceToInt, Nat.reduceLT, Nat.reduceEqDiff, reduceIte, w_13m0_2, w_13m0_3, w_13m0_4, w_13m0_5, w_13m0_6, w_13m0_14, w_13m0_42] <;> omega))⟩) _ _ _ _ _ e
        · rw [if_neg c_6] at e
          try simp (disch := omega) only [↓i_in, ↓i_isCouple, ↓i_isBridge, ↓i_isTheme, ↓i_isBarge, i_lt, i_le, i_eq, i_clamp, i_upd, i_m1, Int32.toInt_toInt64, Int32.toInt_add, Int32.toInt_sub, Int32.toInt_mul, bm32, Int32.reduceToInt, Int64.reduceToInt, Nat.reduceLT, Nat.reduceEqDiff, reduceIte, w_13m0_2, w_13m0_3, w_13m0_4, w_13m0_5, w_13m0_6, w_13m0_14, w_13m0_42] at c_6
          exact ih (w_13l8 + 1) w_13l6 w_13l5 w_13l4 (f_m_quarrels w_13m0 f10 w_9l7 w_13l8 (f9 (w_9l7 : Int32).toNatClampNeg) (f8 (b_ : Int32).toNatClampNeg)) (⟨(QG.trans i_1 p_quarrels), (by first | omega | (simp (disch := omega) only [↓i_in, ↓i_isCouple, ↓i_isBridge, ↓i_isTheme, ↓i_isBarge, i_lt, i_le, i_eq, i_clamp, i_upd, i_m1, Int32.toInt_toInt64, Int32.toInt_add, Int32.toInt_sub, Int32.toInt_mul, bm32, Int32.reduceToInt, Int64.reduceToInt, Nat.reduceLT, Nat.reduceEqDiff, reduceIte, w_13m0_2, w_13m0_3, w_13m0_4, w_13m0_5, w_13m0_6, w_13m0_14, w_13m0_42] <;> omega)), (by first | omega | (simp (disch := omega) only [↓i_in, ↓i_isCouple, ↓i_isBridge, ↓i_isTheme, ↓i_isBarge, i_lt, i_le, i_eq, i_clamp, i_upd, i_m1, Int32.toInt_toInt64, Int32.toInt_add, Int32.toInt_sub, Int32.toInt_mul, bm32, Int32.reduceToInt, Int64.reduceToInt, Nat.reduceLT, Nat.reduceEqDiff, reduceIte, w_13m0_2, w_13m0_3, w_13m0_4, w_13m0_5, w_13m0_6, w_13m0_14, w_13m0_42] <;> omega))⟩) _ _ _ _ _ e
      · rw [if_neg c_5] at e
        try simp (disch := omega) only [↓i_in, ↓i_isCouple, ↓i_isBridge, ↓i_isTheme, ↓i_isBarge, i_lt, i_le, i_eq, i_clamp, i_upd, i_m1, Int32.toInt_toInt64, Int32.toInt_add, Int32.toInt_sub, Int32.toInt_mul, bm32, Int32.reduceToInt, Int64.reduceToInt, Nat.reduceLT, Nat.reduceEqDiff, reduceIte, w_13m0_2, w_13m0_3, w_13m0_4, w_13m0_5, w_13m0_6, w_13m0_14, w_13m0_42] at c_5
        exact ih (w_13l8 + 1) w_13l6 w_13l5 w_13l4 (f_m_quarrels w_13m0 f10 w_9l7 w_13l8 (f9 (w_9l7 : Int32).toNatClampNeg) (f8 (b_ : Int32).toNatClampNeg)) (⟨(QG.trans i_1 p_quarrels), (by first | omega | (simp (disch := omega) only [↓i_in, ↓i_isCouple, ↓i_isBridge, ↓i_isTheme, ↓i_isBarge, i_lt, i_le, i_eq, i_clamp, i_upd, i_m1, Int32.toInt_toInt64, Int32.toInt_add, Int32.toInt_sub, Int32.toInt_mul, bm32, Int32.reduceToInt, Int64.reduceToInt, Nat.reduceLT, Nat.reduceEqDiff, reduceIte, w_13m0_2, w_13m0_3, w_13m0_4, w_13m0_5, w_13m0_6, w_13m0_14, w_13m0_42] <;> omega)), (by first | omega | (simp (disch := omega) only [↓i_in, ↓i_isCouple, ↓i_isBridge, ↓i_isTheme, ↓i_isBarge, i_lt, i_le, i_eq, i_clamp, i_upd, i_m1, Int32.toInt_toInt64, Int32.toInt_add, Int32.toInt_sub, Int32.toInt_mul, bm32, Int32.reduceToInt, Int64.reduceToInt, Nat.reduceLT, Nat.reduceEqDiff, reduceIte, w_13m0_2, w_13m0_3, w_13m0_4, w_13m0_5, w_13m0_6, w_13m0_14, w_13m0_42] <;> omega))⟩) _ _ _ _ _ e
set_option maxHeartbeats 4000000 in
theorem sl_toldHer_38 {G : Nat → Int32} {f9 : Nat → Int32} {f10 : Nat → Int32} {f8 : Nat → Int32} {b_ : Int32} {k_ : Int32} {i_ : Int32} {K : Int32 → Int32 → Int32 → Int32 → (Nat → Int32) → Prop} (h_0 : GI G) (h_1 : 0 ≤ b_.toInt) (h_2 : b_.toInt < 6) (hK : ∀ w_9l7 w_9l6 w_9l5 w_9l4 w_9m0, (QG G w_9m0 ∧ (0 ≤ w_9l7.toInt) ∧ (w_9l7.toInt ≤ 6)) → K w_9l7 w_9l6 w_9l5 w_9l4 w_9m0) : ∀ (n : Nat) w_9l7 w_9l6 w_9l5 w_9l4 w_9m0, (QG G w_9m0 ∧ (0 ≤ w_9l7.toInt) ∧ (w_9l7.toInt ≤ 6)) → (7 - w_9l7.toInt).toNat < n → S_m_toldHer_38 f9 f10 f8 b_ k_ i_ K n w_9l7 w_9l6 w_9l5 w_9l4 w_9m0 := by
  have h_0_g := h_0
  obtain ⟨⟨h_0_2a, h_0_2b⟩, ⟨h_0_3a, h_0_3b⟩, ⟨h_0_4a, h_0_4b⟩, ⟨h_0_5a, h_0_5b⟩, ⟨h_0_6a, h_0_6b⟩, ⟨h_0_14a, h_0_14b⟩, ⟨h_0_42a, h_0_42b⟩⟩ := h_0_g
  intro n
  induction n with
  | zero => intro w_9l7 w_9l6 w_9l5 w_9l4 w_9m0 hI hm; exact absurd hm (Nat.not_lt_zero _)
  | succ n ih =>
    intro w_9l7 w_9l6 w_9l5 w_9l4 w_9m0 hI hm
    rw [S_m_toldHer_38_s]
    have hI0 := hI
    obtain ⟨i_1, i_2, i_3⟩ := hI0
    obtain ⟨w_9m0_2, w_9m0_3, w_9m0_4, w_9m0_5, w_9m0_6, w_9m0_14, w_9m0_42⟩ := QGs i_1
    refine ⟨fun c_4 => ?_, fun c_4 => ?_⟩
    · skip
      try simp (disch := omega) only [↓i_in, ↓i_isCouple, ↓i_isBridge, ↓i_isTheme, ↓i_isBarge, i_lt, i_le, i_eq, i_clamp, i_upd, i_m1, Int32.toInt_toInt64, Int32.toInt_add, Int32.toInt_sub, Int32.toInt_mul, bm32, Int32.reduceToInt, Int64.reduceToInt, Nat.reduceLT, Nat.reduceEqDiff, reduceIte, w_9m0_2, w_9m0_3, w_9m0_4, w_9m0_5, w_9m0_6, w_9m0_14, w_9m0_42] at c_4
      exact hK w_9l7 w_9l6 w_9l5 w_9l4 w_9m0 hI
    · skip
      try simp (disch := omega) only [↓i_in, ↓i_isCouple, ↓i_isBridge, ↓i_isTheme, ↓i_isBarge, i_lt, i_le, i_eq, i_clamp, i_upd, i_m1, Int32.toInt_toInt64, Int32.toInt_add, Int32.toInt_sub, Int32.toInt_mul, bm32, Int32.reduceToInt, Int64.reduceToInt, Nat.reduceLT, Nat.reduceEqDiff, reduceIte, w_9m0_2, w_9m0_3, w_9m0_4, w_9m0_5, w_9m0_6, w_9m0_14, w_9m0_42] at c_4
      refine sl_toldHer_50 h_0 (by first | omega | (simp (disch := omega) only [↓i_in, ↓i_isCouple, ↓i_isBridge, ↓i_isTheme, ↓i_isBarge, i_lt, i_le, i_eq, i_clamp, i_upd, i_m1, Int32.toInt_toInt64, Int32.toInt_add, Int32.toInt_sub, Int32.toInt_mul, bm32, Int32.reduceToInt, Int64.reduceToInt, Nat.reduceLT, Nat.reduceEqDiff, reduceIte, w_9m0_2, w_9m0_3, w_9m0_4, w_9m0_5, w_9m0_6, w_9m0_14, w_9m0_42] <;> omega)) (by first | omega | (simp (disch := omega) only [↓i_in, ↓i_isCouple, ↓i_isBridge, ↓i_isTheme, ↓i_isBarge, i_lt, i_le, i_eq, i_clamp, i_upd, i_m1, Int32.toInt_toInt64, Int32.toInt_add, Int32.toInt_sub, Int32.toInt_mul, bm32, Int32.reduceToInt, Int64.reduceToInt, Nat.reduceLT, Nat.reduceEqDiff, reduceIte, w_9m0_2, w_9m0_3, w_9m0_4, w_9m0_5, w_9m0_6, w_9m0_14, w_9m0_42] <;> omega)) (by first | omega | (simp (disch := omega) only [↓i_in, ↓i_isCouple, ↓i_isBridge, ↓i_isTheme, ↓i_isBarge, i_lt, i_le, i_eq, i_clamp, i_upd, i_m1, Int32.toInt_toInt64, Int32.toInt_add, Int32.toInt_sub, Int32.toInt_mul, bm32, Int32.reduceToInt, Int64.reduceToInt, Nat.reduceLT, Nat.reduceEqDiff, reduceIte, w_9m0_2, w_9m0_3, w_9m0_4, w_9m0_5, w_9m0_6, w_9m0_14, w_9m0_42] <;> omega)) (by first | omega | (simp (disch := omega) only [↓i_in, ↓i_isCouple, ↓i_isBridge, ↓i_isTheme, ↓i_isBarge, i_lt, i_le, i_eq, i_clamp, i_upd, i_m1, Int32.toInt_toInt64, Int32.toInt_add, Int32.toInt_sub, Int32.toInt_mul, bm32, Int32.reduceToInt, Int64.reduceToInt, Nat.reduceLT, Nat.reduceEqDiff, reduceIte, w_9m0_2, w_9m0_3, w_9m0_4, w_9m0_5, w_9m0_6, w_9m0_14, w_9m0_42] <;> omega)) ?_ 10 0 w_9l6 w_9l5 w_9l4 w_9m0 (⟨i_1, (by first | omega | (simp (disch := omega) only [↓i_in, ↓i_isCouple, ↓i_isBridge, ↓i_isTheme, ↓i_isBarge, i_lt, i_le, i_eq, i_clamp, i_upd, i_m1, Int32.toInt_toInt64, Int32.toInt_add, Int32.toInt_sub, Int32.toInt_mul, bm32, Int32.reduceToInt, Int64.reduceToInt, Nat.reduceLT, Nat.reduceEqDiff, reduceIte, w_9m0_2, w_9m0_3, w_9m0_4, w_9m0_5, w_9m0_6, w_9m0_14, w_9m0_42] <;> omega)), (by first | omega | (simp (disch := omega) only [↓i_in, ↓i_isCouple, ↓i_isBridge, ↓i_isTheme, ↓i_isBarge, i_lt, i_le, i_eq, i_clamp, i_upd, i_m1, Int32.toInt_toInt64, Int32.toInt_add, Int32.toInt_sub, Int32.toInt_mul, bm32, Int32.reduceToInt, Int64.reduceToInt, Nat.reduceLT, Nat.reduceEqDiff, reduceIte, w_9m0_2, w_9m0_3, w_9m0_4, w_9m0_5, w_9m0_6, w_9m0_14, w_9m0_42] <;> omega))⟩) (by first | omega | (simp (disch := omega) only [↓i_in, ↓i_isCouple, ↓i_isBridge, ↓i_isTheme, ↓i_isBarge, i_lt, i_le, i_eq, i_clamp, i_upd, i_m1, Int32.toInt_toInt64, Int32.toInt_add, Int32.toInt_sub, Int32.toInt_mul, bm32, Int32.reduceToInt, Int64.reduceToInt, Nat.reduceLT, Nat.reduceEqDiff, reduceIte, w_9m0_2, w_9m0_3, w_9m0_4, w_9m0_5, w_9m0_6, w_9m0_14, w_9m0_42] <;> omega))
      intro w_13l8 w_13l6 w_13l5 w_13l4 w_13m0 i_5
      obtain ⟨i_6, i_7, i_8⟩ := i_5
      obtain ⟨w_13m0_2, w_13m0_3, w_13m0_4, w_13m0_5, w_13m0_6, w_13m0_14, w_13m0_42⟩ := QGs i_6
      exact ih (w_9l7 + 1) w_13l6 w_13l5 w_13l4 w_13m0 (⟨i_6, (by first | omega | (simp (disch := omega) only [↓i_in, ↓i_isCouple, ↓i_isBridge, ↓i_isTheme, ↓i_isBarge, i_lt, i_le, i_eq, i_clamp, i_upd, i_m1, Int32.toInt_toInt64, Int32.toInt_add, Int32.toInt_sub, Int32.toInt_mul, bm32, Int32.reduceToInt, Int64.reduceToInt, Nat.reduceLT, Nat.reduceEqDiff, reduceIte, w_9m0_2, w_9m0_3, w_9m0_4, w_9m0_5, w_9m0_6, w_9m0_14, w_9m0_42, w_13m0_2, w_13m0_3, w_13m0_4, w_13m0_5, w_13m0_6, w_13m0_14, w_13m0_42] <;> omega)), (by first | omega | (simp (disch := omega) only [↓i_in, ↓i_isCouple, ↓i_isBridge, ↓i_isTheme, ↓i_isBarge, i_lt, i_le, i_eq, i_clamp, i_upd, i_m1, Int32.toInt_toInt64, Int32.toInt_add, Int32.toInt_sub, Int32.toInt_mul, bm32, Int32.reduceToInt, Int64.reduceToInt, Nat.reduceLT, Nat.reduceEqDiff, reduceIte, w_9m0_2, w_9m0_3, w_9m0_4, w_9m0_5, w_9m0_6, w_9m0_14, w_9m0_42, w_13m0_2, w_13m0_3, w_13m0_4, w_13m0_5, w_13m0_6, w_13m0_14, w_13m0_42] <;> omega))⟩) (by first | omega | (simp (disch := omega) only [↓i_in, ↓i_isCouple, ↓i_isBridge, ↓i_isTheme, ↓i_isBarge, i_lt, i_le, i_eq, i_clamp, i_upd, i_m1, Int32.toInt_toInt64, Int32.toInt_add, Int32.toInt_sub, Int32.toInt_mul, bm32, Int32.reduceToInt, Int64.reduceToInt, Nat.reduceLT, Nat.reduceEqDiff, reduceIte, w_9m0_2, w_9m0_3, w_9m0_4, w_9m0_5, w_9m0_6, w_9m0_14, w_9m0_42, w_13m0_2, w_13m0_3, w_13m0_4, w_13m0_5, w_13m0_6, w_13m0_14, w_13m0_42] <;> omega))
set_option maxHeartbeats 4000000 in
theorem pl_toldHer_38 {G : Nat → Int32} {f9 : Nat → Int32} {f10 : Nat → Int32} {f8 : Nat → Int32} {b_ : Int32} {k_ : Int32} {i_ : Int32} (h_0 : GI G) (h_1 : 0 ≤ b_.toInt) (h_2 : b_.toInt < 6) : ∀ (n : Nat) w_9l7 w_9l6 w_9l5 w_9l4 w_9m0, (QG G w_9m0 ∧ (0 ≤ w_9l7.toInt) ∧ (w_9l7.toInt ≤ 6)) → ∀ r0 r1 r2 r3 r4, f_m_toldHer_38 f9 f10 f8 b_ k_ i_ n w_9l7 w_9l6 w_9l5 w_9l4 w_9m0 = (r0, r1, r2, r3, r4) → QG G r4 ∧ (0 ≤ r0.toInt) ∧ (r0.toInt ≤ 6) := by
  have h_0_g := h_0
  obtain ⟨⟨h_0_2a, h_0_2b⟩, ⟨h_0_3a, h_0_3b⟩, ⟨h_0_4a, h_0_4b⟩, ⟨h_0_5a, h_0_5b⟩, ⟨h_0_6a, h_0_6b⟩, ⟨h_0_14a, h_0_14b⟩, ⟨h_0_42a, h_0_42b⟩⟩ := h_0_g
  intro n
  induction n with
  | zero =>
    intro w_9l7 w_9l6 w_9l5 w_9l4 w_9m0 hI r0 r1 r2 r3 r4 e
    replace e : (w_9l7, w_9l6, w_9l5, w_9l4, w_9m0) = (r0, r1, r2, r3, r4) := e
    cases e
    exact hI
  | succ n ih =>
    intro w_9l7 w_9l6 w_9l5 w_9l4 w_9m0 hI r0 r1 r2 r3 r4 e
    rw [f_m_toldHer_38_s] at e
    have hI0 := hI
    obtain ⟨i_1, i_2, i_3⟩ := hI0
    obtain ⟨w_9m0_2, w_9m0_3, w_9m0_4, w_9m0_5, w_9m0_6, w_9m0_14, w_9m0_42⟩ := QGs i_1
    by_cases c_4 : (w_9m0 5) ≤ w_9l7
    · rw [if_pos c_4] at e
      try simp (disch := omega) only [↓i_in, ↓i_isCouple, ↓i_isBridge, ↓i_isTheme, ↓i_isBarge, i_lt, i_le, i_eq, i_clamp, i_upd, i_m1, Int32.toInt_toInt64, Int32.toInt_add, Int32.toInt_sub, Int32.toInt_mul, bm32, Int32.reduceToInt, Int64.reduceToInt, Nat.reduceLT, Nat.reduceEqDiff, reduceIte, w_9m0_2, w_9m0_3, w_9m0_4, w_9m0_5, w_9m0_6, w_9m0_14, w_9m0_42] at c_4
      cases e
      exact hI
    · rw [if_neg c_4] at e
      try simp (disch := omega) only [↓i_in, ↓i_isCouple, ↓i_isBridge, ↓i_isTheme, ↓i_isBarge, i_lt, i_le, i_eq, i_clamp, i_upd, i_m1, Int32.toInt_toInt64, Int32.toInt_add, Int32.toInt_sub, Int32.toInt_mul, bm32, Int32.reduceToInt, Int64.reduceToInt, Nat.reduceLT, Nat.reduceEqDiff, reduceIte, w_9m0_2, w_9m0_3, w_9m0_4, w_9m0_5, w_9m0_6, w_9m0_14, w_9m0_42] at c_4
      generalize x_5 : (f_m_toldHer_50 f9 f10 f8 b_ k_ i_ w_9l7 10 0 w_9l6 w_9l5 w_9l4 w_9m0) = z_6 at e
      obtain ⟨w_13l8, w_13l6, w_13l5, w_13l4, w_13m0⟩ := z_6
      replace e : ((f_m_toldHer_38 f9 f10 f8 b_ k_ i_ n (w_9l7 + 1) w_13l6 w_13l5 w_13l4 w_13m0)) = (r0, r1, r2, r3, r4) := e
      have p_7 := pl_toldHer_50 h_0 (by first | omega | (simp (disch := omega) only [↓i_in, ↓i_isCouple, ↓i_isBridge, ↓i_isTheme, ↓i_isBarge, i_lt, i_le, i_eq, i_clamp, i_upd, i_m1, Int32.toInt_toInt64, Int32.toInt_add, Int32.toInt_sub, Int32.toInt_mul, bm32, Int32.reduceToInt, Int64.reduceToInt, Nat.reduceLT, Nat.reduceEqDiff, reduceIte, w_9m0_2, w_9m0_3, w_9m0_4, w_9m0_5, w_9m0_6, w_9m0_14, w_9m0_42] <;> omega)) (by first | omega | (simp (disch := omega) only [↓i_in, ↓i_isCouple, ↓i_isBridge, ↓i_isTheme, ↓i_isBarge, i_lt, i_le, i_eq, i_clamp, i_upd, i_m1, Int32.toInt_toInt64, Int32.toInt_add, Int32.toInt_sub, Int32.toInt_mul, bm32, Int32.reduceToInt, Int64.reduceToInt, Nat.reduceLT, Nat.reduceEqDiff, reduceIte, w_9m0_2, w_9m0_3, w_9m0_4, w_9m0_5, w_9m0_6, w_9m0_14, w_9m0_42] <;> omega)) (by first | omega | (simp (disch := omega) only [↓i_in, ↓i_isCouple, ↓i_isBridge, ↓i_isTheme, ↓i_isBarge, i_lt, i_le, i_eq, i_clamp, i_upd, i_m1, Int32.toInt_toInt64, Int32.toInt_add, Int32.toInt_sub, Int32.toInt_mul, bm32, Int32.reduceToInt, Int64.reduceToInt, Nat.reduceLT, Nat.reduceEqDiff, reduceIte, w_9m0_2, w_9m0_3, w_9m0_4, w_9m0_5, w_9m0_6, w_9m0_14, w_9m0_42] <;> omega)) (by first | omega | (simp (disch := omega) only [↓i_in, ↓i_isCouple, ↓i_isBridge, ↓i_isTheme, ↓i_isBarge, i_lt, i_le, i_eq, i_clamp, i_upd, i_m1, Int32.toInt_toInt64, Int32.toInt_add, Int32.toInt_sub, Int32.toInt_mul, bm32, Int32.reduceToInt, Int64.reduceToInt, Nat.reduceLT, Nat.reduceEqDiff, reduceIte, w_9m0_2, w_9m0_3, w_9m0_4, w_9m0_5, w_9m0_6, w_9m0_14, w_9m0_42] <;> omega)) 10 0 w_9l6 w_9l5 w_9l4 w_9m0 (⟨i_1, (by first | omega | (simp (disch := omega) only [↓i_in, ↓i_isCouple, ↓i_isBridge, ↓i_isTheme, ↓i_isBarge, i_lt, i_le, i_eq, i_clamp, i_upd, i_m1, Int32.toInt_toInt64, Int32.toInt_add, Int32.toInt_sub, Int32.toInt_mul, bm32, Int32.reduceToInt, Int64.reduceToInt, Nat.reduceLT, Nat.reduceEqDiff, reduceIte, w_9m0_2, w_9m0_3, w_9m0_4, w_9m0_5, w_9m0_6, w_9m0_14, w_9m0_42] <;> omega)), (by first | omega | (simp (disch := omega) only [↓i_in, ↓i_isCouple, ↓i_isBridge, ↓i_isTheme, ↓i_isBarge, i_lt, i_le, i_eq, i_clamp, i_upd, i_m1, Int32.toInt_toInt64, Int32.toInt_add, Int32.toInt_sub, Int32.toInt_mul, bm32, Int32.reduceToInt, Int64.reduceToInt, Nat.reduceLT, Nat.reduceEqDiff, reduceIte, w_9m0_2, w_9m0_3, w_9m0_4, w_9m0_5, w_9m0_6, w_9m0_14, w_9m0_42] <;> omega))⟩) _ _ _ _ _ x_5
      obtain ⟨i_8, i_9, i_10⟩ := p_7
      obtain ⟨w_13m0_2, w_13m0_3, w_13m0_4, w_13m0_5, w_13m0_6, w_13m0_14, w_13m0_42⟩ := QGs i_8
      exact ih (w_9l7 + 1) w_13l6 w_13l5 w_13l4 w_13m0 (⟨i_8, (by first | omega | (simp (disch := omega) only [↓i_in, ↓i_isCouple, ↓i_isBridge, ↓i_isTheme, ↓i_isBarge, i_lt, i_le, i_eq, i_clamp, i_upd, i_m1, Int32.toInt_toInt64, Int32.toInt_add, Int32.toInt_sub, Int32.toInt_mul, bm32, Int32.reduceToInt, Int64.reduceToInt, Nat.reduceLT, Nat.reduceEqDiff, reduceIte, w_9m0_2, w_9m0_3, w_9m0_4, w_9m0_5, w_9m0_6, w_9m0_14, w_9m0_42, w_13m0_2, w_13m0_3, w_13m0_4, w_13m0_5, w_13m0_6, w_13m0_14, w_13m0_42] <;> omega)), (by first | omega | (simp (disch := omega) only [↓i_in, ↓i_isCouple, ↓i_isBridge, ↓i_isTheme, ↓i_isBarge, i_lt, i_le, i_eq, i_clamp, i_upd, i_m1, Int32.toInt_toInt64, Int32.toInt_add, Int32.toInt_sub, Int32.toInt_mul, bm32, Int32.reduceToInt, Int64.reduceToInt, Nat.reduceLT, Nat.reduceEqDiff, reduceIte, w_9m0_2, w_9m0_3, w_9m0_4, w_9m0_5, w_9m0_6, w_9m0_14, w_9m0_42, w_13m0_2, w_13m0_3, w_13m0_4, w_13m0_5, w_13m0_6, w_13m0_14, w_13m0_42] <;> omega))⟩) _ _ _ _ _ e
set_option maxHeartbeats 4000000 in
theorem s_toldHer {G : Nat → Int32} {f9 : Nat → Int32} {f10 : Nat → Int32} {f8 : Nat → Int32} {b_ : Int32} {k_ : Int32} {i_ : Int32} (h_0 : GI G) : S_m_toldHer G f9 f10 f8 b_ k_ i_ := by
  unfold S_m_toldHer
  have h_0_g := h_0
  obtain ⟨⟨h_0_2a, h_0_2b⟩, ⟨h_0_3a, h_0_3b⟩, ⟨h_0_4a, h_0_4b⟩, ⟨h_0_5a, h_0_5b⟩, ⟨h_0_6a, h_0_6b⟩, ⟨h_0_14a, h_0_14b⟩, ⟨h_0_42a, h_0_42b⟩⟩ := h_0_g
  refine ⟨s_isBridge, ?_⟩
  refine ⟨fun c_1 => ?_, fun c_1 => ?_⟩
  · exact trivial
  · skip
    try simp (disch := omega) only [↓i_in, ↓i_isCouple, ↓i_isBridge, ↓i_isTheme, ↓i_isBarge, i_lt, i_le, i_eq, i_clamp, i_upd, i_m1, Int32.toInt_toInt64, Int32.toInt_add, Int32.toInt_sub, Int32.toInt_mul, bm32, Int32.reduceToInt, Int64.reduceToInt, Nat.reduceLT, Nat.reduceEqDiff, reduceIte] at c_1
    refine ⟨s_in, ?_⟩
    refine ⟨fun c_2 => ?_, fun c_2 => ?_⟩
    · exact trivial
    · skip
      try simp (disch := omega) only [↓i_in, ↓i_isCouple, ↓i_isBridge, ↓i_isTheme, ↓i_isBarge, i_lt, i_le, i_eq, i_clamp, i_upd, i_m1, Int32.toInt_toInt64, Int32.toInt_add, Int32.toInt_sub, Int32.toInt_mul, bm32, Int32.reduceToInt, Int64.reduceToInt, Nat.reduceLT, Nat.reduceEqDiff, reduceIte] at c_2
      refine sl_toldHer_38 h_0 (by first | omega | (simp (disch := omega) only [↓i_in, ↓i_isCouple, ↓i_isBridge, ↓i_isTheme, ↓i_isBarge, i_lt, i_le, i_eq, i_clamp, i_upd, i_m1, Int32.toInt_toInt64, Int32.toInt_add, Int32.toInt_sub, Int32.toInt_mul, bm32, Int32.reduceToInt, Int64.reduceToInt, Nat.reduceLT, Nat.reduceEqDiff, reduceIte] <;> omega)) (by first | omega | (simp (disch := omega) only [↓i_in, ↓i_isCouple, ↓i_isBridge, ↓i_isTheme, ↓i_isBarge, i_lt, i_le, i_eq, i_clamp, i_upd, i_m1, Int32.toInt_toInt64, Int32.toInt_add, Int32.toInt_sub, Int32.toInt_mul, bm32, Int32.reduceToInt, Int64.reduceToInt, Nat.reduceLT, Nat.reduceEqDiff, reduceIte] <;> omega)) ?_ 10 0 (-1) 0 0 G (⟨(QG.refl _), (by first | omega | (simp (disch := omega) only [↓i_in, ↓i_isCouple, ↓i_isBridge, ↓i_isTheme, ↓i_isBarge, i_lt, i_le, i_eq, i_clamp, i_upd, i_m1, Int32.toInt_toInt64, Int32.toInt_add, Int32.toInt_sub, Int32.toInt_mul, bm32, Int32.reduceToInt, Int64.reduceToInt, Nat.reduceLT, Nat.reduceEqDiff, reduceIte] <;> omega)), (by first | omega | (simp (disch := omega) only [↓i_in, ↓i_isCouple, ↓i_isBridge, ↓i_isTheme, ↓i_isBarge, i_lt, i_le, i_eq, i_clamp, i_upd, i_m1, Int32.toInt_toInt64, Int32.toInt_add, Int32.toInt_sub, Int32.toInt_mul, bm32, Int32.reduceToInt, Int64.reduceToInt, Nat.reduceLT, Nat.reduceEqDiff, reduceIte] <;> omega))⟩) (by first | omega | (simp (disch := omega) only [↓i_in, ↓i_isCouple, ↓i_isBridge, ↓i_isTheme, ↓i_isBarge, i_lt, i_le, i_eq, i_clamp, i_upd, i_m1, Int32.toInt_toInt64, Int32.toInt_add, Int32.toInt_sub, Int32.toInt_mul, bm32, Int32.reduceToInt, Int64.reduceToInt, Nat.reduceLT, Nat.reduceEqDiff, reduceIte] <;> omega))
      intro w_9l7 w_9l6 w_9l5 w_9l4 w_9m0 i_3
      obtain ⟨i_4, i_5, i_6⟩ := i_3
      obtain ⟨w_9m0_2, w_9m0_3, w_9m0_4, w_9m0_5, w_9m0_6, w_9m0_14, w_9m0_42⟩ := QGs i_4
      refine ⟨fun c_7 => ?_, fun c_7 => ?_⟩
      · exact trivial
      · skip
        try simp (disch := omega) only [↓i_in, ↓i_isCouple, ↓i_isBridge, ↓i_isTheme, ↓i_isBarge, i_lt, i_le, i_eq, i_clamp, i_upd, i_m1, Int32.toInt_toInt64, Int32.toInt_add, Int32.toInt_sub, Int32.toInt_mul, bm32, Int32.reduceToInt, Int64.reduceToInt, Nat.reduceLT, Nat.reduceEqDiff, reduceIte, w_9m0_2, w_9m0_3, w_9m0_4, w_9m0_5, w_9m0_6, w_9m0_14, w_9m0_42] at c_7
        refine ⟨fun c_8 => ?_, fun c_8 => ?_⟩
        · exact trivial
        · exact trivial
set_option maxHeartbeats 4000000 in
theorem p_toldHer {G : Nat → Int32} {f9 : Nat → Int32} {f10 : Nat → Int32} {f8 : Nat → Int32} {b_ : Int32} {k_ : Int32} {i_ : Int32} (h_0 : GI G) : ∀ (r : Int32) (u : (Nat → Int32)), f_m_toldHer G f9 f10 f8 b_ k_ i_ = (r, u) → QG G u := by
  have h_0_g := h_0
  obtain ⟨⟨h_0_2a, h_0_2b⟩, ⟨h_0_3a, h_0_3b⟩, ⟨h_0_4a, h_0_4b⟩, ⟨h_0_5a, h_0_5b⟩, ⟨h_0_6a, h_0_6b⟩, ⟨h_0_14a, h_0_14b⟩, ⟨h_0_42a, h_0_42b⟩⟩ := h_0_g
  intro r u e
  unfold f_m_toldHer at e
  by_cases c_1 : (f_m_isBridge G b_) = 0
  · rw [if_pos c_1] at e
    try simp (disch := omega) only [↓i_in, ↓i_isCouple, ↓i_isBridge, ↓i_isTheme, ↓i_isBarge, i_lt, i_le, i_eq, i_clamp, i_upd, i_m1, Int32.toInt_toInt64, Int32.toInt_add, Int32.toInt_sub, Int32.toInt_mul, bm32, Int32.reduceToInt, Int64.reduceToInt, Nat.reduceLT, Nat.reduceEqDiff, reduceIte] at c_1
    cases e
    exact (QG.refl _)
  · rw [if_neg c_1] at e
    try simp (disch := omega) only [↓i_in, ↓i_isCouple, ↓i_isBridge, ↓i_isTheme, ↓i_isBarge, i_lt, i_le, i_eq, i_clamp, i_upd, i_m1, Int32.toInt_toInt64, Int32.toInt_add, Int32.toInt_sub, Int32.toInt_mul, bm32, Int32.reduceToInt, Int64.reduceToInt, Nat.reduceLT, Nat.reduceEqDiff, reduceIte] at c_1
    by_cases c_2 : (f_m_in k_.toInt64 1 60) = 0
    · rw [if_pos c_2] at e
      try simp (disch := omega) only [↓i_in, ↓i_isCouple, ↓i_isBridge, ↓i_isTheme, ↓i_isBarge, i_lt, i_le, i_eq, i_clamp, i_upd, i_m1, Int32.toInt_toInt64, Int32.toInt_add, Int32.toInt_sub, Int32.toInt_mul, bm32, Int32.reduceToInt, Int64.reduceToInt, Nat.reduceLT, Nat.reduceEqDiff, reduceIte] at c_2
      cases e
      exact (QG.refl _)
    · rw [if_neg c_2] at e
      try simp (disch := omega) only [↓i_in, ↓i_isCouple, ↓i_isBridge, ↓i_isTheme, ↓i_isBarge, i_lt, i_le, i_eq, i_clamp, i_upd, i_m1, Int32.toInt_toInt64, Int32.toInt_add, Int32.toInt_sub, Int32.toInt_mul, bm32, Int32.reduceToInt, Int64.reduceToInt, Nat.reduceLT, Nat.reduceEqDiff, reduceIte] at c_2
      generalize x_3 : (f_m_toldHer_38 f9 f10 f8 b_ k_ i_ 10 0 (-1) 0 0 G) = z_4 at e
      obtain ⟨w_9l7, w_9l6, w_9l5, w_9l4, w_9m0⟩ := z_4
      replace e : ((if i_ = (-1) then (w_9l4, w_9m0) else (if i_ = (-2) then (w_9l5, w_9m0) else (w_9l6, w_9m0)))) = (r, u) := e
      have p_5 := pl_toldHer_38 h_0 (by first | omega | (simp (disch := omega) only [↓i_in, ↓i_isCouple, ↓i_isBridge, ↓i_isTheme, ↓i_isBarge, i_lt, i_le, i_eq, i_clamp, i_upd, i_m1, Int32.toInt_toInt64, Int32.toInt_add, Int32.toInt_sub, Int32.toInt_mul, bm32, Int32.reduceToInt, Int64.reduceToInt, Nat.reduceLT, Nat.reduceEqDiff, reduceIte] <;> omega)) (by first | omega | (simp (disch := omega) only [↓i_in, ↓i_isCouple, ↓i_isBridge, ↓i_isTheme, ↓i_isBarge, i_lt, i_le, i_eq, i_clamp, i_upd, i_m1, Int32.toInt_toInt64, Int32.toInt_add, Int32.toInt_sub, Int32.toInt_mul, bm32, Int32.reduceToInt, Int64.reduceToInt, Nat.reduceLT, Nat.reduceEqDiff, reduceIte] <;> omega)) 10 0 (-1) 0 0 G (⟨(QG.refl _), (by first | omega | (simp (disch := omega) only [↓i_in, ↓i_isCouple, ↓i_isBridge, ↓i_isTheme, ↓i_isBarge, i_lt, i_le, i_eq, i_clamp, i_upd, i_m1, Int32.toInt_toInt64, Int32.toInt_add, Int32.toInt_sub, Int32.toInt_mul, bm32, Int32.reduceToInt, Int64.reduceToInt, Nat.reduceLT, Nat.reduceEqDiff, reduceIte] <;> omega)), (by first | omega | (simp (disch := omega) only [↓i_in, ↓i_isCouple, ↓i_isBridge, ↓i_isTheme, ↓i_isBarge, i_lt, i_le, i_eq, i_clamp, i_upd, i_m1, Int32.toInt_toInt64, Int32.toInt_add, Int32.toInt_sub, Int32.toInt_mul, bm32, Int32.reduceToInt, Int64.reduceToInt, Nat.reduceLT, Nat.reduceEqDiff, reduceIte] <;> omega))⟩) _ _ _ _ _ x_3
      obtain ⟨i_6, i_7, i_8⟩ := p_5
      obtain ⟨w_9m0_2, w_9m0_3, w_9m0_4, w_9m0_5, w_9m0_6, w_9m0_14, w_9m0_42⟩ := QGs i_6
      by_cases c_9 : i_ = (-1)
      · rw [if_pos c_9] at e
        try simp (disch := omega) only [↓i_in, ↓i_isCouple, ↓i_isBridge, ↓i_isTheme, ↓i_isBarge, i_lt, i_le, i_eq, i_clamp, i_upd, i_m1, Int32.toInt_toInt64, Int32.toInt_add, Int32.toInt_sub, Int32.toInt_mul, bm32, Int32.reduceToInt, Int64.reduceToInt, Nat.reduceLT, Nat.reduceEqDiff, reduceIte, w_9m0_2, w_9m0_3, w_9m0_4, w_9m0_5, w_9m0_6, w_9m0_14, w_9m0_42] at c_9
        cases e
        exact i_6
      · rw [if_neg c_9] at e
        try simp (disch := omega) only [↓i_in, ↓i_isCouple, ↓i_isBridge, ↓i_isTheme, ↓i_isBarge, i_lt, i_le, i_eq, i_clamp, i_upd, i_m1, Int32.toInt_toInt64, Int32.toInt_add, Int32.toInt_sub, Int32.toInt_mul, bm32, Int32.reduceToInt, Int64.reduceToInt, Nat.reduceLT, Nat.reduceEqDiff, reduceIte, w_9m0_2, w_9m0_3, w_9m0_4, w_9m0_5, w_9m0_6, w_9m0_14, w_9m0_42] at c_9
        by_cases c_10 : i_ = (-2)
        · rw [if_pos c_10] at e
          try simp (disch := omega) only [↓i_in, ↓i_isCouple, ↓i_isBridge, ↓i_isTheme, ↓i_isBarge, i_lt, i_le, i_eq, i_clamp, i_upd, i_m1, Int32.toInt_toInt64, Int32.toInt_add, Int32.toInt_sub, Int32.toInt_mul, bm32, Int32.reduceToInt, Int64.reduceToInt, Nat.reduceLT, Nat.reduceEqDiff, reduceIte, w_9m0_2, w_9m0_3, w_9m0_4, w_9m0_5, w_9m0_6, w_9m0_14, w_9m0_42] at c_10
          cases e
          exact i_6
        · rw [if_neg c_10] at e
          try simp (disch := omega) only [↓i_in, ↓i_isCouple, ↓i_isBridge, ↓i_isTheme, ↓i_isBarge, i_lt, i_le, i_eq, i_clamp, i_upd, i_m1, Int32.toInt_toInt64, Int32.toInt_add, Int32.toInt_sub, Int32.toInt_mul, bm32, Int32.reduceToInt, Int64.reduceToInt, Nat.reduceLT, Nat.reduceEqDiff, reduceIte, w_9m0_2, w_9m0_3, w_9m0_4, w_9m0_5, w_9m0_6, w_9m0_14, w_9m0_42] at c_10
          cases e
          exact i_6
end
section
set_option maxHeartbeats 4000000 in
theorem sl_passes_5 {G : Nat → Int32} {f10 : Nat → Int32} {f8 : Nat → Int32} {f11 : Nat → Int32} {h_ : Int32} {v_ : Int32} {K : Int32 → Int32 → (Nat → Int32) → (Nat → Int32) → Prop} (h_0 : GI G) (h_1 : RI f11) (h_2 : 0 ≤ h_.toInt) (h_3 : h_.toInt ≤ 1260) (h_4 : h_.toInt % 42 = 0) (h_5 : 0 ≤ v_.toInt) (h_6 : v_.toInt < 7) (hK : ∀ w_1l4 w_1l3 w_1m0 w_1m1, (QG G w_1m0 ∧ WI w_1m1 ∧ (0 ≤ w_1l4.toInt) ∧ (w_1l4.toInt ≤ 6)) → K w_1l4 w_1l3 w_1m0 w_1m1) : ∀ (n : Nat) w_1l4 w_1l3 w_1m0 w_1m1, (QG G w_1m0 ∧ WI w_1m1 ∧ (0 ≤ w_1l4.toInt) ∧ (w_1l4.toInt ≤ 6)) → (7 - w_1l4.toInt).toNat < n → S_m_passes_5 f10 f8 f11 h_ v_ K n w_1l4 w_1l3 w_1m0 w_1m1 := by
  have h_0_g := h_0
  obtain ⟨⟨h_0_2a, h_0_2b⟩, ⟨h_0_3a, h_0_3b⟩, ⟨h_0_4a, h_0_4b⟩, ⟨h_0_5a, h_0_5b⟩, ⟨h_0_6a, h_0_6b⟩, ⟨h_0_14a, h_0_14b⟩, ⟨h_0_42a, h_0_42b⟩⟩ := h_0_g
  intro n
  induction n with
  | zero => intro w_1l4 w_1l3 w_1m0 w_1m1 hI hm; exact absurd hm (Nat.not_lt_zero _)
  | succ n ih =>
    intro w_1l4 w_1l3 w_1m0 w_1m1 hI hm
    rw [S_m_passes_5_s]
    have hI0 := hI
    obtain ⟨i_1, i_2, i_3, i_4⟩ := hI0
    obtain ⟨w_1m0_2, w_1m0_3, w_1m0_4, w_1m0_5, w_1m0_6, w_1m0_14, w_1m0_42⟩ := QGs i_1
    have rf := h_1 v_.toInt.toNat
    refine ⟨vp_in_iff.mpr (by first | omega | (simp (disch := omega) only [↓i_in, ↓i_isCouple, ↓i_isBridge, ↓i_isTheme, ↓i_isBarge, i_lt, i_le, i_eq, i_clamp, i_upd, i_m1, Int32.toInt_toInt64, Int32.toInt_add, Int32.toInt_sub, Int32.toInt_mul, bm32, Int32.reduceToInt, Int64.reduceToInt, Nat.reduceLT, Nat.reduceEqDiff, reduceIte, w_1m0_2, w_1m0_3, w_1m0_4, w_1m0_5, w_1m0_6, w_1m0_14, w_1m0_42] <;> omega)), ?_⟩
    refine ⟨fun c_5 => ?_, fun c_5 => ?_⟩
    · skip
      try simp (disch := omega) only [↓i_in, ↓i_isCouple, ↓i_isBridge, ↓i_isTheme, ↓i_isBarge, i_lt, i_le, i_eq, i_clamp, i_upd, i_m1, Int32.toInt_toInt64, Int32.toInt_add, Int32.toInt_sub, Int32.toInt_mul, bm32, Int32.reduceToInt, Int64.reduceToInt, Nat.reduceLT, Nat.reduceEqDiff, reduceIte, w_1m0_2, w_1m0_3, w_1m0_4, w_1m0_5, w_1m0_6, w_1m0_14, w_1m0_42] at c_5
      exact hK w_1l4 w_1l3 w_1m0 w_1m1 hI
    · skip
      try simp (disch := omega) only [↓i_in, ↓i_isCouple, ↓i_isBridge, ↓i_isTheme, ↓i_isBarge, i_lt, i_le, i_eq, i_clamp, i_upd, i_m1, Int32.toInt_toInt64, Int32.toInt_add, Int32.toInt_sub, Int32.toInt_mul, bm32, Int32.reduceToInt, Int64.reduceToInt, Nat.reduceLT, Nat.reduceEqDiff, reduceIte, w_1m0_2, w_1m0_3, w_1m0_4, w_1m0_5, w_1m0_6, w_1m0_14, w_1m0_42] at c_5
      refine ⟨fun c_6 => ?_, fun c_6 => ?_⟩
      · skip
        try simp (disch := omega) only [↓i_in, ↓i_isCouple, ↓i_isBridge, ↓i_isTheme, ↓i_isBarge, i_lt, i_le, i_eq, i_clamp, i_upd, i_m1, Int32.toInt_toInt64, Int32.toInt_add, Int32.toInt_sub, Int32.toInt_mul, bm32, Int32.reduceToInt, Int64.reduceToInt, Nat.reduceLT, Nat.reduceEqDiff, reduceIte, w_1m0_2, w_1m0_3, w_1m0_4, w_1m0_5, w_1m0_6, w_1m0_14, w_1m0_42] at c_6
        exact hK w_1l4 w_1l3 w_1m0 w_1m1 hI
      · skip
        try simp (disch := omega) only [↓i_in, ↓i_isCouple, ↓i_isBridge, ↓i_isTheme, ↓i_isBarge, i_lt, i_le, i_eq, i_clamp, i_upd, i_m1, Int32.toInt_toInt64, Int32.toInt_add, Int32.toInt_sub, Int32.toInt_mul, bm32, Int32.reduceToInt, Int64.reduceToInt, Nat.reduceLT, Nat.reduceEqDiff, reduceIte, w_1m0_2, w_1m0_3, w_1m0_4, w_1m0_5, w_1m0_6, w_1m0_14, w_1m0_42] at c_6
        refine ⟨(s_whoIsAt (GI.of i_1 h_0) (by first | omega | (simp (disch := omega) only [↓i_in, ↓i_isCouple, ↓i_isBridge, ↓i_isTheme, ↓i_isBarge, i_lt, i_le, i_eq, i_clamp, i_upd, i_m1, Int32.toInt_toInt64, Int32.toInt_add, Int32.toInt_sub, Int32.toInt_mul, bm32, Int32.reduceToInt, Int64.reduceToInt, Nat.reduceLT, Nat.reduceEqDiff, reduceIte, w_1m0_2, w_1m0_3, w_1m0_4, w_1m0_5, w_1m0_6, w_1m0_14, w_1m0_42] <;> omega)) (by first | omega | (simp (disch := omega) only [↓i_in, ↓i_isCouple, ↓i_isBridge, ↓i_isTheme, ↓i_isBarge, i_lt, i_le, i_eq, i_clamp, i_upd, i_m1, Int32.toInt_toInt64, Int32.toInt_add, Int32.toInt_sub, Int32.toInt_mul, bm32, Int32.reduceToInt, Int64.reduceToInt, Nat.reduceLT, Nat.reduceEqDiff, reduceIte, w_1m0_2, w_1m0_3, w_1m0_4, w_1m0_5, w_1m0_6, w_1m0_14, w_1m0_42] <;> omega))), ?_⟩
        have v_7 := p_whoIsAt (G := w_1m0) (f0 := w_1m1) (h_ := h_) (b_ := w_1l4) (GI.of i_1 h_0) (by first | omega | (simp (disch := omega) only [↓i_in, ↓i_isCouple, ↓i_isBridge, ↓i_isTheme, ↓i_isBarge, i_lt, i_le, i_eq, i_clamp, i_upd, i_m1, Int32.toInt_toInt64, Int32.toInt_add, Int32.toInt_sub, Int32.toInt_mul, bm32, Int32.reduceToInt, Int64.reduceToInt, Nat.reduceLT, Nat.reduceEqDiff, reduceIte, w_1m0_2, w_1m0_3, w_1m0_4, w_1m0_5, w_1m0_6, w_1m0_14, w_1m0_42] <;> omega)) (by first | omega | (simp (disch := omega) only [↓i_in, ↓i_isCouple, ↓i_isBridge, ↓i_isTheme, ↓i_isBarge, i_lt, i_le, i_eq, i_clamp, i_upd, i_m1, Int32.toInt_toInt64, Int32.toInt_add, Int32.toInt_sub, Int32.toInt_mul, bm32, Int32.reduceToInt, Int64.reduceToInt, Nat.reduceLT, Nat.reduceEqDiff, reduceIte, w_1m0_2, w_1m0_3, w_1m0_4, w_1m0_5, w_1m0_6, w_1m0_14, w_1m0_42] <;> omega))
        try simp (disch := omega) only [↓i_in, ↓i_isCouple, ↓i_isBridge, ↓i_isTheme, ↓i_isBarge, i_lt, i_le, i_eq, i_clamp, i_upd, i_m1, Int32.toInt_toInt64, Int32.toInt_add, Int32.toInt_sub, Int32.toInt_mul, bm32, Int32.reduceToInt, Int64.reduceToInt, Nat.reduceLT, Nat.reduceEqDiff, reduceIte, w_1m0_2, w_1m0_3, w_1m0_4, w_1m0_5, w_1m0_6, w_1m0_14, w_1m0_42] at v_7
        refine ⟨fun c_8 => ?_, fun c_8 => ?_⟩
        · skip
          try simp (disch := omega) only [↓i_in, ↓i_isCouple, ↓i_isBridge, ↓i_isTheme, ↓i_isBarge, i_lt, i_le, i_eq, i_clamp, i_upd, i_m1, Int32.toInt_toInt64, Int32.toInt_add, Int32.toInt_sub, Int32.toInt_mul, bm32, Int32.reduceToInt, Int64.reduceToInt, Nat.reduceLT, Nat.reduceEqDiff, reduceIte, w_1m0_2, w_1m0_3, w_1m0_4, w_1m0_5, w_1m0_6, w_1m0_14, w_1m0_42] at c_8
          refine ⟨vp_in_iff.mpr (by first | omega | (simp (disch := omega) only [↓i_in, ↓i_isCouple, ↓i_isBridge, ↓i_isTheme, ↓i_isBarge, i_lt, i_le, i_eq, i_clamp, i_upd, i_m1, Int32.toInt_toInt64, Int32.toInt_add, Int32.toInt_sub, Int32.toInt_mul, bm32, Int32.reduceToInt, Int64.reduceToInt, Nat.reduceLT, Nat.reduceEqDiff, reduceIte, w_1m0_2, w_1m0_3, w_1m0_4, w_1m0_5, w_1m0_6, w_1m0_14, w_1m0_42] <;> omega)), ?_⟩
          exact ih (w_1l4 + 1) 0 w_1m0 (upd w_1m1 (((h_ + 27) + v_) : Int32).toNatClampNeg w_1l4) (⟨i_1, (WI_upd i_2 (by first | (refine OKv.out ?_; (first | omega | (simp (disch := omega) only [↓i_in, ↓i_isCouple, ↓i_isBridge, ↓i_isTheme, ↓i_isBarge, i_lt, i_le, i_eq, i_clamp, i_upd, i_m1, Int32.toInt_toInt64, Int32.toInt_add, Int32.toInt_sub, Int32.toInt_mul, bm32, Int32.reduceToInt, Int64.reduceToInt, Nat.reduceLT, Nat.reduceEqDiff, reduceIte, w_1m0_2, w_1m0_3, w_1m0_4, w_1m0_5, w_1m0_6, w_1m0_14, w_1m0_42] <;> omega))) | (refine OKv.mk ?_; (first | omega | (simp (disch := omega) only [↓i_in, ↓i_isCouple, ↓i_isBridge, ↓i_isTheme, ↓i_isBarge, i_lt, i_le, i_eq, i_clamp, i_upd, i_m1, Int32.toInt_toInt64, Int32.toInt_add, Int32.toInt_sub, Int32.toInt_mul, bm32, Int32.reduceToInt, Int64.reduceToInt, Nat.reduceLT, Nat.reduceEqDiff, reduceIte, w_1m0_2, w_1m0_3, w_1m0_4, w_1m0_5, w_1m0_6, w_1m0_14, w_1m0_42] <;> omega))))), (by first | omega | (simp (disch := omega) only [↓i_in, ↓i_isCouple, ↓i_isBridge, ↓i_isTheme, ↓i_isBarge, i_lt, i_le, i_eq, i_clamp, i_upd, i_m1, Int32.toInt_toInt64, Int32.toInt_add, Int32.toInt_sub, Int32.toInt_mul, bm32, Int32.reduceToInt, Int64.reduceToInt, Nat.reduceLT, Nat.reduceEqDiff, reduceIte, w_1m0_2, w_1m0_3, w_1m0_4, w_1m0_5, w_1m0_6, w_1m0_14, w_1m0_42] <;> omega)), (by first | omega | (simp (disch := omega) only [↓i_in, ↓i_isCouple, ↓i_isBridge, ↓i_isTheme, ↓i_isBarge, i_lt, i_le, i_eq, i_clamp, i_upd, i_m1, Int32.toInt_toInt64, Int32.toInt_add, Int32.toInt_sub, Int32.toInt_mul, bm32, Int32.reduceToInt, Int64.reduceToInt, Nat.reduceLT, Nat.reduceEqDiff, reduceIte, w_1m0_2, w_1m0_3, w_1m0_4, w_1m0_5, w_1m0_6, w_1m0_14, w_1m0_42] <;> omega))⟩) (by first | omega | (simp (disch := omega) only [↓i_in, ↓i_isCouple, ↓i_isBridge, ↓i_isTheme, ↓i_isBarge, i_lt, i_le, i_eq, i_clamp, i_upd, i_m1, Int32.toInt_toInt64, Int32.toInt_add, Int32.toInt_sub, Int32.toInt_mul, bm32, Int32.reduceToInt, Int64.reduceToInt, Nat.reduceLT, Nat.reduceEqDiff, reduceIte, w_1m0_2, w_1m0_3, w_1m0_4, w_1m0_5, w_1m0_6, w_1m0_14, w_1m0_42] <;> omega))
        · skip
          try simp (disch := omega) only [↓i_in, ↓i_isCouple, ↓i_isBridge, ↓i_isTheme, ↓i_isBarge, i_lt, i_le, i_eq, i_clamp, i_upd, i_m1, Int32.toInt_toInt64, Int32.toInt_add, Int32.toInt_sub, Int32.toInt_mul, bm32, Int32.reduceToInt, Int64.reduceToInt, Nat.reduceLT, Nat.reduceEqDiff, reduceIte, w_1m0_2, w_1m0_3, w_1m0_4, w_1m0_5, w_1m0_6, w_1m0_14, w_1m0_42] at c_8
          refine ⟨vp_in_iff.mpr (by first | omega | (simp (disch := omega) only [↓i_in, ↓i_isCouple, ↓i_isBridge, ↓i_isTheme, ↓i_isBarge, i_lt, i_le, i_eq, i_clamp, i_upd, i_m1, Int32.toInt_toInt64, Int32.toInt_add, Int32.toInt_sub, Int32.toInt_mul, bm32, Int32.reduceToInt, Int64.reduceToInt, Nat.reduceLT, Nat.reduceEqDiff, reduceIte, w_1m0_2, w_1m0_3, w_1m0_4, w_1m0_5, w_1m0_6, w_1m0_14, w_1m0_42] <;> omega)), ?_⟩
          refine ⟨vp_in_iff.mpr (by first | omega | (simp (disch := omega) only [↓i_in, ↓i_isCouple, ↓i_isBridge, ↓i_isTheme, ↓i_isBarge, i_lt, i_le, i_eq, i_clamp, i_upd, i_m1, Int32.toInt_toInt64, Int32.toInt_add, Int32.toInt_sub, Int32.toInt_mul, bm32, Int32.reduceToInt, Int64.reduceToInt, Nat.reduceLT, Nat.reduceEqDiff, reduceIte, w_1m0_2, w_1m0_3, w_1m0_4, w_1m0_5, w_1m0_6, w_1m0_14, w_1m0_42] <;> omega)), ?_⟩
          refine ⟨vp_in_iff.mpr (by first | omega | (simp (disch := omega) only [↓i_in, ↓i_isCouple, ↓i_isBridge, ↓i_isTheme, ↓i_isBarge, i_lt, i_le, i_eq, i_clamp, i_upd, i_m1, Int32.toInt_toInt64, Int32.toInt_add, Int32.toInt_sub, Int32.toInt_mul, bm32, Int32.reduceToInt, Int64.reduceToInt, Nat.reduceLT, Nat.reduceEqDiff, reduceIte, w_1m0_2, w_1m0_3, w_1m0_4, w_1m0_5, w_1m0_6, w_1m0_14, w_1m0_42] <;> omega)), ?_⟩
          have th_9 := (i_2 (((h_ + 12) + (f_m_whoIsAt w_1m0 w_1m1 h_ w_1l4)) : Int32).toNatClampNeg).1 (by first | omega | (simp (disch := omega) only [↓i_in, ↓i_isCouple, ↓i_isBridge, ↓i_isTheme, ↓i_isBarge, i_lt, i_le, i_eq, i_clamp, i_upd, i_m1, Int32.toInt_toInt64, Int32.toInt_add, Int32.toInt_sub, Int32.toInt_mul, bm32, Int32.reduceToInt, Int64.reduceToInt, Nat.reduceLT, Nat.reduceEqDiff, reduceIte, w_1m0_2, w_1m0_3, w_1m0_4, w_1m0_5, w_1m0_6, w_1m0_14, w_1m0_42] <;> omega))
          try simp (disch := omega) only [↓i_in, ↓i_isCouple, ↓i_isBridge, ↓i_isTheme, ↓i_isBarge, i_lt, i_le, i_eq, i_clamp, i_upd, i_m1, Int32.toInt_toInt64, Int32.toInt_add, Int32.toInt_sub, Int32.toInt_mul, bm32, Int32.reduceToInt, Int64.reduceToInt, Nat.reduceLT, Nat.reduceEqDiff, reduceIte, w_1m0_2, w_1m0_3, w_1m0_4, w_1m0_5, w_1m0_6, w_1m0_14, w_1m0_42] at th_9
          refine ⟨(s_quarrels (by first | omega | (simp (disch := omega) only [↓i_in, ↓i_isCouple, ↓i_isBridge, ↓i_isTheme, ↓i_isBarge, i_lt, i_le, i_eq, i_clamp, i_upd, i_m1, Int32.toInt_toInt64, Int32.toInt_add, Int32.toInt_sub, Int32.toInt_mul, bm32, Int32.reduceToInt, Int64.reduceToInt, Nat.reduceLT, Nat.reduceEqDiff, reduceIte, w_1m0_2, w_1m0_3, w_1m0_4, w_1m0_5, w_1m0_6, w_1m0_14, w_1m0_42] <;> omega)) (by first | omega | (simp (disch := omega) only [↓i_in, ↓i_isCouple, ↓i_isBridge, ↓i_isTheme, ↓i_isBarge, i_lt, i_le, i_eq, i_clamp, i_upd, i_m1, Int32.toInt_toInt64, Int32.toInt_add, Int32.toInt_sub, Int32.toInt_mul, bm32, Int32.reduceToInt, Int64.reduceToInt, Nat.reduceLT, Nat.reduceEqDiff, reduceIte, w_1m0_2, w_1m0_3, w_1m0_4, w_1m0_5, w_1m0_6, w_1m0_14, w_1m0_42] <;> omega)) (by first | omega | (simp (disch := omega) only [↓i_in, ↓i_isCouple, ↓i_isBridge, ↓i_isTheme, ↓i_isBarge, i_lt, i_le, i_eq, i_clamp, i_upd, i_m1, Int32.toInt_toInt64, Int32.toInt_add, Int32.toInt_sub, Int32.toInt_mul, bm32, Int32.reduceToInt, Int64.reduceToInt, Nat.reduceLT, Nat.reduceEqDiff, reduceIte, w_1m0_2, w_1m0_3, w_1m0_4, w_1m0_5, w_1m0_6, w_1m0_14, w_1m0_42] <;> omega)) (by first | omega | (simp (disch := omega) only [↓i_in, ↓i_isCouple, ↓i_isBridge, ↓i_isTheme, ↓i_isBarge, i_lt, i_le, i_eq, i_clamp, i_upd, i_m1, Int32.toInt_toInt64, Int32.toInt_add, Int32.toInt_sub, Int32.toInt_mul, bm32, Int32.reduceToInt, Int64.reduceToInt, Nat.reduceLT, Nat.reduceEqDiff, reduceIte, w_1m0_2, w_1m0_3, w_1m0_4, w_1m0_5, w_1m0_6, w_1m0_14, w_1m0_42] <;> omega))), ?_⟩
          refine ⟨vp_in_iff.mpr (by first | omega | (simp (disch := omega) only [↓i_in, ↓i_isCouple, ↓i_isBridge, ↓i_isTheme, ↓i_isBarge, i_lt, i_le, i_eq, i_clamp, i_upd, i_m1, Int32.toInt_toInt64, Int32.toInt_add, Int32.toInt_sub, Int32.toInt_mul, bm32, Int32.reduceToInt, Int64.reduceToInt, Nat.reduceLT, Nat.reduceEqDiff, reduceIte, w_1m0_2, w_1m0_3, w_1m0_4, w_1m0_5, w_1m0_6, w_1m0_14, w_1m0_42] <;> omega)), ?_⟩
          refine ⟨vp_in_iff.mpr (by first | omega | (simp (disch := omega) only [↓i_in, ↓i_isCouple, ↓i_isBridge, ↓i_isTheme, ↓i_isBarge, i_lt, i_le, i_eq, i_clamp, i_upd, i_m1, Int32.toInt_toInt64, Int32.toInt_add, Int32.toInt_sub, Int32.toInt_mul, bm32, Int32.reduceToInt, Int64.reduceToInt, Nat.reduceLT, Nat.reduceEqDiff, reduceIte, w_1m0_2, w_1m0_3, w_1m0_4, w_1m0_5, w_1m0_6, w_1m0_14, w_1m0_42] <;> omega)), ?_⟩
          refine ⟨vp_in_iff.mpr (by first | omega | (simp (disch := omega) only [↓i_in, ↓i_isCouple, ↓i_isBridge, ↓i_isTheme, ↓i_isBarge, i_lt, i_le, i_eq, i_clamp, i_upd, i_m1, Int32.toInt_toInt64, Int32.toInt_add, Int32.toInt_sub, Int32.toInt_mul, bm32, Int32.reduceToInt, Int64.reduceToInt, Nat.reduceLT, Nat.reduceEqDiff, reduceIte, w_1m0_2, w_1m0_3, w_1m0_4, w_1m0_5, w_1m0_6, w_1m0_14, w_1m0_42] <;> omega)), ?_⟩
          refine ⟨fun c_10 => ?_, fun c_10 => ?_⟩
          · skip
            try simp (disch := omega) only [↓i_in, ↓i_isCouple, ↓i_isBridge, ↓i_isTheme, ↓i_isBarge, i_lt, i_le, i_eq, i_clamp, i_upd, i_m1, Int32.toInt_toInt64, Int32.toInt_add, Int32.toInt_sub, Int32.toInt_mul, bm32, Int32.reduceToInt, Int64.reduceToInt, Nat.reduceLT, Nat.reduceEqDiff, reduceIte, w_1m0_2, w_1m0_3, w_1m0_4, w_1m0_5, w_1m0_6, w_1m0_14, w_1m0_42] at c_10
            refine ⟨fun c_11 => ?_, fun c_11 => ?_⟩
            · skip
              try simp (disch := omega) only [↓i_in, ↓i_isCouple, ↓i_isBridge, ↓i_isTheme, ↓i_isBarge, i_lt, i_le, i_eq, i_clamp, i_upd, i_m1, Int32.toInt_toInt64, Int32.toInt_add, Int32.toInt_sub, Int32.toInt_mul, bm32, Int32.reduceToInt, Int64.reduceToInt, Nat.reduceLT, Nat.reduceEqDiff, reduceIte, w_1m0_2, w_1m0_3, w_1m0_4, w_1m0_5, w_1m0_6, w_1m0_14, w_1m0_42] at c_11
              refine ⟨fun c_12 => ?_, fun c_12 => ?_⟩
              · skip
                try simp (disch := omega) only [↓i_in, ↓i_isCouple, ↓i_isBridge, ↓i_isTheme, ↓i_isBarge, i_lt, i_le, i_eq, i_clamp, i_upd, i_m1, Int32.toInt_toInt64, Int32.toInt_add, Int32.toInt_sub, Int32.toInt_mul, bm32, Int32.reduceToInt, Int64.reduceToInt, Nat.reduceLT, Nat.reduceEqDiff, reduceIte, w_1m0_2, w_1m0_3, w_1m0_4, w_1m0_5, w_1m0_6, w_1m0_14, w_1m0_42] at c_12
                refine ⟨vp_in_iff.mpr (by first | omega | (simp (disch := omega) only [↓i_in, ↓i_isCouple, ↓i_isBridge, ↓i_isTheme, ↓i_isBarge, i_lt, i_le, i_eq, i_clamp, i_upd, i_m1, Int32.toInt_toInt64, Int32.toInt_add, Int32.toInt_sub, Int32.toInt_mul, bm32, Int32.reduceToInt, Int64.reduceToInt, Nat.reduceLT, Nat.reduceEqDiff, reduceIte, w_1m0_2, w_1m0_3, w_1m0_4, w_1m0_5, w_1m0_6, w_1m0_14, w_1m0_42] <;> omega)), ?_⟩
                exact ih (w_1l4 + 1) ((f_m_quarrels w_1m0 f10 (f_m_whoIsAt w_1m0 w_1m1 h_ w_1l4) (w_1m1 (((h_ + 12) + (f_m_whoIsAt w_1m0 w_1m1 h_ w_1l4)) : Int32).toNatClampNeg) (w_1m1 (((h_ + 0) + (f_m_whoIsAt w_1m0 w_1m1 h_ w_1l4)) : Int32).toNatClampNeg) (f8 (w_1l4 : Int32).toNatClampNeg)) 34) (f_m_quarrels w_1m0 f10 (f_m_whoIsAt w_1m0 w_1m1 h_ w_1l4) (w_1m1 (((h_ + 12) + (f_m_whoIsAt w_1m0 w_1m1 h_ w_1l4)) : Int32).toNatClampNeg) (w_1m1 (((h_ + 0) + (f_m_whoIsAt w_1m0 w_1m1 h_ w_1l4)) : Int32).toNatClampNeg) (f8 (w_1l4 : Int32).toNatClampNeg)) (upd (upd (upd w_1m1 ((h_ + 19) : Int32).toNatClampNeg ((w_1m1 ((h_ + 19) : Int32).toNatClampNeg) + ((f_m_quarrels w_1m0 f10 (f_m_whoIsAt w_1m0 w_1m1 h_ w_1l4) (w_1m1 (((h_ + 12) + (f_m_whoIsAt w_1m0 w_1m1 h_ w_1l4)) : Int32).toNatClampNeg) (w_1m1 (((h_ + 0) + (f_m_whoIsAt w_1m0 w_1m1 h_ w_1l4)) : Int32).toNatClampNeg) (f8 (w_1l4 : Int32).toNatClampNeg)) 32))) (((h_ + 0) + (f_m_whoIsAt w_1m0 w_1m1 h_ w_1l4)) : Int32).toNatClampNeg ((f_m_quarrels w_1m0 f10 (f_m_whoIsAt w_1m0 w_1m1 h_ w_1l4) (w_1m1 (((h_ + 12) + (f_m_whoIsAt w_1m0 w_1m1 h_ w_1l4)) : Int32).toNatClampNeg) (w_1m1 (((h_ + 0) + (f_m_whoIsAt w_1m0 w_1m1 h_ w_1l4)) : Int32).toNatClampNeg) (f8 (w_1l4 : Int32).toNatClampNeg)) 33)) (((h_ + 27) + v_) : Int32).toNatClampNeg w_1l4) (⟨(QG.trans i_1 p_quarrels), (WI_upd (WI_upd (WI_upd i_2 (by first | (refine OKv.out ?_; (first | omega | (simp (disch := omega) only [↓i_in, ↓i_isCouple, ↓i_isBridge, ↓i_isTheme, ↓i_isBarge, i_lt, i_le, i_eq, i_clamp, i_upd, i_m1, Int32.toInt_toInt64, Int32.toInt_add, Int32.toInt_sub, Int32.toInt_mul, bm32, Int32.reduceToInt, Int64.reduceToInt, Nat.reduceLT, Nat.reduceEqDiff, reduceIte, w_1m0_2, w_1m0_3, w_1m0_4, w_1m0_5, w_1m0_6, w_1m0_14, w_1m0_42] <;> omega))) | (refine OKv.mk ?_; (first | omega | (simp (disch := omega) only [↓i_in, ↓i_isCouple, ↓i_isBridge, ↓i_isTheme, ↓i_isBarge, i_lt, i_le, i_eq, i_clamp, i_upd, i_m1, Int32.toInt_toInt64, Int32.toInt_add, Int32.toInt_sub, Int32.toInt_mul, bm32, Int32.reduceToInt, Int64.reduceToInt, Nat.reduceLT, Nat.reduceEqDiff, reduceIte, w_1m0_2, w_1m0_3, w_1m0_4, w_1m0_5, w_1m0_6, w_1m0_14, w_1m0_42] <;> omega))))) (by first | (refine OKv.out ?_; (first | omega | (simp (disch := omega) only [↓i_in, ↓i_isCouple, ↓i_isBridge, ↓i_isTheme, ↓i_isBarge, i_lt, i_le, i_eq, i_clamp, i_upd, i_m1, Int32.toInt_toInt64, Int32.toInt_add, Int32.toInt_sub, Int32.toInt_mul, bm32, Int32.reduceToInt, Int64.reduceToInt, Nat.reduceLT, Nat.reduceEqDiff, reduceIte, w_1m0_2, w_1m0_3, w_1m0_4, w_1m0_5, w_1m0_6, w_1m0_14, w_1m0_42] <;> omega))) | (refine OKv.mk ?_; (first | omega | (simp (disch := omega) only [↓i_in, ↓i_isCouple, ↓i_isBridge, ↓i_isTheme, ↓i_isBarge, i_lt, i_le, i_eq, i_clamp, i_upd, i_m1, Int32.toInt_toInt64, Int32.toInt_add, Int32.toInt_sub, Int32.toInt_mul, bm32, Int32.reduceToInt, Int64.reduceToInt, Nat.reduceLT, Nat.reduceEqDiff, reduceIte, w_1m0_2, w_1m0_3, w_1m0_4, w_1m0_5, w_1m0_6, w_1m0_14, w_1m0_42] <;> omega))))) (by first | (refine OKv.out ?_; (first | omega | (simp (disch := omega) only [↓i_in, ↓i_isCouple, ↓i_isBridge, ↓i_isTheme, ↓i_isBarge, i_lt, i_le, i_eq, i_clamp, i_upd, i_m1, Int32.toInt_toInt64, Int32.toInt_add, Int32.toInt_sub, Int32.toInt_mul, bm32, Int32.reduceToInt, Int64.reduceToInt, Nat.reduceLT, Nat.reduceEqDiff, reduceIte, w_1m0_2, w_1m0_3, w_1m0_4, w_1m0_5, w_1m0_6, w_1m0_14, w_1m0_42] <;> omega))) | (refine OKv.mk ?_; (first | omega | (simp (disch := omega) only [↓i_in, ↓i_isCouple, ↓i_isBridge, ↓i_isTheme, ↓i_isBarge, i_lt, i_le, i_eq, i_clamp, i_upd, i_m1, Int32.toInt_toInt64, Int32.toInt_add, Int32.toInt_sub, Int32.toInt_mul, bm32, Int32.reduceToInt, Int64.reduceToInt, Nat.reduceLT, Nat.reduceEqDiff, reduceIte, w_1m0_2, w_1m0_3, w_1m0_4, w_1m0_5, w_1m0_6, w_1m0_14, w_1m0_42] <;> omega))))), (by first | omega | (simp (disch := omega) only [↓i_in, ↓i_isCouple, ↓i_isBridge, ↓i_isTheme, ↓i_isBarge, i_lt, i_le, i_eq, i_clamp, i_upd, i_m1, Int32.toInt_toInt64, Int32.toInt_add, Int32.toInt_sub, Int32.toInt_mul, bm32, Int32.reduceToInt, Int64.reduceToInt, Nat.reduceLT, Nat.reduceEqDiff, reduceIte, w_1m0_2, w_1m0_3, w_1m0_4, w_1m0_5, w_1m0_6, w_1m0_14, w_1m0_42] <;> omega)), (by first | omega | (simp (disch := omega) only [↓i_in, ↓i_isCouple, ↓i_isBridge, ↓i_isTheme, ↓i_isBarge, i_lt, i_le, i_eq, i_clamp, i_upd, i_m1, Int32.toInt_toInt64, Int32.toInt_add, Int32.toInt_sub, Int32.toInt_mul, bm32, Int32.reduceToInt, Int64.reduceToInt, Nat.reduceLT, Nat.reduceEqDiff, reduceIte, w_1m0_2, w_1m0_3, w_1m0_4, w_1m0_5, w_1m0_6, w_1m0_14, w_1m0_42] <;> omega))⟩) (by first | omega | (simp (disch := omega) only [↓i_in, ↓i_isCouple, ↓i_isBridge, ↓i_isTheme, ↓i_isBarge, i_lt, i_le, i_eq, i_clamp, i_upd, i_m1, Int32.toInt_toInt64, Int32.toInt_add, Int32.toInt_sub, Int32.toInt_mul, bm32, Int32.reduceToInt, Int64.reduceToInt, Nat.reduceLT, Nat.reduceEqDiff, reduceIte, w_1m0_2, w_1m0_3, w_1m0_4, w_1m0_5, w_1m0_6, w_1m0_14, w_1m0_42] <;> omega))
              · skip
                try simp (disch := omega) only [↓i_in, ↓i_isCouple, ↓i_isBridge, ↓i_isTheme, ↓i_isBarge, i_lt, i_le, i_eq, i_clamp, i_upd, i_m1, Int32.toInt_toInt64, Int32.toInt_add, Int32.toInt_sub, Int32.toInt_mul, bm32, Int32.reduceToInt, Int64.reduceToInt, Nat.reduceLT, Nat.reduceEqDiff, reduceIte, w_1m0_2, w_1m0_3, w_1m0_4, w_1m0_5, w_1m0_6, w_1m0_14, w_1m0_42] at c_12
                refine ⟨vp_in_iff.mpr (by first | omega | (simp (disch := omega) only [↓i_in, ↓i_isCouple, ↓i_isBridge, ↓i_isTheme, ↓i_isBarge, i_lt, i_le, i_eq, i_clamp, i_upd, i_m1, Int32.toInt_toInt64, Int32.toInt_add, Int32.toInt_sub, Int32.toInt_mul, bm32, Int32.reduceToInt, Int64.reduceToInt, Nat.reduceLT, Nat.reduceEqDiff, reduceIte, w_1m0_2, w_1m0_3, w_1m0_4, w_1m0_5, w_1m0_6, w_1m0_14, w_1m0_42] <;> omega)), ?_⟩
                exact ih (w_1l4 + 1) ((f_m_quarrels w_1m0 f10 (f_m_whoIsAt w_1m0 w_1m1 h_ w_1l4) (w_1m1 (((h_ + 12) + (f_m_whoIsAt w_1m0 w_1m1 h_ w_1l4)) : Int32).toNatClampNeg) (w_1m1 (((h_ + 0) + (f_m_whoIsAt w_1m0 w_1m1 h_ w_1l4)) : Int32).toNatClampNeg) (f8 (w_1l4 : Int32).toNatClampNeg)) 34) (f_m_quarrels w_1m0 f10 (f_m_whoIsAt w_1m0 w_1m1 h_ w_1l4) (w_1m1 (((h_ + 12) + (f_m_whoIsAt w_1m0 w_1m1 h_ w_1l4)) : Int32).toNatClampNeg) (w_1m1 (((h_ + 0) + (f_m_whoIsAt w_1m0 w_1m1 h_ w_1l4)) : Int32).toNatClampNeg) (f8 (w_1l4 : Int32).toNatClampNeg)) (upd (upd (upd w_1m1 ((h_ + 19) : Int32).toNatClampNeg ((w_1m1 ((h_ + 19) : Int32).toNatClampNeg) + ((f_m_quarrels w_1m0 f10 (f_m_whoIsAt w_1m0 w_1m1 h_ w_1l4) (w_1m1 (((h_ + 12) + (f_m_whoIsAt w_1m0 w_1m1 h_ w_1l4)) : Int32).toNatClampNeg) (w_1m1 (((h_ + 0) + (f_m_whoIsAt w_1m0 w_1m1 h_ w_1l4)) : Int32).toNatClampNeg) (f8 (w_1l4 : Int32).toNatClampNeg)) 32))) (((h_ + 0) + (f_m_whoIsAt w_1m0 w_1m1 h_ w_1l4)) : Int32).toNatClampNeg ((f_m_quarrels w_1m0 f10 (f_m_whoIsAt w_1m0 w_1m1 h_ w_1l4) (w_1m1 (((h_ + 12) + (f_m_whoIsAt w_1m0 w_1m1 h_ w_1l4)) : Int32).toNatClampNeg) (w_1m1 (((h_ + 0) + (f_m_whoIsAt w_1m0 w_1m1 h_ w_1l4)) : Int32).toNatClampNeg) (f8 (w_1l4 : Int32).toNatClampNeg)) 33)) (((h_ + 27) + v_) : Int32).toNatClampNeg (-1)) (⟨(QG.trans i_1 p_quarrels), (WI_upd (WI_upd (WI_upd i_2 (by first | (refine OKv.out ?_; (first | omega | (simp (disch := omega) only [↓i_in, ↓i_isCouple, ↓i_isBridge, ↓i_isTheme, ↓i_isBarge, i_lt, i_le, i_eq, i_clamp, i_upd, i_m1, Int32.toInt_toInt64, Int32.toInt_add, Int32.toInt_sub, Int32.toInt_mul, bm32, Int32.reduceToInt, Int64.reduceToInt, Nat.reduceLT, Nat.reduceEqDiff, reduceIte, w_1m0_2, w_1m0_3, w_1m0_4, w_1m0_5, w_1m0_6, w_1m0_14, w_1m0_42] <;> omega))) | (refine OKv.mk ?_; (first | omega | (simp (disch := omega) only [↓i_in, ↓i_isCouple, ↓i_isBridge, ↓i_isTheme, ↓i_isBarge, i_lt, i_le, i_eq, i_clamp, i_upd, i_m1, Int32.toInt_toInt64, Int32.toInt_add, Int32.toInt_sub, Int32.toInt_mul, bm32, Int32.reduceToInt, Int64.reduceToInt, Nat.reduceLT, Nat.reduceEqDiff, reduceIte, w_1m0_2, w_1m0_3, w_1m0_4, w_1m0_5, w_1m0_6, w_1m0_14, w_1m0_42] <;> omega))))) (by first | (refine OKv.out ?_; (first | omega | (simp (disch := omega) only [↓i_in, ↓i_isCouple, ↓i_isBridge, ↓i_isTheme, ↓i_isBarge, i_lt, i_le, i_eq, i_clamp, i_upd, i_m1, Int32.toInt_toInt64, Int32.toInt_add, Int32.toInt_sub, Int32.toInt_mul, bm32, Int32.reduceToInt, Int64.reduceToInt, Nat.reduceLT, Nat.reduceEqDiff, reduceIte, w_1m0_2, w_1m0_3, w_1m0_4, w_1m0_5, w_1m0_6, w_1m0_14, w_1m0_42] <;> omega))) | (refine OKv.mk ?_; (first | omega | (simp (disch := omega) only [↓i_in, ↓i_isCouple, ↓i_isBridge, ↓i_isTheme, ↓i_isBarge, i_lt, i_le, i_eq, i_clamp, i_upd, i_m1, Int32.toInt_toInt64, Int32.toInt_add, Int32.toInt_sub, Int32.toInt_mul, bm32, Int32.reduceToInt, Int64.reduceToInt, Nat.reduceLT, Nat.reduceEqDiff, reduceIte, w_1m0_2, w_1m0_3, w_1m0_4, w_1m0_5, w_1m0_6, w_1m0_14, w_1m0_42] <;> omega))))) (by first | (refine OKv.out ?_; (first | omega | (simp (disch := omega) only [↓i_in, ↓i_isCouple, ↓i_isBridge, ↓i_isTheme, ↓i_isBarge, i_lt, i_le, i_eq, i_clamp, i_upd, i_m1, Int32.toInt_toInt64, Int32.toInt_add, Int32.toInt_sub, Int32.toInt_mul, bm32, Int32.reduceToInt, Int64.reduceToInt, Nat.reduceLT, Nat.reduceEqDiff, reduceIte, w_1m0_2, w_1m0_3, w_1m0_4, w_1m0_5, w_1m0_6, w_1m0_14, w_1m0_42] <;> omega))) | (refine OKv.mk ?_; (first | omega | (simp (disch := omega) only [↓i_in, ↓i_isCouple, ↓i_isBridge, ↓i_isTheme, ↓i_isBarge, i_lt, i_le, i_eq, i_clamp, i_upd, i_m1, Int32.toInt_toInt64, Int32.toInt_add, Int32.toInt_sub, Int32.toInt_mul, bm32, Int32.reduceToInt, Int64.reduceToInt, Nat.reduceLT, Nat.reduceEqDiff, reduceIte, w_1m0_2, w_1m0_3, w_1m0_4, w_1m0_5, w_1m0_6, w_1m0_14, w_1m0_42] <;> omega))))), (by first | omega | (simp (disch := omega) only [↓i_in, ↓i_isCouple, ↓i_isBridge, ↓i_isTheme, ↓i_isBarge, i_lt, i_le, i_eq, i_clamp, i_upd, i_m1, Int32.toInt_toInt64, Int32.toInt_add, Int32.toInt_sub, Int32.toInt_mul, bm32, Int32.reduceToInt, Int64.reduceToInt, Nat.reduceLT, Nat.reduceEqDiff, reduceIte, w_1m0_2, w_1m0_3, w_1m0_4, w_1m0_5, w_1m0_6, w_1m0_14, w_1m0_42] <;> omega)), (by first | omega | (simp (disch := omega) only [↓i_in, ↓i_isCouple, ↓i_isBridge, ↓i_isTheme, ↓i_isBarge, i_lt, i_le, i_eq, i_clamp, i_upd, i_m1, Int32.toInt_toInt64, Int32.toInt_add, Int32.toInt_sub, Int32.toInt_mul, bm32, Int32.reduceToInt, Int64.reduceToInt, Nat.reduceLT, Nat.reduceEqDiff, reduceIte, w_1m0_2, w_1m0_3, w_1m0_4, w_1m0_5, w_1m0_6, w_1m0_14, w_1m0_42] <;> omega))⟩) (by first | omega | (simp (disch := omega) only [↓i_in, ↓i_isCouple, ↓i_isBridge, ↓i_isTheme, ↓i_isBarge, i_lt, i_le, i_eq, i_clamp, i_upd, i_m1, Int32.toInt_toInt64, Int32.toInt_add, Int32.toInt_sub, Int32.toInt_mul, bm32, Int32.reduceToInt, Int64.reduceToInt, Nat.reduceLT, Nat.reduceEqDiff, reduceIte, w_1m0_2, w_1m0_3, w_1m0_4, w_1m0_5, w_1m0_6, w_1m0_14, w_1m0_42] <;> omega))
            · skip
              try simp (disch := omega) only [↓i_in, ↓i_isCouple, ↓i_isBridge, ↓i_isTheme, ↓i_isBarge, i_lt, i_le, i_eq, i_clamp, i_upd, i_m1, Int32.toInt_toInt64, Int32.toInt_add, Int32.toInt_sub, Int32.toInt_mul, bm32, Int32.reduceToInt, Int64.reduceToInt, Nat.reduceLT, Nat.reduceEqDiff, reduceIte, w_1m0_2, w_1m0_3, w_1m0_4, w_1m0_5, w_1m0_6, w_1m0_14, w_1m0_42] at c_11
              refine ⟨vp_in_iff.mpr (by first | omega | (simp (disch := omega) only [↓i_in, ↓i_isCouple, ↓i_isBridge, ↓i_isTheme, ↓i_isBarge, i_lt, i_le, i_eq, i_clamp, i_upd, i_m1, Int32.toInt_toInt64, Int32.toInt_add, Int32.toInt_sub, Int32.toInt_mul, bm32, Int32.reduceToInt, Int64.reduceToInt, Nat.reduceLT, Nat.reduceEqDiff, reduceIte, w_1m0_2, w_1m0_3, w_1m0_4, w_1m0_5, w_1m0_6, w_1m0_14, w_1m0_42] <;> omega)), ?_⟩
              refine ⟨vp_in_iff.mpr (by first | omega | (simp (disch := omega) only [↓i_in, ↓i_isCouple, ↓i_isBridge, ↓i_isTheme, ↓i_isBarge, i_lt, i_le, i_eq, i_clamp, i_upd, i_m1, Int32.toInt_toInt64, Int32.toInt_add, Int32.toInt_sub, Int32.toInt_mul, bm32, Int32.reduceToInt, Int64.reduceToInt, Nat.reduceLT, Nat.reduceEqDiff, reduceIte, w_1m0_2, w_1m0_3, w_1m0_4, w_1m0_5, w_1m0_6, w_1m0_14, w_1m0_42] <;> omega)), ?_⟩
              refine ⟨vp_in_iff.mpr (by first | omega | (simp (disch := omega) only [↓i_in, ↓i_isCouple, ↓i_isBridge, ↓i_isTheme, ↓i_isBarge, i_lt, i_le, i_eq, i_clamp, i_upd, i_m1, Int32.toInt_toInt64, Int32.toInt_add, Int32.toInt_sub, Int32.toInt_mul, bm32, Int32.reduceToInt, Int64.reduceToInt, Nat.reduceLT, Nat.reduceEqDiff, reduceIte, w_1m0_2, w_1m0_3, w_1m0_4, w_1m0_5, w_1m0_6, w_1m0_14, w_1m0_42] <;> omega)), ?_⟩
              refine ⟨fun c_13 => ?_, fun c_13 => ?_⟩
              · skip
                try simp (disch := omega) only [↓i_in, ↓i_isCouple, ↓i_isBridge, ↓i_isTheme, ↓i_isBarge, i_lt, i_le, i_eq, i_clamp, i_upd, i_m1, Int32.toInt_toInt64, Int32.toInt_add, Int32.toInt_sub, Int32.toInt_mul, bm32, Int32.reduceToInt, Int64.reduceToInt, Nat.reduceLT, Nat.reduceEqDiff, reduceIte, w_1m0_2, w_1m0_3, w_1m0_4, w_1m0_5, w_1m0_6, w_1m0_14, w_1m0_42] at c_13
                refine ⟨vp_in_iff.mpr (by first | omega | (simp (disch := omega) only [↓i_in, ↓i_isCouple, ↓i_isBridge, ↓i_isTheme, ↓i_isBarge, i_lt, i_le, i_eq, i_clamp, i_upd, i_m1, Int32.toInt_toInt64, Int32.toInt_add, Int32.toInt_sub, Int32.toInt_mul, bm32, Int32.reduceToInt, Int64.reduceToInt, Nat.reduceLT, Nat.reduceEqDiff, reduceIte, w_1m0_2, w_1m0_3, w_1m0_4, w_1m0_5, w_1m0_6, w_1m0_14, w_1m0_42] <;> omega)), ?_⟩
                exact ih (w_1l4 + 1) ((f_m_quarrels w_1m0 f10 (f_m_whoIsAt w_1m0 w_1m1 h_ w_1l4) (w_1m1 (((h_ + 12) + (f_m_whoIsAt w_1m0 w_1m1 h_ w_1l4)) : Int32).toNatClampNeg) (w_1m1 (((h_ + 0) + (f_m_whoIsAt w_1m0 w_1m1 h_ w_1l4)) : Int32).toNatClampNeg) (f8 (w_1l4 : Int32).toNatClampNeg)) 34) (f_m_quarrels w_1m0 f10 (f_m_whoIsAt w_1m0 w_1m1 h_ w_1l4) (w_1m1 (((h_ + 12) + (f_m_whoIsAt w_1m0 w_1m1 h_ w_1l4)) : Int32).toNatClampNeg) (w_1m1 (((h_ + 0) + (f_m_whoIsAt w_1m0 w_1m1 h_ w_1l4)) : Int32).toNatClampNeg) (f8 (w_1l4 : Int32).toNatClampNeg)) (upd (upd (upd (upd (upd w_1m1 ((h_ + 19) : Int32).toNatClampNeg ((w_1m1 ((h_ + 19) : Int32).toNatClampNeg) + ((f_m_quarrels w_1m0 f10 (f_m_whoIsAt w_1m0 w_1m1 h_ w_1l4) (w_1m1 (((h_ + 12) + (f_m_whoIsAt w_1m0 w_1m1 h_ w_1l4)) : Int32).toNatClampNeg) (w_1m1 (((h_ + 0) + (f_m_whoIsAt w_1m0 w_1m1 h_ w_1l4)) : Int32).toNatClampNeg) (f8 (w_1l4 : Int32).toNatClampNeg)) 32))) (((h_ + 0) + (f_m_whoIsAt w_1m0 w_1m1 h_ w_1l4)) : Int32).toNatClampNeg ((f_m_quarrels w_1m0 f10 (f_m_whoIsAt w_1m0 w_1m1 h_ w_1l4) (w_1m1 (((h_ + 12) + (f_m_whoIsAt w_1m0 w_1m1 h_ w_1l4)) : Int32).toNatClampNeg) (w_1m1 (((h_ + 0) + (f_m_whoIsAt w_1m0 w_1m1 h_ w_1l4)) : Int32).toNatClampNeg) (f8 (w_1l4 : Int32).toNatClampNeg)) 33)) ((h_ + 18) : Int32).toNatClampNeg (((upd (upd w_1m1 ((h_ + 19) : Int32).toNatClampNeg ((w_1m1 ((h_ + 19) : Int32).toNatClampNeg) + ((f_m_quarrels w_1m0 f10 (f_m_whoIsAt w_1m0 w_1m1 h_ w_1l4) (w_1m1 (((h_ + 12) + (f_m_whoIsAt w_1m0 w_1m1 h_ w_1l4)) : Int32).toNatClampNeg) (w_1m1 (((h_ + 0) + (f_m_whoIsAt w_1m0 w_1m1 h_ w_1l4)) : Int32).toNatClampNeg) (f8 (w_1l4 : Int32).toNatClampNeg)) 32))) (((h_ + 0) + (f_m_whoIsAt w_1m0 w_1m1 h_ w_1l4)) : Int32).toNatClampNeg ((f_m_quarrels w_1m0 f10 (f_m_whoIsAt w_1m0 w_1m1 h_ w_1l4) (w_1m1 (((h_ + 12) + (f_m_whoIsAt w_1m0 w_1m1 h_ w_1l4)) : Int32).toNatClampNeg) (w_1m1 (((h_ + 0) + (f_m_whoIsAt w_1m0 w_1m1 h_ w_1l4)) : Int32).toNatClampNeg) (f8 (w_1l4 : Int32).toNatClampNeg)) 33)) ((h_ + 18) : Int32).toNatClampNeg) ||| (1 <<< ((f_m_whoIsAt w_1m0 w_1m1 h_ w_1l4) &&& 31)))) (((h_ + 6) + (f_m_whoIsAt w_1m0 w_1m1 h_ w_1l4)) : Int32).toNatClampNeg (-1)) (((h_ + 27) + v_) : Int32).toNatClampNeg w_1l4) (⟨(QG.trans i_1 p_quarrels), (WI_upd (WI_upd (WI_upd (WI_upd (WI_upd i_2 (by first | (refine OKv.out ?_; (first | omega | (simp (disch := omega) only [↓i_in, ↓i_isCouple, ↓i_isBridge, ↓i_isTheme, ↓i_isBarge, i_lt, i_le, i_eq, i_clamp, i_upd, i_m1, Int32.toInt_toInt64, Int32.toInt_add, Int32.toInt_sub, Int32.toInt_mul, bm32, Int32.reduceToInt, Int64.reduceToInt, Nat.reduceLT, Nat.reduceEqDiff, reduceIte, w_1m0_2, w_1m0_3, w_1m0_4, w_1m0_5, w_1m0_6, w_1m0_14, w_1m0_42] <;> omega))) | (refine OKv.mk ?_; (first | omega | (simp (disch := omega) only [↓i_in, ↓i_isCouple, ↓i_isBridge, ↓i_isTheme, ↓i_isBarge, i_lt, i_le, i_eq, i_clamp, i_upd, i_m1, Int32.toInt_toInt64, Int32.toInt_add, Int32.toInt_sub, Int32.toInt_mul, bm32, Int32.reduceToInt, Int64.reduceToInt, Nat.reduceLT, Nat.reduceEqDiff, reduceIte, w_1m0_2, w_1m0_3, w_1m0_4, w_1m0_5, w_1m0_6, w_1m0_14, w_1m0_42] <;> omega))))) (by first | (refine OKv.out ?_; (first | omega | (simp (disch := omega) only [↓i_in, ↓i_isCouple, ↓i_isBridge, ↓i_isTheme, ↓i_isBarge, i_lt, i_le, i_eq, i_clamp, i_upd, i_m1, Int32.toInt_toInt64, Int32.toInt_add, Int32.toInt_sub, Int32.toInt_mul, bm32, Int32.reduceToInt, Int64.reduceToInt, Nat.reduceLT, Nat.reduceEqDiff, reduceIte, w_1m0_2, w_1m0_3, w_1m0_4, w_1m0_5, w_1m0_6, w_1m0_14, w_1m0_42] <;> omega))) | (refine OKv.mk ?_; (first | omega | (simp (disch := omega) only [↓i_in, ↓i_isCouple, ↓i_isBridge, ↓i_isTheme, ↓i_isBarge, i_lt, i_le, i_eq, i_clamp, i_upd, i_m1, Int32.toInt_toInt64, Int32.toInt_add, Int32.toInt_sub, Int32.toInt_mul, bm32, Int32.reduceToInt, Int64.reduceToInt, Nat.reduceLT, Nat.reduceEqDiff, reduceIte, w_1m0_2, w_1m0_3, w_1m0_4, w_1m0_5, w_1m0_6, w_1m0_14, w_1m0_42] <;> omega))))) (by first | (refine OKv.out ?_; (first | omega | (simp (disch := omega) only [↓i_in, ↓i_isCouple, ↓i_isBridge, ↓i_isTheme, ↓i_isBarge, i_lt, i_le, i_eq, i_clamp, i_upd, i_m1, Int32.toInt_toInt64, Int32.toInt_add, Int32.toInt_sub, Int32.toInt_mul, bm32, Int32.reduceToInt, Int64.reduceToInt, Nat.reduceLT, Nat.reduceEqDiff, reduceIte, w_1m0_2, w_1m0_3, w_1m0_4, w_1m0_5, w_1m0_6, w_1m0_14, w_1m0_42] <;> omega))) | (refine OKv.mk ?_; (first | omega | (simp (disch := omega) only [↓i_in, ↓i_isCouple, ↓i_isBridge, ↓i_isTheme, ↓i_isBarge, i_lt, i_le, i_eq, i_clamp, i_upd, i_m1, Int32.toInt_toInt64, Int32.toInt_add, Int32.toInt_sub, Int32.toInt_mul, bm32, Int32.reduceToInt, Int64.reduceToInt, Nat.reduceLT, Nat.reduceEqDiff, reduceIte, w_1m0_2, w_1m0_3, w_1m0_4, w_1m0_5, w_1m0_6, w_1m0_14, w_1m0_42] <;> omega))))) (by first | (refine OKv.out ?_; (first | omega | (simp (disch := omega) only [↓i_in, ↓i_isCouple, ↓i_isBridge, ↓i_isTheme, ↓i_isBarge, i_lt, i_le, i_eq, i_clamp, i_upd, i_m1, Int32.toInt_toInt64, Int32.toInt_add, Int32.toInt_sub, Int32.toInt_mul, bm32, Int32.reduceToInt, Int64.reduceToInt, Nat.reduceLT, Nat.reduceEqDiff, reduceIte, w_1m0_2, w_1m0_3, w_1m0_4, w_1m0_5, w_1m0_6, w_1m0_14, w_1m0_42] <;> omega))) | (refine OKv.mk ?_; (first | omega | (simp (disch := omega) only [↓i_in, ↓i_isCouple, ↓i_isBridge, ↓i_isTheme, ↓i_isBarge, i_lt, i_le, i_eq, i_clamp, i_upd, i_m1, Int32.toInt_toInt64, Int32.toInt_add, Int32.toInt_sub, Int32.toInt_mul, bm32, Int32.reduceToInt, Int64.reduceToInt, Nat.reduceLT, Nat.reduceEqDiff, reduceIte, w_1m0_2, w_1m0_3, w_1m0_4, w_1m0_5, w_1m0_6, w_1m0_14, w_1m0_42] <;> omega))))) (by first | (refine OKv.out ?_; (first | omega | (simp (disch := omega) only [↓i_in, ↓i_isCouple, ↓i_isBridge, ↓i_isTheme, ↓i_isBarge, i_lt, i_le, i_eq, i_clamp, i_upd, i_m1, Int32.toInt_toInt64, Int32.toInt_add, Int32.toInt_sub, Int32.toInt_mul, bm32, Int32.reduceToInt, Int64.reduceToInt, Nat.reduceLT, Nat.reduceEqDiff, reduceIte, w_1m0_2, w_1m0_3, w_1m0_4, w_1m0_5, w_1m0_6, w_1m0_14, w_1m0_42] <;> omega))) | (refine OKv.mk ?_; (first | omega | (simp (disch := omega) only [↓i_in, ↓i_isCouple, ↓i_isBridge, ↓i_isTheme, ↓i_isBarge, i_lt, i_le, i_eq, i_clamp, i_upd, i_m1, Int32.toInt_toInt64, Int32.toInt_add, Int32.toInt_sub, Int32.toInt_mul, bm32, Int32.reduceToInt, Int64.reduceToInt, Nat.reduceLT, Nat.reduceEqDiff, reduceIte, w_1m0_2, w_1m0_3, w_1m0_4, w_1m0_5, w_1m0_6, w_1m0_14, w_1m0_42] <;> omega))))), (by first | omega | (simp (disch := omega) only [↓i_in, ↓i_isCouple, ↓i_isBridge, ↓i_isTheme, ↓i_isBarge, i_lt, i_le, i_eq, i_clamp, i_upd, i_m1, Int32.toInt_toInt64, Int32.toInt_add, Int32.toInt_sub, Int32.toInt_mul, bm32, Int32.reduceToInt, Int64.reduceToInt, Nat.reduceLT, Nat.reduceEqDiff, reduceIte, w_1m0_2, w_1m0_3, w_1m0_4, w_1m0_5, w_1m0_6, w_1m0_14, w_1m0_42] <;> omega)), (by first | omega | (simp (disch := omega) only [↓i_in, ↓i_isCouple, ↓i_isBridge, ↓i_isTheme, ↓i_isBarge, i_lt, i_le, i_eq, i_clamp, i_upd, i_m1, Int32.toInt_toInt64, Int32.toInt_add, Int32.toInt_sub, Int32.toInt_mul, bm32, Int32.reduceToInt, Int64.reduceToInt, Nat.reduceLT, Nat.reduceEqDiff, reduceIte, w_1m0_2, w_1m0_3, w_1m0_4, w_1m0_5, w_1m0_6, w_1m0_14, w_1m0_42] <;> omega))⟩) (by first | omega | (simp (disch := omega) only [↓i_in, ↓i_isCouple, ↓i_isBridge, ↓i_isTheme, ↓i_isBarge, i_lt, i_le, i_eq, i_clamp, i_upd, i_m1, Int32.toInt_toInt64, Int32.toInt_add, Int32.toInt_sub, Int32.toInt_mul, bm32, Int32.reduceToInt, Int64.reduceToInt, Nat.reduceLT, Nat.reduceEqDiff, reduceIte, w_1m0_2, w_1m0_3, w_1m0_4, w_1m0_5, w_1m0_6, w_1m0_14, w_1m0_42] <;> omega))
              · skip
                try simp (disch := omega) only [↓i_in, ↓i_isCouple, ↓i_isBridge, ↓i_isTheme, ↓i_isBarge, i_lt, i_le, i_eq, i_clamp, i_upd, i_m1, Int32.toInt_toInt64, Int32.toInt_add, Int32.toInt_sub, Int32.toInt_mul, bm32, Int32.reduceToInt, Int64.reduceToInt, Nat.reduceLT, Nat.reduceEqDiff, reduceIte, w_1m0_2, w_1m0_3, w_1m0_4, w_1m0_5, w_1m0_6, w_1m0_14, w_1m0_42] at c_13
                refine ⟨vp_in_iff.mpr (by first | omega | (simp (disch := omega) only [↓i_in, ↓i_isCouple, ↓i_isBridge, ↓i_isTheme, ↓i_isBarge, i_lt, i_le, i_eq, i_clamp, i_upd, i_m1, Int32.toInt_toInt64, Int32.toInt_add, Int32.toInt_sub, Int32.toInt_mul, bm32, Int32.reduceToInt, Int64.reduceToInt, Nat.reduceLT, Nat.reduceEqDiff, reduceIte, w_1m0_2, w_1m0_3, w_1m0_4, w_1m0_5, w_1m0_6, w_1m0_14, w_1m0_42] <;> omega)), ?_⟩
                exact ih (w_1l4 + 1) ((f_m_quarrels w_1m0 f10 (f_m_whoIsAt w_1m0 w_1m1 h_ w_1l4) (w_1m1 (((h_ + 12) + (f_m_whoIsAt w_1m0 w_1m1 h_ w_1l4)) : Int32).toNatClampNeg) (w_1m1 (((h_ + 0) + (f_m_whoIsAt w_1m0 w_1m1 h_ w_1l4)) : Int32).toNatClampNeg) (f8 (w_1l4 : Int32).toNatClampNeg)) 34) (f_m_quarrels w_1m0 f10 (f_m_whoIsAt w_1m0 w_1m1 h_ w_1l4) (w_1m1 (((h_ + 12) + (f_m_whoIsAt w_1m0 w_1m1 h_ w_1l4)) : Int32).toNatClampNeg) (w_1m1 (((h_ + 0) + (f_m_whoIsAt w_1m0 w_1m1 h_ w_1l4)) : Int32).toNatClampNeg) (f8 (w_1l4 : Int32).toNatClampNeg)) (upd (upd (upd (upd (upd w_1m1 ((h_ + 19) : Int32).toNatClampNeg ((w_1m1 ((h_ + 19) : Int32).toNatClampNeg) + ((f_m_quarrels w_1m0 f10 (f_m_whoIsAt w_1m0 w_1m1 h_ w_1l4) (w_1m1 (((h_ + 12) + (f_m_whoIsAt w_1m0 w_1m1 h_ w_1l4)) : Int32).toNatClampNeg) (w_1m1 (((h_ + 0) + (f_m_whoIsAt w_1m0 w_1m1 h_ w_1l4)) : Int32).toNatClampNeg) (f8 (w_1l4 : Int32).toNatClampNeg)) 32))) (((h_ + 0) + (f_m_whoIsAt w_1m0 w_1m1 h_ w_1l4)) : Int32).toNatClampNeg ((f_m_quarrels w_1m0 f10 (f_m_whoIsAt w_1m0 w_1m1 h_ w_1l4) (w_1m1 (((h_ + 12) + (f_m_whoIsAt w_1m0 w_1m1 h_ w_1l4)) : Int32).toNatClampNeg) (w_1m1 (((h_ + 0) + (f_m_whoIsAt w_1m0 w_1m1 h_ w_1l4)) : Int32).toNatClampNeg) (f8 (w_1l4 : Int32).toNatClampNeg)) 33)) ((h_ + 18) : Int32).toNatClampNeg (((upd (upd w_1m1 ((h_ + 19) : Int32).toNatClampNeg ((w_1m1 ((h_ + 19) : Int32).toNatClampNeg) + ((f_m_quarrels w_1m0 f10 (f_m_whoIsAt w_1m0 w_1m1 h_ w_1l4) (w_1m1 (((h_ + 12) + (f_m_whoIsAt w_1m0 w_1m1 h_ w_1l4)) : Int32).toNatClampNeg) (w_1m1 (((h_ + 0) + (f_m_whoIsAt w_1m0 w_1m1 h_ w_1l4)) : Int32).toNatClampNeg) (f8 (w_1l4 : Int32).toNatClampNeg)) 32))) (((h_ + 0) + (f_m_whoIsAt w_1m0 w_1m1 h_ w_1l4)) : Int32).toNatClampNeg ((f_m_quarrels w_1m0 f10 (f_m_whoIsAt w_1m0 w_1m1 h_ w_1l4) (w_1m1 (((h_ + 12) + (f_m_whoIsAt w_1m0 w_1m1 h_ w_1l4)) : Int32).toNatClampNeg) (w_1m1 (((h_ + 0) + (f_m_whoIsAt w_1m0 w_1m1 h_ w_1l4)) : Int32).toNatClampNeg) (f8 (w_1l4 : Int32).toNatClampNeg)) 33)) ((h_ + 18) : Int32).toNatClampNeg) ||| (1 <<< ((f_m_whoIsAt w_1m0 w_1m1 h_ w_1l4) &&& 31)))) (((h_ + 6) + (f_m_whoIsAt w_1m0 w_1m1 h_ w_1l4)) : Int32).toNatClampNeg (-1)) (((h_ + 27) + v_) : Int32).toNatClampNeg (-1)) (⟨(QG.trans i_1 p_quarrels), (WI_upd (WI_upd (WI_upd (WI_upd (WI_upd i_2 (by first | (refine OKv.out ?_; (first | omega | (simp (disch := omega) only [↓i_in, ↓i_isCouple, ↓i_isBridge, ↓i_isTheme, ↓i_isBarge, i_lt, i_le, i_eq, i_clamp, i_upd, i_m1, Int32.toInt_toInt64, Int32.toInt_add, Int32.toInt_sub, Int32.toInt_mul, bm32, Int32.reduceToInt, Int64.reduceToInt, Nat.reduceLT, Nat.reduceEqDiff, reduceIte, w_1m0_2, w_1m0_3, w_1m0_4, w_1m0_5, w_1m0_6, w_1m0_14, w_1m0_42] <;> omega))) | (refine OKv.mk ?_; (first | omega | (simp (disch := omega) only [↓i_in, ↓i_isCouple, ↓i_isBridge, ↓i_isTheme, ↓i_isBarge, i_lt, i_le, i_eq, i_clamp, i_upd, i_m1, Int32.toInt_toInt64, Int32.toInt_add, Int32.toInt_sub, Int32.toInt_mul, bm32, Int32.reduceToInt, Int64.reduceToInt, Nat.reduceLT, Nat.reduceEqDiff, reduceIte, w_1m0_2, w_1m0_3, w_1m0_4, w_1m0_5, w_1m0_6, w_1m0_14, w_1m0_42] <;> omega))))) (by first | (refine OKv.out ?_; (first | omega | (simp (disch := omega) only [↓i_in, ↓i_isCouple, ↓i_isBridge, ↓i_isTheme, ↓i_isBarge, i_lt, i_le, i_eq, i_clamp, i_upd, i_m1, Int32.toInt_toInt64, Int32.toInt_add, Int32.toInt_sub, Int32.toInt_mul, bm32, Int32.reduceToInt, Int64.reduceToInt, Nat.reduceLT, Nat.reduceEqDiff, reduceIte, w_1m0_2, w_1m0_3, w_1m0_4, w_1m0_5, w_1m0_6, w_1m0_14, w_1m0_42] <;> omega))) | (refine OKv.mk ?_; (first | omega | (simp (disch := omega) only [↓i_in, ↓i_isCouple, ↓i_isBridge, ↓i_isTheme, ↓i_isBarge, i_lt, i_le, i_eq, i_clamp, i_upd, i_m1, Int32.toInt_toInt64, Int32.toInt_add, Int32.toInt_sub, Int32.toInt_mul, bm32, Int32.reduceToInt, Int64.reduceToInt, Nat.reduceLT, Nat.reduceEqDiff, reduceIte, w_1m0_2, w_1m0_3, w_1m0_4, w_1m0_5, w_1m0_6, w_1m0_14, w_1m0_42] <;> omega))))) (by first | (refine OKv.out ?_; (first | omega | (simp (disch := omega) only [↓i_in, ↓i_isCouple, ↓i_isBridge, ↓i_isTheme, ↓i_isBarge, i_lt, i_le, i_eq, i_clamp, i_upd, i_m1, Int32.toInt_toInt64, Int32.toInt_add, Int32.toInt_sub, Int32.toInt_mul, bm32, Int32.reduceToInt, Int64.reduceToInt, Nat.reduceLT, Nat.reduceEqDiff, reduceIte, w_1m0_2, w_1m0_3, w_1m0_4, w_1m0_5, w_1m0_6, w_1m0_14, w_1m0_42] <;> omega))) | (refine OKv.mk ?_; (first | omega | (simp (disch := omega) only [↓i_in, ↓i_isCouple, ↓i_isBridge, ↓i_isTheme, ↓i_isBarge, i_lt, i_le, i_eq, i_clamp, i_upd, i_m1, Int32.toInt_toInt64, Int32.toInt_add, Int32.toInt_sub, Int32.toInt_mul, bm32, Int32.reduceToInt, Int64.reduceToInt, Nat.reduceLT, Nat.reduceEqDiff, reduceIte, w_1m0_2, w_1m0_3, w_1m0_4, w_1m0_5, w_1m0_6, w_1m0_14, w_1m0_42] <;> omega))))) (by first | (refine OKv.out ?_; (first | omega | (simp (disch := omega) only [↓i_in, ↓i_isCouple, ↓i_isBridge, ↓i_isTheme, ↓i_isBarge, i_lt, i_le, i_eq, i_clamp, i_upd, i_m1, Int32.toInt_toInt64, Int32.toInt_add, Int32.toInt_sub, Int32.toInt_mul, bm32, Int32.reduceToInt, Int64.reduceToInt, Nat.reduceLT, Nat.reduceEqDiff, reduceIte, w_1m0_2, w_1m0_3, w_1m0_4, w_1m0_5, w_1m0_6, w_1m0_14, w_1m0_42] <;> omega))) | (refine OKv.mk ?_; (first | omega | (simp (disch := omega) only [↓i_in, ↓i_isCouple, ↓i_isBridge, ↓i_isTheme, ↓i_isBarge, i_lt, i_le, i_eq, i_clamp, i_upd, i_m1, Int32.toInt_toInt64, Int32.toInt_add, Int32.toInt_sub, Int32.toInt_mul, bm32, Int32.reduceToInt, Int64.reduceToInt, Nat.reduceLT, Nat.reduceEqDiff, reduceIte, w_1m0_2, w_1m0_3, w_1m0_4, w_1m0_5, w_1m0_6, w_1m0_14, w_1m0_42] <;> omega))))) (by first | (refine OKv.out ?_; (first | omega | (simp (disch := omega) only [↓i_in, ↓i_isCouple, ↓i_isBridge, ↓i_isTheme, ↓i_isBarge, i_lt, i_le, i_eq, i_clamp, i_upd, i_m1, Int32.toInt_toInt64, Int32.toInt_add, Int32.toInt_sub, Int32.toInt_mul, bm32, Int32.reduceToInt, Int64.reduceToInt, Nat.reduceLT, Nat.reduceEqDiff, reduceIte, w_1m0_2, w_1m0_3, w_1m0_4, w_1m0_5, w_1m0_6, w_1m0_14, w_1m0_42] <;> omega))) | (refine OKv.mk ?_; (first | omega | (simp (disch := omega) only [↓i_in, ↓i_isCouple, ↓i_isBridge, ↓i_isTheme, ↓i_isBarge, i_lt, i_le, i_eq, i_clamp, i_upd, i_m1, Int32.toInt_toInt64, Int32.toInt_add, Int32.toInt_sub, Int32.toInt_mul, bm32, Int32.reduceToInt, Int64.reduceToInt, Nat.reduceLT, Nat.reduceEqDiff, reduceIte, w_1m0_2, w_1m0_3, w_1m0_4, w_1m0_5, w_1m0_6, w_1m0_14, w_1m0_42] <;> omega))))), (by first | omega | (simp (disch := omega) only [↓i_in, ↓i_isCouple, ↓i_isBridge, ↓i_isTheme, ↓i_isBarge, i_lt, i_le, i_eq, i_clamp, i_upd, i_m1, Int32.toInt_toInt64, Int32.toInt_add, Int32.toInt_sub, Int32.toInt_mul, bm32, Int32.reduceToInt, Int64.reduceToInt, Nat.reduceLT, Nat.reduceEqDiff, reduceIte, w_1m0_2, w_1m0_3, w_1m0_4, w_1m0_5, w_1m0_6, w_1m0_14, w_1m0_42] <;> omega)), (by first | omega | (simp (disch := omega) only [↓i_in, ↓i_isCouple, ↓i_isBridge, ↓i_isTheme, ↓i_isBarge, i_lt, i_le, i_eq, i_clamp, i_upd, i_m1, Int32.toInt_toInt64, Int32.toInt_add, Int32.toInt_sub, Int32.toInt_mul, bm32, Int32.reduceToInt, Int64.reduceToInt, Nat.reduceLT, Nat.reduceEqDiff, reduceIte, w_1m0_2, w_1m0_3, w_1m0_4, w_1m0_5, w_1m0_6, w_1m0_14, w_1m0_42] <;> omega))⟩) (by first | omega | (simp (disch := omega) only [↓i_in, ↓i_isCouple, ↓i_isBridge, ↓i_isTheme, ↓i_isBarge, i_lt, i_le, i_eq, i_clamp, i_upd, i_m1, Int32.toInt_toInt64, Int32.toInt_add, Int32.toInt_sub, Int32.toInt_mul, bm32, Int32.reduceToInt, Int64.reduceToInt, Nat.reduceLT, Nat.reduceEqDiff, reduceIte, w_1m0_2, w_1m0_3, w_1m0_4, w_1m0_5, w_1m0_6, w_1m0_14, w_1m0_42] <;> omega))
          · skip
            try simp (disch := omega) only [↓i_in, ↓i_isCouple, ↓i_isBridge, ↓i_isTheme, ↓i_isBarge, i_lt, i_le, i_eq, i_clamp, i_upd, i_m1, Int32.toInt_toInt64, Int32.toInt_add, Int32.toInt_sub, Int32.toInt_mul, bm32, Int32.reduceToInt, Int64.reduceToInt, Nat.reduceLT, Nat.reduceEqDiff, reduceIte, w_1m0_2, w_1m0_3, w_1m0_4, w_1m0_5, w_1m0_6, w_1m0_14, w_1m0_42] at c_10
            refine ⟨fun c_14 => ?_, fun c_14 => ?_⟩
            · skip
              try simp (disch := omega) only [↓i_in, ↓i_isCouple, ↓i_isBridge, ↓i_isTheme, ↓i_isBarge, i_lt, i_le, i_eq, i_clamp, i_upd, i_m1, Int32.toInt_toInt64, Int32.toInt_add, Int32.toInt_sub, Int32.toInt_mul, bm32, Int32.reduceToInt, Int64.reduceToInt, Nat.reduceLT, Nat.reduceEqDiff, reduceIte, w_1m0_2, w_1m0_3, w_1m0_4, w_1m0_5, w_1m0_6, w_1m0_14, w_1m0_42] at c_14
              refine ⟨vp_in_iff.mpr (by first | omega | (simp (disch := omega) only [↓i_in, ↓i_isCouple, ↓i_isBridge, ↓i_isTheme, ↓i_isBarge, i_lt, i_le, i_eq, i_clamp, i_upd, i_m1, Int32.toInt_toInt64, Int32.toInt_add, Int32.toInt_sub, Int32.toInt_mul, bm32, Int32.reduceToInt, Int64.reduceToInt, Nat.reduceLT, Nat.reduceEqDiff, reduceIte, w_1m0_2, w_1m0_3, w_1m0_4, w_1m0_5, w_1m0_6, w_1m0_14, w_1m0_42] <;> omega)), ?_⟩
              exact ih (w_1l4 + 1) ((f_m_quarrels w_1m0 f10 (f_m_whoIsAt w_1m0 w_1m1 h_ w_1l4) (w_1m1 (((h_ + 12) + (f_m_whoIsAt w_1m0 w_1m1 h_ w_1l4)) : Int32).toNatClampNeg) (w_1m1 (((h_ + 0) + (f_m_whoIsAt w_1m0 w_1m1 h_ w_1l4)) : Int32).toNatClampNeg) (f8 (w_1l4 : Int32).toNatClampNeg)) 34) (f_m_quarrels w_1m0 f10 (f_m_whoIsAt w_1m0 w_1m1 h_ w_1l4) (w_1m1 (((h_ + 12) + (f_m_whoIsAt w_1m0 w_1m1 h_ w_1l4)) : Int32).toNatClampNeg) (w_1m1 (((h_ + 0) + (f_m_whoIsAt w_1m0 w_1m1 h_ w_1l4)) : Int32).toNatClampNeg) (f8 (w_1l4 : Int32).toNatClampNeg)) (upd (upd (upd w_1m1 ((h_ + 19) : Int32).toNatClampNeg ((w_1m1 ((h_ + 19) : Int32).toNatClampNeg) + ((f_m_quarrels w_1m0 f10 (f_m_whoIsAt w_1m0 w_1m1 h_ w_1l4) (w_1m1 (((h_ + 12) + (f_m_whoIsAt w_1m0 w_1m1 h_ w_1l4)) : Int32).toNatClampNeg) (w_1m1 (((h_ + 0) + (f_m_whoIsAt w_1m0 w_1m1 h_ w_1l4)) : Int32).toNatClampNeg) (f8 (w_1l4 : Int32).toNatClampNeg)) 32))) (((h_ + 0) + (f_m_whoIsAt w_1m0 w_1m1 h_ w_1l4)) : Int32).toNatClampNeg ((f_m_quarrels w_1m0 f10 (f_m_whoIsAt w_1m0 w_1m1 h_ w_1l4) (w_1m1 (((h_ + 12) + (f_m_whoIsAt w_1m0 w_1m1 h_ w_1l4)) : Int32).toNatClampNeg) (w_1m1 (((h_ + 0) + (f_m_whoIsAt w_1m0 w_1m1 h_ w_1l4)) : Int32).toNatClampNeg) (f8 (w_1l4 : Int32).toNatClampNeg)) 33)) (((h_ + 27) + v_) : Int32).toNatClampNeg w_1l4) (⟨(QG.trans i_1 p_quarrels), (WI_upd (WI_upd (WI_upd i_2 (by first | (refine OKv.out ?_; (first | omega | (simp (disch := omega) only [↓i_in, ↓i_isCouple, ↓i_isBridge, ↓i_isTheme, ↓i_isBarge, i_lt, i_le, i_eq, i_clamp, i_upd, i_m1, Int32.toInt_toInt64, Int32.toInt_add, Int32.toInt_sub, Int32.toInt_mul, bm32, Int32.reduceToInt, Int64.reduceToInt, Nat.reduceLT, Nat.reduceEqDiff, reduceIte, w_1m0_2, w_1m0_3, w_1m0_4, w_1m0_5, w_1m0_6, w_1m0_14, w_1m0_42] <;> omega))) | (refine OKv.mk ?_; (first | omega | (simp (disch := omega) only [↓i_in, ↓i_isCouple, ↓i_isBridge, ↓i_isTheme, ↓i_isBarge, i_lt, i_le, i_eq, i_clamp, i_upd, i_m1, Int32.toInt_toInt64, Int32.toInt_add, Int32.toInt_sub, Int32.toInt_mul, bm32, Int32.reduceToInt, Int64.reduceToInt, Nat.reduceLT, Nat.reduceEqDiff, reduceIte, w_1m0_2, w_1m0_3, w_1m0_4, w_1m0_5, w_1m0_6, w_1m0_14, w_1m0_42] <;> omega))))) (by first | (refine OKv.out ?_; (first | omega | (simp (disch := omega) only [↓i_in, ↓i_isCouple, ↓i_isBridge, ↓i_isTheme, ↓i_isBarge, i_lt, i_le, i_eq, i_clamp, i_upd, i_m1, Int32.toInt_toInt64, Int32.toInt_add, Int32.toInt_sub, Int32.toInt_mul, bm32, Int32.reduceToInt, Int64.reduceToInt, Nat.reduceLT, Nat.reduceEqDiff, reduceIte, w_1m0_2, w_1m0_3, w_1m0_4, w_1m0_5, w_1m0_6, w_1m0_14, w_1m0_42] <;> omega))) | (refine OKv.mk ?_; (first | omega | (simp (disch := omega) only [↓i_in, ↓i_isCouple, ↓i_isBridge, ↓i_isTheme, ↓i_isBarge, i_lt, i_le, i_eq, i_clamp, i_upd, i_m1, Int32.toInt_toInt64, Int32.toInt_add, Int32.toInt_sub, Int32.toInt_mul, bm32, Int32.reduceToInt, Int64.reduceToInt, Nat.reduceLT, Nat.reduceEqDiff, reduceIte, w_1m0_2, w_1m0_3, w_1m0_4, w_1m0_5, w_1m0_6, w_1m0_14, w_1m0_42] <;> omega))))) (by first | (refine OKv.out ?_; (first | omega | (simp (disch := omega) only [↓i_in, ↓i_isCouple, ↓i_isBridge, ↓i_isTheme, ↓i_isBarge, i_lt, i_le, i_eq, i_clamp, i_upd, i_m1, Int32.toInt_toInt64, Int32.toInt_add, Int32.toInt_sub, Int32.toInt_mul, bm32, Int32.reduceToInt, Int64.reduceToInt, Nat.reduceLT, Nat.reduceEqDiff, reduceIte, w_1m0_2, w_1m0_3, w_1m0_4, w_1m0_5, w_1m0_6, w_1m0_14, w_1m0_42] <;> omega))) | (refine OKv.mk ?_; (first | omega | (simp (disch := omega) only [↓i_in, ↓i_isCouple, ↓i_isBridge, ↓i_isTheme, ↓i_isBarge, i_lt, i_le, i_eq, i_clamp, i_upd, i_m1, Int32.toInt_toInt64, Int32.toInt_add, Int32.toInt_sub, Int32.toInt_mul, bm32, Int32.reduceToInt, Int64.reduceToInt, Nat.reduceLT, Nat.reduceEqDiff, reduceIte, w_1m0_2, w_1m0_3, w_1m0_4, w_1m0_5, w_1m0_6, w_1m0_14, w_1m0_42] <;> omega))))), (by first | omega | (simp (disch := omega) only [↓i_in, ↓i_isCouple, ↓i_isBridge, ↓i_isTheme, ↓i_isBarge, i_lt, i_le, i_eq, i_clamp, i_upd, i_m1, Int32.toInt_toInt64, Int32.toInt_add, Int32.toInt_sub, Int32.toInt_mul, bm32, Int32.reduceToInt, Int64.reduceToInt, Nat.reduceLT, Nat.reduceEqDiff, reduceIte, w_1m0_2, w_1m0_3, w_1m0_4, w_1m0_5, w_1m0_6, w_1m0_14, w_1m0_42] <;> omega)), (by first | omega | (simp (disch := omega) only [↓i_in, ↓i_isCouple, ↓i_isBridge, ↓i_isTheme, ↓i_isBarge, i_lt, i_le, i_eq, i_clamp, i_upd, i_m1, Int32.toInt_toInt64, Int32.toInt_add, Int32.toInt_sub, Int32.toInt_mul, bm32, Int32.reduceToInt, Int64.reduceToInt, Nat.reduceLT, Nat.reduceEqDiff, reduceIte, w_1m0_2, w_1m0_3, w_1m0_4, w_1m0_5, w_1m0_6, w_1m0_14, w_1m0_42] <;> omega))⟩) (by first | omega | (simp (disch := omega) only [↓i_in, ↓i_isCouple, ↓i_isBridge, ↓i_isTheme, ↓i_isBarge, i_lt, i_le, i_eq, i_clamp, i_upd, i_m1, Int32.toInt_toInt64, Int32.toInt_add, Int32.toInt_sub, Int32.toInt_mul, bm32, Int32.reduceToInt, Int64.reduceToInt, Nat.reduceLT, Nat.reduceEqDiff, reduceIte, w_1m0_2, w_1m0_3, w_1m0_4, w_1m0_5, w_1m0_6, w_1m0_14, w_1m0_42] <;> omega))
            · skip
              try simp (disch := omega) only [↓i_in, ↓i_isCouple, ↓i_isBridge, ↓i_isTheme, ↓i_isBarge, i_lt, i_le, i_eq, i_clamp, i_upd, i_m1, Int32.toInt_toInt64, Int32.toInt_add, Int32.toInt_sub, Int32.toInt_mul, bm32, Int32.reduceToInt, Int64.reduceToInt, Nat.reduceLT, Nat.reduceEqDiff, reduceIte, w_1m0_2, w_1m0_3, w_1m0_4, w_1m0_5, w_1m0_6, w_1m0_14, w_1m0_42] at c_14
              refine ⟨vp_in_iff.mpr (by first | omega | (simp (disch := omega) only [↓i_in, ↓i_isCouple, ↓i_isBridge, ↓i_isTheme, ↓i_isBarge, i_lt, i_le, i_eq, i_clamp, i_upd, i_m1, Int32.toInt_toInt64, Int32.toInt_add, Int32.toInt_sub, Int32.toInt_mul, bm32, Int32.reduceToInt, Int64.reduceToInt, Nat.reduceLT, Nat.reduceEqDiff, reduceIte, w_1m0_2, w_1m0_3, w_1m0_4, w_1m0_5, w_1m0_6, w_1m0_14, w_1m0_42] <;> omega)), ?_⟩
              exact ih (w_1l4 + 1) ((f_m_quarrels w_1m0 f10 (f_m_whoIsAt w_1m0 w_1m1 h_ w_1l4) (w_1m1 (((h_ + 12) + (f_m_whoIsAt w_1m0 w_1m1 h_ w_1l4)) : Int32).toNatClampNeg) (w_1m1 (((h_ + 0) + (f_m_whoIsAt w_1m0 w_1m1 h_ w_1l4)) : Int32).toNatClampNeg) (f8 (w_1l4 : Int32).toNatClampNeg)) 34) (f_m_quarrels w_1m0 f10 (f_m_whoIsAt w_1m0 w_1m1 h_ w_1l4) (w_1m1 (((h_ + 12) + (f_m_whoIsAt w_1m0 w_1m1 h_ w_1l4)) : Int32).toNatClampNeg) (w_1m1 (((h_ + 0) + (f_m_whoIsAt w_1m0 w_1m1 h_ w_1l4)) : Int32).toNatClampNeg) (f8 (w_1l4 : Int32).toNatClampNeg)) (upd (upd (upd w_1m1 ((h_ + 19) : Int32).toNatClampNeg ((w_1m1 ((h_ + 19) : Int32).toNatClampNeg) + ((f_m_quarrels w_1m0 f10 (f_m_whoIsAt w_1m0 w_1m1 h_ w_1l4) (w_1m1 (((h_ + 12) + (f_m_whoIsAt w_1m0 w_1m1 h_ w_1l4)) : Int32).toNatClampNeg) (w_1m1 (((h_ + 0) + (f_m_whoIsAt w_1m0 w_1m1 h_ w_1l4)) : Int32).toNatClampNeg) (f8 (w_1l4 : Int32).toNatClampNeg)) 32))) (((h_ + 0) + (f_m_whoIsAt w_1m0 w_1m1 h_ w_1l4)) : Int32).toNatClampNeg ((f_m_quarrels w_1m0 f10 (f_m_whoIsAt w_1m0 w_1m1 h_ w_1l4) (w_1m1 (((h_ + 12) + (f_m_whoIsAt w_1m0 w_1m1 h_ w_1l4)) : Int32).toNatClampNeg) (w_1m1 (((h_ + 0) + (f_m_whoIsAt w_1m0 w_1m1 h_ w_1l4)) : Int32).toNatClampNeg) (f8 (w_1l4 : Int32).toNatClampNeg)) 33)) (((h_ + 27) + v_) : Int32).toNatClampNeg (-1)) (⟨(QG.trans i_1 p_quarrels), (WI_upd (WI_upd (WI_upd i_2 (by first | (refine OKv.out ?_; (first | omega | (simp (disch := omega) only [↓i_in, ↓i_isCouple, ↓i_isBridge, ↓i_isTheme, ↓i_isBarge, i_lt, i_le, i_eq, i_clamp, i_upd, i_m1, Int32.toInt_toInt64, Int32.toInt_add, Int32.toInt_sub, Int32.toInt_mul, bm32, Int32.reduceToInt, Int64.reduceToInt, Nat.reduceLT, Nat.reduceEqDiff, reduceIte, w_1m0_2, w_1m0_3, w_1m0_4, w_1m0_5, w_1m0_6, w_1m0_14, w_1m0_42] <;> omega))) | (refine OKv.mk ?_; (first | omega | (simp (disch := omega) only [↓i_in, ↓i_isCouple, ↓i_isBridge, ↓i_isTheme, ↓i_isBarge, i_lt, i_le, i_eq, i_clamp, i_upd, i_m1, Int32.toInt_toInt64, Int32.toInt_add, Int32.toInt_sub, Int32.toInt_mul, bm32, Int32.reduceToInt, Int64.reduceToInt, Nat.reduceLT, Nat.reduceEqDiff, reduceIte, w_1m0_2, w_1m0_3, w_1m0_4, w_1m0_5, w_1m0_6, w_1m0_14, w_1m0_42] <;> omega))))) (by first | (refine OKv.out ?_; (first | omega | (simp (disch := omega) only [↓i_in, ↓i_isCouple, ↓i_isBridge, ↓i_isTheme, ↓i_isBarge, i_lt, i_le, i_eq, i_clamp, i_upd, i_m1, Int32.toInt_toInt64, Int32.toInt_add, Int32.toInt_sub, Int32.toInt_mul, bm32, Int32.reduceToInt, Int64.reduceToInt, Nat.reduceLT, Nat.reduceEqDiff, reduceIte, w_1m0_2, w_1m0_3, w_1m0_4, w_1m0_5, w_1m0_6, w_1m0_14, w_1m0_42] <;> omega))) | (refine OKv.mk ?_; (first | omega | (simp (disch := omega) only [↓i_in, ↓i_isCouple, ↓i_isBridge, ↓i_isTheme, ↓i_isBarge, i_lt, i_le, i_eq, i_clamp, i_upd, i_m1, Int32.toInt_toInt64, Int32.toInt_add, Int32.toInt_sub, Int32.toInt_mul, bm32, Int32.reduceToInt, Int64.reduceToInt, Nat.reduceLT, Nat.reduceEqDiff, reduceIte, w_1m0_2, w_1m0_3, w_1m0_4, w_1m0_5, w_1m0_6, w_1m0_14, w_1m0_42] <;> omega))))) (by first | (refine OKv.out ?_; (first | omega | (simp (disch := omega) only [↓i_in, ↓i_isCouple, ↓i_isBridge, ↓i_isTheme, ↓i_isBarge, i_lt, i_le, i_eq, i_clamp, i_upd, i_m1, Int32.toInt_toInt64, Int32.toInt_add, Int32.toInt_sub, Int32.toInt_mul, bm32, Int32.reduceToInt, Int64.reduceToInt, Nat.reduceLT, Nat.reduceEqDiff, reduceIte, w_1m0_2, w_1m0_3, w_1m0_4, w_1m0_5, w_1m0_6, w_1m0_14, w_1m0_42] <;> omega))) | (refine OKv.mk ?_; (first | omega | (simp (disch := omega) only [↓i_in, ↓i_isCouple, ↓i_isBridge, ↓i_isTheme, ↓i_isBarge, i_lt, i_le, i_eq, i_clamp, i_upd, i_m1, Int32.toInt_toInt64, Int32.toInt_add, Int32.toInt_sub, Int32.toInt_mul, bm32, Int32.reduceToInt, Int64.reduceToInt, Nat.reduceLT, Nat.reduceEqDiff, reduceIte, w_1m0_2, w_1m0_3, w_1m0_4, w_1m0_5, w_1m0_6, w_1m0_14, w_1m0_42] <;> omega))))), (by first | omega | (simp (disch := omega) only [↓i_in, ↓i_isCouple, ↓i_isBridge, ↓i_isTheme, ↓i_isBarge, i_lt, i_le, i_eq, i_clamp, i_upd, i_m1, Int32.toInt_toInt64, Int32.toInt_add, Int32.toInt_sub, Int32.toInt_mul, bm32, Int32.reduceToInt, Int64.reduceToInt, Nat.reduceLT, Nat.reduceEqDiff, reduceIte, w_1m0_2, w_1m0_3, w_1m0_4, w_1m0_5, w_1m0_6, w_1m0_14, w_1m0_42] <;> omega)), (by first | omega | (simp (disch := omega) only [↓i_in, ↓i_isCouple, ↓i_isBridge, ↓i_isTheme, ↓i_isBarge, i_lt, i_le, i_eq, i_clamp, i_upd, i_m1, Int32.toInt_toInt64, Int32.toInt_add, Int32.toInt_sub, Int32.toInt_mul, bm32, Int32.reduceToInt, Int64.reduceToInt, Nat.reduceLT, Nat.reduceEqDiff, reduceIte, w_1m0_2, w_1m0_3, w_1m0_4, w_1m0_5, w_1m0_6, w_1m0_14, w_1m0_42] <;> omega))⟩) (by first | omega | (simp (disch := omega) only [↓i_in, ↓i_isCouple, ↓i_isBridge, ↓i_isTheme, ↓i_isBarge, i_lt, i_le, i_eq, i_clamp, i_upd, i_m1, Int32.toInt_toInt64, Int32.toInt_add, Int32.toInt_sub, Int32.toInt_mul, bm32, Int32.reduceToInt, Int64.reduceToInt, Nat.reduceLT, Nat.reduceEqDiff, reduceIte, w_1m0_2, w_1m0_3, w_1m0_4, w_1m0_5, w_1m0_6, w_1m0_14, w_1m0_42] <;> omega))
set_option maxHeartbeats 4000000 in
theorem pl_passes_5 {G : Nat → Int32} {f10 : Nat → Int32} {f8 : Nat → Int32} {f11 : Nat → Int32} {h_ : Int32} {v_ : Int32} (h_0 : GI G) (h_1 : RI f11) (h_2 : 0 ≤ h_.toInt) (h_3 : h_.toInt ≤ 1260) (h_4 : h_.toInt % 42 = 0) (h_5 : 0 ≤ v_.toInt) (h_6 : v_.toInt < 7) : ∀ (n : Nat) w_1l4 w_1l3 w_1m0 w_1m1, (QG G w_1m0 ∧ WI w_1m1 ∧ (0 ≤ w_1l4.toInt) ∧ (w_1l4.toInt ≤ 6)) → ∀ r0 r1 r2 r3, f_m_passes_5 f10 f8 f11 h_ v_ n w_1l4 w_1l3 w_1m0 w_1m1 = (r0, r1, r2, r3) → QG G r2 ∧ WI r3 ∧ (0 ≤ r0.toInt) ∧ (r0.toInt ≤ 6) := by
  have h_0_g := h_0
  obtain ⟨⟨h_0_2a, h_0_2b⟩, ⟨h_0_3a, h_0_3b⟩, ⟨h_0_4a, h_0_4b⟩, ⟨h_0_5a, h_0_5b⟩, ⟨h_0_6a, h_0_6b⟩, ⟨h_0_14a, h_0_14b⟩, ⟨h_0_42a, h_0_42b⟩⟩ := h_0_g
  intro n
  induction n with
  | zero =>
    intro w_1l4 w_1l3 w_1m0 w_1m1 hI r0 r1 r2 r3 e
    replace e : (w_1l4, w_1l3, w_1m0, w_1m1) = (r0, r1, r2, r3) := e
    cases e
    exact hI
  | succ n ih =>
    intro w_1l4 w_1l3 w_1m0 w_1m1 hI r0 r1 r2 r3 e
    rw [f_m_passes_5_s] at e
    have hI0 := hI
    obtain ⟨i_1, i_2, i_3, i_4⟩ := hI0
    obtain ⟨w_1m0_2, w_1m0_3, w_1m0_4, w_1m0_5, w_1m0_6, w_1m0_14, w_1m0_42⟩ := QGs i_1
    have rf := h_1 v_.toInt.toNat
    by_cases c_5 : (f11 (v_ : Int32).toNatClampNeg) < w_1l4
    · rw [if_pos c_5] at e
      try simp (disch := omega) only [↓i_in, ↓i_isCouple, ↓i_isBridge, ↓i_isTheme, ↓i_isBarge, i_lt, i_le, i_eq, i_clamp, i_upd, i_m1, Int32.toInt_toInt64, Int32.toInt_add, Int32.toInt_sub, Int32.toInt_mul, bm32, Int32.reduceToInt, Int64.reduceToInt, Nat.reduceLT, Nat.reduceEqDiff, reduceIte, w_1m0_2, w_1m0_3, w_1m0_4, w_1m0_5, w_1m0_6, w_1m0_14, w_1m0_42] at c_5
      cases e
      exact hI
    · rw [if_neg c_5] at e
      try simp (disch := omega) only [↓i_in, ↓i_isCouple, ↓i_isBridge, ↓i_isTheme, ↓i_isBarge, i_lt, i_le, i_eq, i_clamp, i_upd, i_m1, Int32.toInt_toInt64, Int32.toInt_add, Int32.toInt_sub, Int32.toInt_mul, bm32, Int32.reduceToInt, Int64.reduceToInt, Nat.reduceLT, Nat.reduceEqDiff, reduceIte, w_1m0_2, w_1m0_3, w_1m0_4, w_1m0_5, w_1m0_6, w_1m0_14, w_1m0_42] at c_5
      by_cases c_6 : w_1l3 = 0
      · rw [if_pos c_6] at e
        try simp (disch := omega) only [↓i_in, ↓i_isCouple, ↓i_isBridge, ↓i_isTheme, ↓i_isBarge, i_lt, i_le, i_eq, i_clamp, i_upd, i_m1, Int32.toInt_toInt64, Int32.toInt_add, Int32.toInt_sub, Int32.toInt_mul, bm32, Int32.reduceToInt, Int64.reduceToInt, Nat.reduceLT, Nat.reduceEqDiff, reduceIte, w_1m0_2, w_1m0_3, w_1m0_4, w_1m0_5, w_1m0_6, w_1m0_14, w_1m0_42] at c_6
        cases e
        exact hI
      · rw [if_neg c_6] at e
        try simp (disch := omega) only [↓i_in, ↓i_isCouple, ↓i_isBridge, ↓i_isTheme, ↓i_isBarge, i_lt, i_le, i_eq, i_clamp, i_upd, i_m1, Int32.toInt_toInt64, Int32.toInt_add, Int32.toInt_sub, Int32.toInt_mul, bm32, Int32.reduceToInt, Int64.reduceToInt, Nat.reduceLT, Nat.reduceEqDiff, reduceIte, w_1m0_2, w_1m0_3, w_1m0_4, w_1m0_5, w_1m0_6, w_1m0_14, w_1m0_42] at c_6
        have v_7 := p_whoIsAt (G := w_1m0) (f0 := w_1m1) (h_ := h_) (b_ := w_1l4) (GI.of i_1 h_0) (by first | omega | (simp (disch := omega) only [↓i_in, ↓i_isCouple, ↓i_isBridge, ↓i_isTheme, ↓i_isBarge, i_lt, i_le, i_eq, i_clamp, i_upd, i_m1, Int32.toInt_toInt64, Int32.toInt_add, Int32.toInt_sub, Int32.toInt_mul, bm32, Int32.reduceToInt, Int64.reduceToInt, Nat.reduceLT, Nat.reduceEqDiff, reduceIte, w_1m0_2, w_1m0_3, w_1m0_4, w_1m0_5, w_1m0_6, w_1m0_14, w_1m0_42] <;> omega)) (by first | omega | (simp (disch := omega) only [↓i_in, ↓i_isCouple, ↓i_isBridge, ↓i_isTheme, ↓i_isBarge, i_lt, i_le, i_eq, i_clamp, i_upd, i_m1, Int32.toInt_toInt64, Int32.toInt_add, Int32.toInt_sub, Int32.toInt_mul, bm32, Int32.reduceToInt, Int64.reduceToInt, Nat.reduceLT, Nat.reduceEqDiff, reduceIte, w_1m0_2, w_1m0_3, w_1m0_4, w_1m0_5, w_1m0_6, w_1m0_14, w_1m0_42] <;> omega))
        try simp (disch := omega) only [↓i_in, ↓i_isCouple, ↓i_isBridge, ↓i_isTheme, ↓i_isBarge, i_lt, i_le, i_eq, i_clamp, i_upd, i_m1, Int32.toInt_toInt64, Int32.toInt_add, Int32.toInt_sub, Int32.toInt_mul, bm32, Int32.reduceToInt, Int64.reduceToInt, Nat.reduceLT, Nat.reduceEqDiff, reduceIte, w_1m0_2, w_1m0_3, w_1m0_4, w_1m0_5, w_1m0_6, w_1m0_14, w_1m0_42] at v_7
        by_cases c_8 : (f_m_whoIsAt w_1m0 w_1m1 h_ w_1l4) = (-1)
        · rw [if_pos c_8] at e
          try simp (disch := omega) only [↓i_in, ↓i_isCouple, ↓i_isBridge, ↓i_isTheme, ↓i_isBarge, i_lt, i_le, i_eq, i_clamp, i_upd, i_m1, Int32.toInt_toInt64, Int32.toInt_add, Int32.toInt_sub, Int32.toInt_mul, bm32, Int32.reduceToInt, Int64.reduceToInt, Nat.reduceLT, Nat.reduceEqDiff, reduceIte, w_1m0_2, w_1m0_3, w_1m0_4, w_1m0_5, w_1m0_6, w_1m0_14, w_1m0_42] at c_8
          exact ih (w_1l4 + 1) 0 w_1m0 (upd w_1m1 (((h_ + 27) + v_) : Int32).toNatClampNeg w_1l4) (⟨i_1, (WI_upd i_2 (by first | (refine OKv.out ?_; (first | omega | (simp (disch := omega) only [↓i_in, ↓i_isCouple, ↓i_isBridge, ↓i_isTheme, ↓i_isBarge, i_lt, i_le, i_eq, i_clamp, i_upd, i_m1, Int32.toInt_toInt64, Int32.toInt_add, Int32.toInt_sub, Int32.toInt_mul, bm32, Int32.reduceToInt, Int64.reduceToInt, Nat.reduceLT, Nat.reduceEqDiff, reduceIte, w_1m0_2, w_1m0_3, w_1m0_4, w_1m0_5, w_1m0_6, w_1m0_14, w_1m0_42] <;> omega))) | (refine OKv.mk ?_; (first | omega | (simp (disch := omega) only [↓i_in, ↓i_isCouple, ↓i_isBridge, ↓i_isTheme, ↓i_isBarge, i_lt, i_le, i_eq, i_clamp, i_upd, i_m1, Int32.toInt_toInt64, Int32.toInt_add, Int32.toInt_sub, Int32.toInt_mul, bm32, Int32.reduceToInt, Int64.reduceToInt, Nat.reduceLT, Nat.reduceEqDiff, reduceIte, w_1m0_2, w_1m0_3, w_1m0_4, w_1m0_5, w_1m0_6, w_1m0_14, w_1m0_42] <;> omega))))), (by first | omega | (simp (disch := omega) only [↓i_in, ↓i_isCouple, ↓i_isBridge, ↓i_isTheme, ↓i_isBarge, i_lt, i_le, i_eq, i_clamp, i_upd, i_m1, Int32.toInt_toInt64, Int32.toInt_add, Int32.toInt_sub, Int32.toInt_mul, bm32, Int32.reduceToInt, Int64.reduceToInt, Nat.reduceLT, Nat.reduceEqDiff, reduceIte, w_1m0_2, w_1m0_3, w_1m0_4, w_1m0_5, w_1m0_6, w_1m0_14, w_1m0_42] <;> omega)), (by first | omega | (simp (disch := omega) only [↓i_in, ↓i_isCouple, ↓i_isBridge, ↓i_isTheme, ↓i_isBarge, i_lt, i_le, i_eq, i_clamp, i_upd, i_m1, Int32.toInt_toInt64, Int32.toInt_add, Int32.toInt_sub, Int32.toInt_mul, bm32, Int32.reduceToInt, Int64.reduceToInt, Nat.reduceLT, Nat.reduceEqDiff, reduceIte, w_1m0_2, w_1m0_3, w_1m0_4, w_1m0_5, w_1m0_6, w_1m0_14, w_1m0_42] <;> omega))⟩) _ _ _ _ e
        · rw [if_neg c_8] at e
          try simp (disch := omega) only [↓i_in, ↓i_isCouple, ↓i_isBridge, ↓i_isTheme, ↓i_isBarge, i_lt, i_le, i_eq, i_clamp, i_upd, i_m1, Int32.toInt_toInt64, Int32.toInt_add, Int32.toInt_sub, Int32.toInt_mul, bm32, Int32.reduceToInt, Int64.reduceToInt, Nat.reduceLT, Nat.reduceEqDiff, reduceIte, w_1m0_2, w_1m0_3, w_1m0_4, w_1m0_5, w_1m0_6, w_1m0_14, w_1m0_42] at c_8
          by_cases c_9 : ((f_m_quarrels w_1m0 f10 (f_m_whoIsAt w_1m0 w_1m1 h_ w_1l4) (w_1m1 (((h_ + 12) + (f_m_whoIsAt w_1m0 w_1m1 h_ w_1l4)) : Int32).toNatClampNeg) (w_1m1 (((h_ + 0) + (f_m_whoIsAt w_1m0 w_1m1 h_ w_1l4)) : Int32).toNatClampNeg) (f8 (w_1l4 : Int32).toNatClampNeg)) 33) = 0
          · rw [if_pos c_9] at e
            try simp (disch := omega) only [↓i_in, ↓i_isCouple, ↓i_isBridge, ↓i_isTheme, ↓i_isBarge, i_lt, i_le, i_eq, i_clamp, i_upd, i_m1, Int32.toInt_toInt64, Int32.toInt_add, Int32.toInt_sub, Int32.toInt_mul, bm32, Int32.reduceToInt, Int64.reduceToInt, Nat.reduceLT, Nat.reduceEqDiff, reduceIte, w_1m0_2, w_1m0_3, w_1m0_4, w_1m0_5, w_1m0_6, w_1m0_14, w_1m0_42] at c_9
            by_cases c_10 : ((f_m_quarrels w_1m0 f10 (f_m_whoIsAt w_1m0 w_1m1 h_ w_1l4) (w_1m1 (((h_ + 12) + (f_m_whoIsAt w_1m0 w_1m1 h_ w_1l4)) : Int32).toNatClampNeg) (w_1m1 (((h_ + 0) + (f_m_whoIsAt w_1m0 w_1m1 h_ w_1l4)) : Int32).toNatClampNeg) (f8 (w_1l4 : Int32).toNatClampNeg)) 32) ≤ 0
            · rw [if_pos c_10] at e
              try simp (disch := omega) only [↓i_in, ↓i_isCouple, ↓i_isBridge, ↓i_isTheme, ↓i_isBarge, i_lt, i_le, i_eq, i_clamp, i_upd, i_m1, Int32.toInt_toInt64, Int32.toInt_add, Int32.toInt_sub, Int32.toInt_mul, bm32, Int32.reduceToInt, Int64.reduceToInt, Nat.reduceLT, Nat.reduceEqDiff, reduceIte, w_1m0_2, w_1m0_3, w_1m0_4, w_1m0_5, w_1m0_6, w_1m0_14, w_1m0_42] at c_10
              by_cases c_11 : ((f_m_quarrels w_1m0 f10 (f_m_whoIsAt w_1m0 w_1m1 h_ w_1l4) (w_1m1 (((h_ + 12) + (f_m_whoIsAt w_1m0 w_1m1 h_ w_1l4)) : Int32).toNatClampNeg) (w_1m1 (((h_ + 0) + (f_m_whoIsAt w_1m0 w_1m1 h_ w_1l4)) : Int32).toNatClampNeg) (f8 (w_1l4 : Int32).toNatClampNeg)) 34) = 0
              · rw [if_pos c_11] at e
                try simp (disch := omega) only [↓i_in, ↓i_isCouple, ↓i_isBridge, ↓i_isTheme, ↓i_isBarge, i_lt, i_le, i_eq, i_clamp, i_upd, i_m1, Int32.toInt_toInt64, Int32.toInt_add, Int32.toInt_sub, Int32.toInt_mul, bm32, Int32.reduceToInt, Int64.reduceToInt, Nat.reduceLT, Nat.reduceEqDiff, reduceIte, w_1m0_2, w_1m0_3, w_1m0_4, w_1m0_5, w_1m0_6, w_1m0_14, w_1m0_42] at c_11
                exact ih (w_1l4 + 1) ((f_m_quarrels w_1m0 f10 (f_m_whoIsAt w_1m0 w_1m1 h_ w_1l4) (w_1m1 (((h_ + 12) + (f_m_whoIsAt w_1m0 w_1m1 h_ w_1l4)) : Int32).toNatClampNeg) (w_1m1 (((h_ + 0) + (f_m_whoIsAt w_1m0 w_1m1 h_ w_1l4)) : Int32).toNatClampNeg) (f8 (w_1l4 : Int32).toNatClampNeg)) 34) (f_m_quarrels w_1m0 f10 (f_m_whoIsAt w_1m0 w_1m1 h_ w_1l4) (w_1m1 (((h_ + 12) + (f_m_whoIsAt w_1m0 w_1m1 h_ w_1l4)) : Int32).toNatClampNeg) (w_1m1 (((h_ + 0) + (f_m_whoIsAt w_1m0 w_1m1 h_ w_1l4)) : Int32).toNatClampNeg) (f8 (w_1l4 : Int32).toNatClampNeg)) (upd (upd (upd w_1m1 ((h_ + 19) : Int32).toNatClampNeg ((w_1m1 ((h_ + 19) : Int32).toNatClampNeg) + ((f_m_quarrels w_1m0 f10 (f_m_whoIsAt w_1m0 w_1m1 h_ w_1l4) (w_1m1 (((h_ + 12) + (f_m_whoIsAt w_1m0 w_1m1 h_ w_1l4)) : Int32).toNatClampNeg) (w_1m1 (((h_ + 0) + (f_m_whoIsAt w_1m0 w_1m1 h_ w_1l4)) : Int32).toNatClampNeg) (f8 (w_1l4 : Int32).toNatClampNeg)) 32))) (((h_ + 0) + (f_m_whoIsAt w_1m0 w_1m1 h_ w_1l4)) : Int32).toNatClampNeg ((f_m_quarrels w_1m0 f10 (f_m_whoIsAt w_1m0 w_1m1 h_ w_1l4) (w_1m1 (((h_ + 12) + (f_m_whoIsAt w_1m0 w_1m1 h_ w_1l4)) : Int32).toNatClampNeg) (w_1m1 (((h_ + 0) + (f_m_whoIsAt w_1m0 w_1m1 h_ w_1l4)) : Int32).toNatClampNeg) (f8 (w_1l4 : Int32).toNatClampNeg)) 33)) (((h_ + 27) + v_) : Int32).toNatClampNeg w_1l4) (⟨(QG.trans i_1 p_quarrels), (WI_upd (WI_upd (WI_upd i_2 (by first | (refine OKv.out ?_; (first | omega | (simp (disch := omega) only [↓i_in, ↓i_isCouple, ↓i_isBridge, ↓i_isTheme, ↓i_isBarge, i_lt, i_le, i_eq, i_clamp, i_upd, i_m1, Int32.toInt_toInt64, Int32.toInt_add, Int32.toInt_sub, Int32.toInt_mul, bm32, Int32.reduceToInt, Int64.reduceToInt, Nat.reduceLT, Nat.reduceEqDiff, reduceIte, w_1m0_2, w_1m0_3, w_1m0_4, w_1m0_5, w_1m0_6, w_1m0_14, w_1m0_42] <;> omega))) | (refine OKv.mk ?_; (first | omega | (simp (disch := omega) only [↓i_in, ↓i_isCouple, ↓i_isBridge, ↓i_isTheme, ↓i_isBarge, i_lt, i_le, i_eq, i_clamp, i_upd, i_m1, Int32.toInt_toInt64, Int32.toInt_add, Int32.toInt_sub, Int32.toInt_mul, bm32, Int32.reduceToInt, Int64.reduceToInt, Nat.reduceLT, Nat.reduceEqDiff, reduceIte, w_1m0_2, w_1m0_3, w_1m0_4, w_1m0_5, w_1m0_6, w_1m0_14, w_1m0_42] <;> omega))))) (by first | (refine OKv.out ?_; (first | omega | (simp (disch := omega) only [↓i_in, ↓i_isCouple, ↓i_isBridge, ↓i_isTheme, ↓i_isBarge, i_lt, i_le, i_eq, i_clamp, i_upd, i_m1, Int32.toInt_toInt64, Int32.toInt_add, Int32.toInt_sub, Int32.toInt_mul, bm32, Int32.reduceToInt, Int64.reduceToInt, Nat.reduceLT, Nat.reduceEqDiff, reduceIte, w_1m0_2, w_1m0_3, w_1m0_4, w_1m0_5, w_1m0_6, w_1m0_14, w_1m0_42] <;> omega))) | (refine OKv.mk ?_; (first | omega | (simp (disch := omega) only [↓i_in, ↓i_isCouple, ↓i_isBridge, ↓i_isTheme, ↓i_isBarge, i_lt, i_le, i_eq, i_clamp, i_upd, i_m1, Int32.toInt_toInt64, Int32.toInt_add, Int32.toInt_sub, Int32.toInt_mul, bm32, Int32.reduceToInt, Int64.reduceToInt, Nat.reduceLT, Nat.reduceEqDiff, reduceIte, w_1m0_2, w_1m0_3, w_1m0_4, w_1m0_5, w_1m0_6, w_1m0_14, w_1m0_42] <;> omega))))) (by first | (refine OKv.out ?_; (first | omega | (simp (disch := omega) only [↓i_in, ↓i_isCouple, ↓i_isBridge, ↓i_isTheme, ↓i_isBarge, i_lt, i_le, i_eq, i_clamp, i_upd, i_m1, Int32.toInt_toInt64, Int32.toInt_add, Int32.toInt_sub, Int32.toInt_mul, bm32, Int32.reduceToInt, Int64.reduceToInt, Nat.reduceLT, Nat.reduceEqDiff, reduceIte, w_1m0_2, w_1m0_3, w_1m0_4, w_1m0_5, w_1m0_6, w_1m0_14, w_1m0_42] <;> omega))) | (refine OKv.mk ?_; (first | omega | (simp (disch := omega) only [↓i_in, ↓i_isCouple, ↓i_isBridge, ↓i_isTheme, ↓i_isBarge, i_lt, i_le, i_eq, i_clamp, i_upd, i_m1, Int32.toInt_toInt64, Int32.toInt_add, Int32.toInt_sub, Int32.toInt_mul, bm32, Int32.reduceToInt, Int64.reduceToInt, Nat.reduceLT, Nat.reduceEqDiff, reduceIte, w_1m0_2, w_1m0_3, w_1m0_4, w_1m0_5, w_1m0_6, w_1m0_14, w_1m0_42] <;> omega))))), (by first | omega | (simp (disch := omega) only [↓i_in, ↓i_isCouple, ↓i_isBridge, ↓i_isTheme, ↓i_isBarge, i_lt, i_le, i_eq, i_clamp, i_upd, i_m1, Int32.toInt_toInt64, Int32.toInt_add, Int32.toInt_sub, Int32.toInt_mul, bm32, Int32.reduceToInt, Int64.reduceToInt, Nat.reduceLT, Nat.reduceEqDiff, reduceIte, w_1m0_2, w_1m0_3, w_1m0_4, w_1m0_5, w_1m0_6, w_1m0_14, w_1m0_42] <;> omega)), (by first | omega | (simp (disch := omega) only [↓i_in, ↓i_isCouple, ↓i_isBridge, ↓i_isTheme, ↓i_isBarge, i_lt, i_le, i_eq, i_clamp, i_upd, i_m1, Int32.toInt_toInt64, Int32.toInt_add, Int32.toInt_sub, Int32.toInt_mul, bm32, Int32.reduceToInt, Int64.reduceToInt, Nat.reduceLT, Nat.reduceEqDiff, reduceIte, w_1m0_2, w_1m0_3, w_1m0_4, w_1m0_5, w_1m0_6, w_1m0_14, w_1m0_42] <;> omega))⟩) _ _ _ _ e
              · rw [if_neg c_11] at e
                try simp (disch := omega) only [↓i_in, ↓i_isCouple, ↓i_isBridge, ↓i_isTheme, ↓i_isBarge, i_lt, i_le, i_eq, i_clamp, i_upd, i_m1, Int32.toInt_toInt64, Int32.toInt_add, Int32.toInt_sub, Int32.toInt_mul, bm32, Int32.reduceToInt, Int64.reduceToInt, Nat.reduceLT, Nat.reduceEqDiff, reduceIte, w_1m0_2, w_1m0_3, w_1m0_4, w_1m0_5, w_1m0_6, w_1m0_14, w_1m0_42] at c_11
                exact ih (w_1l4 + 1) ((f_m_quarrels w_1m0 f10 (f_m_whoIsAt w_1m0 w_1m1 h_ w_1l4) (w_1m1 (((h_ + 12) + (f_m_whoIsAt w_1m0 w_1m1 h_ w_1l4)) : Int32).toNatClampNeg) (w_1m1 (((h_ + 0) + (f_m_whoIsAt w_1m0 w_1m1 h_ w_1l4)) : Int32).toNatClampNeg) (f8 (w_1l4 : Int32).toNatClampNeg)) 34) (f_m_quarrels w_1m0 f10 (f_m_whoIsAt w_1m0 w_1m1 h_ w_1l4) (w_1m1 (((h_ + 12) + (f_m_whoIsAt w_1m0 w_1m1 h_ w_1l4)) : Int32).toNatClampNeg) (w_1m1 (((h_ + 0) + (f_m_whoIsAt w_1m0 w_1m1 h_ w_1l4)) : Int32).toNatClampNeg) (f8 (w_1l4 : Int32).toNatClampNeg)) (upd (upd (upd w_1m1 ((h_ + 19) : Int32).toNatClampNeg ((w_1m1 ((h_ + 19) : Int32).toNatClampNeg) + ((f_m_quarrels w_1m0 f10 (f_m_whoIsAt w_1m0 w_1m1 h_ w_1l4) (w_1m1 (((h_ + 12) + (f_m_whoIsAt w_1m0 w_1m1 h_ w_1l4)) : Int32).toNatClampNeg) (w_1m1 (((h_ + 0) + (f_m_whoIsAt w_1m0 w_1m1 h_ w_1l4)) : Int32).toNatClampNeg) (f8 (w_1l4 : Int32).toNatClampNeg)) 32))) (((h_ + 0) + (f_m_whoIsAt w_1m0 w_1m1 h_ w_1l4)) : Int32).toNatClampNeg ((f_m_quarrels w_1m0 f10 (f_m_whoIsAt w_1m0 w_1m1 h_ w_1l4) (w_1m1 (((h_ + 12) + (f_m_whoIsAt w_1m0 w_1m1 h_ w_1l4)) : Int32).toNatClampNeg) (w_1m1 (((h_ + 0) + (f_m_whoIsAt w_1m0 w_1m1 h_ w_1l4)) : Int32).toNatClampNeg) (f8 (w_1l4 : Int32).toNatClampNeg)) 33)) (((h_ + 27) + v_) : Int32).toNatClampNeg (-1)) (⟨(QG.trans i_1 p_quarrels), (WI_upd (WI_upd (WI_upd i_2 (by first | (refine OKv.out ?_; (first | omega | (simp (disch := omega) only [↓i_in, ↓i_isCouple, ↓i_isBridge, ↓i_isTheme, ↓i_isBarge, i_lt, i_le, i_eq, i_clamp, i_upd, i_m1, Int32.toInt_toInt64, Int32.toInt_add, Int32.toInt_sub, Int32.toInt_mul, bm32, Int32.reduceToInt, Int64.reduceToInt, Nat.reduceLT, Nat.reduceEqDiff, reduceIte, w_1m0_2, w_1m0_3, w_1m0_4, w_1m0_5, w_1m0_6, w_1m0_14, w_1m0_42] <;> omega))) | (refine OKv.mk ?_; (first | omega | (simp (disch := omega) only [↓i_in, ↓i_isCouple, ↓i_isBridge, ↓i_isTheme, ↓i_isBarge, i_lt, i_le, i_eq, i_clamp, i_upd, i_m1, Int32.toInt_toInt64, Int32.toInt_add, Int32.toInt_sub, Int32.toInt_mul, bm32, Int32.reduceToInt, Int64.reduceToInt, Nat.reduceLT, Nat.reduceEqDiff, reduceIte, w_1m0_2, w_1m0_3, w_1m0_4, w_1m0_5, w_1m0_6, w_1m0_14, w_1m0_42] <;> omega))))) (by first | (refine OKv.out ?_; (first | omega | (simp (disch := omega) only [↓i_in, ↓i_isCouple, ↓i_isBridge, ↓i_isTheme, ↓i_isBarge, i_lt, i_le, i_eq, i_clamp, i_upd, i_m1, Int32.toInt_toInt64, Int32.toInt_add, Int32.toInt_sub, Int32.toInt_mul, bm32, Int32.reduceToInt, Int64.reduceToInt, Nat.reduceLT, Nat.reduceEqDiff, reduceIte, w_1m0_2, w_1m0_3, w_1m0_4, w_1m0_5, w_1m0_6, w_1m0_14, w_1m0_42] <;> omega))) | (refine OKv.mk ?_; (first | omega | (simp (disch := omega) only [↓i_in, ↓i_isCouple, ↓i_isBridge, ↓i_isTheme, ↓i_isBarge, i_lt, i_le, i_eq, i_clamp, i_upd, i_m1, Int32.toInt_toInt64, Int32.toInt_add, Int32.toInt_sub, Int32.toInt_mul, bm32, Int32.reduceToInt, Int64.reduceToInt, Nat.reduceLT, Nat.reduceEqDiff, reduceIte, w_1m0_2, w_1m0_3, w_1m0_4, w_1m0_5, w_1m0_6, w_1m0_14, w_1m0_42] <;> omega))))) (by first | (refine OKv.out ?_; (first | omega | (simp (disch := omega) only [↓i_in, ↓i_isCouple, ↓i_isBridge, ↓i_isTheme, ↓i_isBarge, i_lt, i_le, i_eq, i_clamp, i_upd, i_m1, Int32.toInt_toInt64, Int32.toInt_add, Int32.toInt_sub, Int32.toInt_mul, bm32, Int32.reduceToInt, Int64.reduceToInt, Nat.reduceLT, Nat.reduceEqDiff, reduceIte, w_1m0_2, w_1m0_3, w_1m0_4, w_1m0_5, w_1m0_6, w_1m0_14, w_1m0_42] <;> omega))) | (refine OKv.mk ?_; (first | omega | (simp (disch := omega) only [↓i_in, ↓i_isCouple, ↓i_isBridge, ↓i_isTheme, ↓i_isBarge, i_lt, i_le, i_eq, i_clamp, i_upd, i_m1, Int32.toInt_toInt64, Int32.toInt_add, Int32.toInt_sub, Int32.toInt_mul, bm32, Int32.reduceToInt, Int64.reduceToInt, Nat.reduceLT, Nat.reduceEqDiff, reduceIte, w_1m0_2, w_1m0_3, w_1m0_4, w_1m0_5, w_1m0_6, w_1m0_14, w_1m0_42] <;> omega))))), (by first | omega | (simp (disch := omega) only [↓i_in, ↓i_isCouple, ↓i_isBridge, ↓i_isTheme, ↓i_isBarge, i_lt, i_le, i_eq, i_clamp, i_upd, i_m1, Int32.toInt_toInt64, Int32.toInt_add, Int32.toInt_sub, Int32.toInt_mul, bm32, Int32.reduceToInt, Int64.reduceToInt, Nat.reduceLT, Nat.reduceEqDiff, reduceIte, w_1m0_2, w_1m0_3, w_1m0_4, w_1m0_5, w_1m0_6, w_1m0_14, w_1m0_42] <;> omega)), (by first | omega | (simp (disch := omega) only [↓i_in, ↓i_isCouple, ↓i_isBridge, ↓i_isTheme, ↓i_isBarge, i_lt, i_le, i_eq, i_clamp, i_upd, i_m1, Int32.toInt_toInt64, Int32.toInt_add, Int32.toInt_sub, Int32.toInt_mul, bm32, Int32.reduceToInt, Int64.reduceToInt, Nat.reduceLT, Nat.reduceEqDiff, reduceIte, w_1m0_2, w_1m0_3, w_1m0_4, w_1m0_5, w_1m0_6, w_1m0_14, w_1m0_42] <;> omega))⟩) _ _ _ _ e
            · rw [if_neg c_10] at e
              try simp (disch := omega) only [↓i_in, ↓i_isCouple, ↓i_isBridge, ↓i_isTheme, ↓i_isBarge, i_lt, i_le, i_eq, i_clamp, i_upd, i_m1, Int32.toInt_toInt64, Int32.toInt_add, Int32.toInt_sub, Int32.toInt_mul, bm32, Int32.reduceToInt, Int64.reduceToInt, Nat.reduceLT, Nat.reduceEqDiff, reduceIte, w_1m0_2, w_1m0_3, w_1m0_4, w_1m0_5, w_1m0_6, w_1m0_14, w_1m0_42] at c_10
              by_cases c_12 : ((f_m_quarrels w_1m0 f10 (f_m_whoIsAt w_1m0 w_1m1 h_ w_1l4) (w_1m1 (((h_ + 12) + (f_m_whoIsAt w_1m0 w_1m1 h_ w_1l4)) : Int32).toNatClampNeg) (w_1m1 (((h_ + 0) + (f_m_whoIsAt w_1m0 w_1m1 h_ w_1l4)) : Int32).toNatClampNeg) (f8 (w_1l4 : Int32).toNatClampNeg)) 34) = 0
              · rw [if_pos c_12] at e
                try simp (disch := omega) only [↓i_in, ↓i_isCouple, ↓i_isBridge, ↓i_isTheme, ↓i_isBarge, i_lt, i_le, i_eq, i_clamp, i_upd, i_m1, Int32.toInt_toInt64, Int32.toInt_add, Int32.toInt_sub, Int32.toInt_mul, bm32, Int32.reduceToInt, Int64.reduceToInt, Nat.reduceLT, Nat.reduceEqDiff, reduceIte, w_1m0_2, w_1m0_3, w_1m0_4, w_1m0_5, w_1m0_6, w_1m0_14, w_1m0_42] at c_12
                exact ih (w_1l4 + 1) ((f_m_quarrels w_1m0 f10 (f_m_whoIsAt w_1m0 w_1m1 h_ w_1l4) (w_1m1 (((h_ + 12) + (f_m_whoIsAt w_1m0 w_1m1 h_ w_1l4)) : Int32).toNatClampNeg) (w_1m1 (((h_ + 0) + (f_m_whoIsAt w_1m0 w_1m1 h_ w_1l4)) : Int32).toNatClampNeg) (f8 (w_1l4 : Int32).toNatClampNeg)) 34) (f_m_quarrels w_1m0 f10 (f_m_whoIsAt w_1m0 w_1m1 h_ w_1l4) (w_1m1 (((h_ + 12) + (f_m_whoIsAt w_1m0 w_1m1 h_ w_1l4)) : Int32).toNatClampNeg) (w_1m1 (((h_ + 0) + (f_m_whoIsAt w_1m0 w_1m1 h_ w_1l4)) : Int32).toNatClampNeg) (f8 (w_1l4 : Int32).toNatClampNeg)) (upd (upd (upd (upd (upd w_1m1 ((h_ + 19) : Int32).toNatClampNeg ((w_1m1 ((h_ + 19) : Int32).toNatClampNeg) + ((f_m_quarrels w_1m0 f10 (f_m_whoIsAt w_1m0 w_1m1 h_ w_1l4) (w_1m1 (((h_ + 12) + (f_m_whoIsAt w_1m0 w_1m1 h_ w_1l4)) : Int32).toNatClampNeg) (w_1m1 (((h_ + 0) + (f_m_whoIsAt w_1m0 w_1m1 h_ w_1l4)) : Int32).toNatClampNeg) (f8 (w_1l4 : Int32).toNatClampNeg)) 32))) (((h_ + 0) + (f_m_whoIsAt w_1m0 w_1m1 h_ w_1l4)) : Int32).toNatClampNeg ((f_m_quarrels w_1m0 f10 (f_m_whoIsAt w_1m0 w_1m1 h_ w_1l4) (w_1m1 (((h_ + 12) + (f_m_whoIsAt w_1m0 w_1m1 h_ w_1l4)) : Int32).toNatClampNeg) (w_1m1 (((h_ + 0) + (f_m_whoIsAt w_1m0 w_1m1 h_ w_1l4)) : Int32).toNatClampNeg) (f8 (w_1l4 : Int32).toNatClampNeg)) 33)) ((h_ + 18) : Int32).toNatClampNeg (((upd (upd w_1m1 ((h_ + 19) : Int32).toNatClampNeg ((w_1m1 ((h_ + 19) : Int32).toNatClampNeg) + ((f_m_quarrels w_1m0 f10 (f_m_whoIsAt w_1m0 w_1m1 h_ w_1l4) (w_1m1 (((h_ + 12) + (f_m_whoIsAt w_1m0 w_1m1 h_ w_1l4)) : Int32).toNatClampNeg) (w_1m1 (((h_ + 0) + (f_m_whoIsAt w_1m0 w_1m1 h_ w_1l4)) : Int32).toNatClampNeg) (f8 (w_1l4 : Int32).toNatClampNeg)) 32))) (((h_ + 0) + (f_m_whoIsAt w_1m0 w_1m1 h_ w_1l4)) : Int32).toNatClampNeg ((f_m_quarrels w_1m0 f10 (f_m_whoIsAt w_1m0 w_1m1 h_ w_1l4) (w_1m1 (((h_ + 12) + (f_m_whoIsAt w_1m0 w_1m1 h_ w_1l4)) : Int32).toNatClampNeg) (w_1m1 (((h_ + 0) + (f_m_whoIsAt w_1m0 w_1m1 h_ w_1l4)) : Int32).toNatClampNeg) (f8 (w_1l4 : Int32).toNatClampNeg)) 33)) ((h_ + 18) : Int32).toNatClampNeg) ||| (1 <<< ((f_m_whoIsAt w_1m0 w_1m1 h_ w_1l4) &&& 31)))) (((h_ + 6) + (f_m_whoIsAt w_1m0 w_1m1 h_ w_1l4)) : Int32).toNatClampNeg (-1)) (((h_ + 27) + v_) : Int32).toNatClampNeg w_1l4) (⟨(QG.trans i_1 p_quarrels), (WI_upd (WI_upd (WI_upd (WI_upd (WI_upd i_2 (by first | (refine OKv.out ?_; (first | omega | (simp (disch := omega) only [↓i_in, ↓i_isCouple, ↓i_isBridge, ↓i_isTheme, ↓i_isBarge, i_lt, i_le, i_eq, i_clamp, i_upd, i_m1, Int32.toInt_toInt64, Int32.toInt_add, Int32.toInt_sub, Int32.toInt_mul, bm32, Int32.reduceToInt, Int64.reduceToInt, Nat.reduceLT, Nat.reduceEqDiff, reduceIte, w_1m0_2, w_1m0_3, w_1m0_4, w_1m0_5, w_1m0_6, w_1m0_14, w_1m0_42] <;> omega))) | (refine OKv.mk ?_; (first | omega | (simp (disch := omega) only [↓i_in, ↓i_isCouple, ↓i_isBridge, ↓i_isTheme, ↓i_isBarge, i_lt, i_le, i_eq, i_clamp, i_upd, i_m1, Int32.toInt_toInt64, Int32.toInt_add, Int32.toInt_sub, Int32.toInt_mul, bm32, Int32.reduceToInt, Int64.reduceToInt, Nat.reduceLT, Nat.reduceEqDiff, reduceIte, w_1m0_2, w_1m0_3, w_1m0_4, w_1m0_5, w_1m0_6, w_1m0_14, w_1m0_42] <;> omega))))) (by first | (refine OKv.out ?_; (first | omega | (simp (disch := omega) only [↓i_in, ↓i_isCouple, ↓i_isBridge, ↓i_isTheme, ↓i_isBarge, i_lt, i_le, i_eq, i_clamp, i_upd, i_m1, Int32.toInt_toInt64, Int32.toInt_add, Int32.toInt_sub, Int32.toInt_mul, bm32, Int32.reduceToInt, Int64.reduceToInt, Nat.reduceLT, Nat.reduceEqDiff, reduceIte, w_1m0_2, w_1m0_3, w_1m0_4, w_1m0_5, w_1m0_6, w_1m0_14, w_1m0_42] <;> omega))) | (refine OKv.mk ?_; (first | omega | (simp (disch := omega) only [↓i_in, ↓i_isCouple, ↓i_isBridge, ↓i_isTheme, ↓i_isBarge, i_lt, i_le, i_eq, i_clamp, i_upd, i_m1, Int32.toInt_toInt64, Int32.toInt_add, Int32.toInt_sub, Int32.toInt_mul, bm32, Int32.reduceToInt, Int64.reduceToInt, Nat.reduceLT, Nat.reduceEqDiff, reduceIte, w_1m0_2, w_1m0_3, w_1m0_4, w_1m0_5, w_1m0_6, w_1m0_14, w_1m0_42] <;> omega))))) (by first | (refine OKv.out ?_; (first | omega | (simp (disch := omega) only [↓i_in, ↓i_isCouple, ↓i_isBridge, ↓i_isTheme, ↓i_isBarge, i_lt, i_le, i_eq, i_clamp, i_upd, i_m1, Int32.toInt_toInt64, Int32.toInt_add, Int32.toInt_sub, Int32.toInt_mul, bm32, Int32.reduceToInt, Int64.reduceToInt, Nat.reduceLT, Nat.reduceEqDiff, reduceIte, w_1m0_2, w_1m0_3, w_1m0_4, w_1m0_5, w_1m0_6, w_1m0_14, w_1m0_42] <;> omega))) | (refine OKv.mk ?_; (first | omega | (simp (disch := omega) only [↓i_in, ↓i_isCouple, ↓i_isBridge, ↓i_isTheme, ↓i_isBarge, i_lt, i_le, i_eq, i_clamp, i_upd, i_m1, Int32.toInt_toInt64, Int32.toInt_add, Int32.toInt_sub, Int32.toInt_mul, bm32, Int32.reduceToInt, Int64.reduceToInt, Nat.reduceLT, Nat.reduceEqDiff, reduceIte, w_1m0_2, w_1m0_3, w_1m0_4, w_1m0_5, w_1m0_6, w_1m0_14, w_1m0_42] <;> omega))))) (by first | (refine OKv.out ?_; (first | omega | (simp (disch := omega) only [↓i_in, ↓i_isCouple, ↓i_isBridge, ↓i_isTheme, ↓i_isBarge, i_lt, i_le, i_eq, i_clamp, i_upd, i_m1, Int32.toInt_toInt64, Int32.toInt_add, Int32.toInt_sub, Int32.toInt_mul, bm32, Int32.reduceToInt, Int64.reduceToInt, Nat.reduceLT, Nat.reduceEqDiff, reduceIte, w_1m0_2, w_1m0_3, w_1m0_4, w_1m0_5, w_1m0_6, w_1m0_14, w_1m0_42] <;> omega))) | (refine OKv.mk ?_; (first | omega | (simp (disch := omega) only [↓i_in, ↓i_isCouple, ↓i_isBridge, ↓i_isTheme, ↓i_isBarge, i_lt, i_le, i_eq, i_clamp, i_upd, i_m1, Int32.toInt_toInt64, Int32.toInt_add, Int32.toInt_sub, Int32.toInt_mul, bm32, Int32.reduceToInt, Int64.reduceToInt, Nat.reduceLT, Nat.reduceEqDiff, reduceIte, w_1m0_2, w_1m0_3, w_1m0_4, w_1m0_5, w_1m0_6, w_1m0_14, w_1m0_42] <;> omega))))) (by first | (refine OKv.out ?_; (first | omega | (simp (disch := omega) only [↓i_in, ↓i_isCouple, ↓i_isBridge, ↓i_isTheme, ↓i_isBarge, i_lt, i_le, i_eq, i_clamp, i_upd, i_m1, Int32.toInt_toInt64, Int32.toInt_add, Int32.toInt_sub, Int32.toInt_mul, bm32, Int32.reduceToInt, Int64.reduceToInt, Nat.reduceLT, Nat.reduceEqDiff, reduceIte, w_1m0_2, w_1m0_3, w_1m0_4, w_1m0_5, w_1m0_6, w_1m0_14, w_1m0_42] <;> omega))) | (refine OKv.mk ?_; (first | omega | (simp (disch := omega) only [↓i_in, ↓i_isCouple, ↓i_isBridge, ↓i_isTheme, ↓i_isBarge, i_lt, i_le, i_eq, i_clamp, i_upd, i_m1, Int32.toInt_toInt64, Int32.toInt_add, Int32.toInt_sub, Int32.toInt_mul, bm32, Int32.reduceToInt, Int64.reduceToInt, Nat.reduceLT, Nat.reduceEqDiff, reduceIte, w_1m0_2, w_1m0_3, w_1m0_4, w_1m0_5, w_1m0_6, w_1m0_14, w_1m0_42] <;> omega))))), (by first | omega | (simp (disch := omega) only [↓i_in, ↓i_isCouple, ↓i_isBridge, ↓i_isTheme, ↓i_isBarge, i_lt, i_le, i_eq, i_clamp, i_upd, i_m1, Int32.toInt_toInt64, Int32.toInt_add, Int32.toInt_sub, Int32.toInt_mul, bm32, Int32.reduceToInt, Int64.reduceToInt, Nat.reduceLT, Nat.reduceEqDiff, reduceIte, w_1m0_2, w_1m0_3, w_1m0_4, w_1m0_5, w_1m0_6, w_1m0_14, w_1m0_42] <;> omega)), (by first | omega | (simp (disch := omega) only [↓i_in, ↓i_isCouple, ↓i_isBridge, ↓i_isTheme, ↓i_isBarge, i_lt, i_le, i_eq, i_clamp, i_upd, i_m1, Int32.toInt_toInt64, Int32.toInt_add, Int32.toInt_sub, Int32.toInt_mul, bm32, Int32.reduceToInt, Int64.reduceToInt, Nat.reduceLT, Nat.reduceEqDiff, reduceIte, w_1m0_2, w_1m0_3, w_1m0_4, w_1m0_5, w_1m0_6, w_1m0_14, w_1m0_42] <;> omega))⟩) _ _ _ _ e
              · rw [if_neg c_12] at e
                try simp (disch := omega) only [↓i_in, ↓i_isCouple, ↓i_isBridge, ↓i_isTheme, ↓i_isBarge, i_lt, i_le, i_eq, i_clamp, i_upd, i_m1, Int32.toInt_toInt64, Int32.toInt_add, Int32.toInt_sub, Int32.toInt_mul, bm32, Int32.reduceToInt, Int64.reduceToInt, Nat.reduceLT, Nat.reduceEqDiff, reduceIte, w_1m0_2, w_1m0_3, w_1m0_4, w_1m0_5, w_1m0_6, w_1m0_14, w_1m0_42] at c_12
                exact ih (w_1l4 + 1) ((f_m_quarrels w_1m0 f10 (f_m_whoIsAt w_1m0 w_1m1 h_ w_1l4) (w_1m1 (((h_ + 12) + (f_m_whoIsAt w_1m0 w_1m1 h_ w_1l4)) : Int32).toNatClampNeg) (w_1m1 (((h_ + 0) + (f_m_whoIsAt w_1m0 w_1m1 h_ w_1l4)) : Int32).toNatClampNeg) (f8 (w_1l4 : Int32).toNatClampNeg)) 34) (f_m_quarrels w_1m0 f10 (f_m_whoIsAt w_1m0 w_1m1 h_ w_1l4) (w_1m1 (((h_ + 12) + (f_m_whoIsAt w_1m0 w_1m1 h_ w_1l4)) : Int32).toNatClampNeg) (w_1m1 (((h_ + 0) + (f_m_whoIsAt w_1m0 w_1m1 h_ w_1l4)) : Int32).toNatClampNeg) (f8 (w_1l4 : Int32).toNatClampNeg)) (upd (upd (upd (upd (upd w_1m1 ((h_ + 19) : Int32).toNatClampNeg ((w_1m1 ((h_ + 19) : Int32).toNatClampNeg) + ((f_m_quarrels w_1m0 f10 (f_m_whoIsAt w_1m0 w_1m1 h_ w_1l4) (w_1m1 (((h_ + 12) + (f_m_whoIsAt w_1m0 w_1m1 h_ w_1l4)) : Int32).toNatClampNeg) (w_1m1 (((h_ + 0) + (f_m_whoIsAt w_1m0 w_1m1 h_ w_1l4)) : Int32).toNatClampNeg) (f8 (w_1l4 : Int32).toNatClampNeg)) 32))) (((h_ + 0) + (f_m_whoIsAt w_1m0 w_1m1 h_ w_1l4)) : Int32).toNatClampNeg ((f_m_quarrels w_1m0 f10 (f_m_whoIsAt w_1m0 w_1m1 h_ w_1l4) (w_1m1 (((h_ + 12) + (f_m_whoIsAt w_1m0 w_1m1 h_ w_1l4)) : Int32).toNatClampNeg) (w_1m1 (((h_ + 0) + (f_m_whoIsAt w_1m0 w_1m1 h_ w_1l4)) : Int32).toNatClampNeg) (f8 (w_1l4 : Int32).toNatClampNeg)) 33)) ((h_ + 18) : Int32).toNatClampNeg (((upd (upd w_1m1 ((h_ + 19) : Int32).toNatClampNeg ((w_1m1 ((h_ + 19) : Int32).toNatClampNeg) + ((f_m_quarrels w_1m0 f10 (f_m_whoIsAt w_1m0 w_1m1 h_ w_1l4) (w_1m1 (((h_ + 12) + (f_m_whoIsAt w_1m0 w_1m1 h_ w_1l4)) : Int32).toNatClampNeg) (w_1m1 (((h_ + 0) + (f_m_whoIsAt w_1m0 w_1m1 h_ w_1l4)) : Int32).toNatClampNeg) (f8 (w_1l4 : Int32).toNatClampNeg)) 32))) (((h_ + 0) + (f_m_whoIsAt w_1m0 w_1m1 h_ w_1l4)) : Int32).toNatClampNeg ((f_m_quarrels w_1m0 f10 (f_m_whoIsAt w_1m0 w_1m1 h_ w_1l4) (w_1m1 (((h_ + 12) + (f_m_whoIsAt w_1m0 w_1m1 h_ w_1l4)) : Int32).toNatClampNeg) (w_1m1 (((h_ + 0) + (f_m_whoIsAt w_1m0 w_1m1 h_ w_1l4)) : Int32).toNatClampNeg) (f8 (w_1l4 : Int32).toNatClampNeg)) 33)) ((h_ + 18) : Int32).toNatClampNeg) ||| (1 <<< ((f_m_whoIsAt w_1m0 w_1m1 h_ w_1l4) &&& 31)))) (((h_ + 6) + (f_m_whoIsAt w_1m0 w_1m1 h_ w_1l4)) : Int32).toNatClampNeg (-1)) (((h_ + 27) + v_) : Int32).toNatClampNeg (-1)) (⟨(QG.trans i_1 p_quarrels), (WI_upd (WI_upd (WI_upd (WI_upd (WI_upd i_2 (by first | (refine OKv.out ?_; (first | omega | (simp (disch := omega) only [↓i_in, ↓i_isCouple, ↓i_isBridge, ↓i_isTheme, ↓i_isBarge, i_lt, i_le, i_eq, i_clamp, i_upd, i_m1, Int32.toInt_toInt64, Int32.toInt_add, Int32.toInt_sub, Int32.toInt_mul, bm32, Int32.reduceToInt, Int64.reduceToInt, Nat.reduceLT, Nat.reduceEqDiff, reduceIte, w_1m0_2, w_1m0_3, w_1m0_4, w_1m0_5, w_1m0_6, w_1m0_14, w_1m0_42] <;> omega))) | (refine OKv.mk ?_; (first | omega | (simp (disch := omega) only [↓i_in, ↓i_isCouple, ↓i_isBridge, ↓i_isTheme, ↓i_isBarge, i_lt, i_le, i_eq, i_clamp, i_upd, i_m1, Int32.toInt_toInt64, Int32.toInt_add, Int32.toInt_sub, Int32.toInt_mul, bm32, Int32.reduceToInt, Int64.reduceToInt, Nat.reduceLT, Nat.reduceEqDiff, reduceIte, w_1m0_2, w_1m0_3, w_1m0_4, w_1m0_5, w_1m0_6, w_1m0_14, w_1m0_42] <;> omega))))) (by first | (refine OKv.out ?_; (first | omega | (simp (disch := omega) only [↓i_in, ↓i_isCouple, ↓i_isBridge, ↓i_isTheme, ↓i_isBarge, i_lt, i_le, i_eq, i_clamp, i_upd, i_m1, Int32.toInt_toInt64, Int32.toInt_add, Int32.toInt_sub, Int32.toInt_mul, bm32, Int32.reduceToInt, Int64.reduceToInt, Nat.reduceLT, Nat.reduceEqDiff, reduceIte, w_1m0_2, w_1m0_3, w_1m0_4, w_1m0_5, w_1m0_6, w_1m0_14, w_1m0_42] <;> omega))) | (refine OKv.mk ?_; (first | omega | (simp (disch := omega) only [↓i_in, ↓i_isCouple, ↓i_isBridge, ↓i_isTheme, ↓i_isBarge, i_lt, i_le, i_eq, i_clamp, i_upd, i_m1, Int32.toInt_toInt64, Int32.toInt_add, Int32.toInt_sub, Int32.toInt_mul, bm32, Int32.reduceToInt, Int64.reduceToInt, Nat.reduceLT, Nat.reduceEqDiff, reduceIte, w_1m0_2, w_1m0_3, w_1m0_4, w_1m0_5, w_1m0_6, w_1m0_14, w_1m0_42] <;> omega))))) (by first | (refine OKv.out ?_; (first | omega | (simp (disch := omega) only [↓i_in, ↓i_isCouple, ↓i_isBridge, ↓i_isTheme, ↓i_isBarge, i_lt, i_le, i_eq, i_clamp, i_upd, i_m1, Int32.toInt_toInt64, Int32.toInt_add, Int32.toInt_sub, Int32.toInt_mul, bm32, Int32.reduceToInt, Int64.reduceToInt, Nat.reduceLT, Nat.reduceEqDiff, reduceIte, w_1m0_2, w_1m0_3, w_1m0_4, w_1m0_5, w_1m0_6, w_1m0_14, w_1m0_42] <;> omega))) | (refine OKv.mk ?_; (first | omega | (simp (disch := omega) only [↓i_in, ↓i_isCouple, ↓i_isBridge, ↓i_isTheme, ↓i_isBarge, i_lt, i_le, i_eq, i_clamp, i_upd, i_m1, Int32.toInt_toInt64, Int32.toInt_add, Int32.toInt_sub, Int32.toInt_mul, bm32, Int32.reduceToInt, Int64.reduceToInt, Nat.reduceLT, Nat.reduceEqDiff, reduceIte, w_1m0_2, w_1m0_3, w_1m0_4, w_1m0_5, w_1m0_6, w_1m0_14, w_1m0_42] <;> omega))))) (by first | (refine OKv.out ?_; (first | omega | (simp (disch := omega) only [↓i_in, ↓i_isCouple, ↓i_isBridge, ↓i_isTheme, ↓i_isBarge, i_lt, i_le, i_eq, i_clamp, i_upd, i_m1, Int32.toInt_toInt64, Int32.toInt_add, Int32.toInt_sub, Int32.toInt_mul, bm32, Int32.reduceToInt, Int64.reduceToInt, Nat.reduceLT, Nat.reduceEqDiff, reduceIte, w_1m0_2, w_1m0_3, w_1m0_4, w_1m0_5, w_1m0_6, w_1m0_14, w_1m0_42] <;> omega))) | (refine OKv.mk ?_; (first | omega | (simp (disch := omega) only [↓i_in, ↓i_isCouple, ↓i_isBridge, ↓i_isTheme, ↓i_isBarge, i_lt, i_le, i_eq, i_clamp, i_upd, i_m1, Int32.toInt_toInt64, Int32.toInt_add, Int32.toInt_sub, Int32.toInt_mul, bm32, Int32.reduceToInt, Int64.reduceToInt, Nat.reduceLT, Nat.reduceEqDiff, reduceIte, w_1m0_2, w_1m0_3, w_1m0_4, w_1m0_5, w_1m0_6, w_1m0_14, w_1m0_42] <;> omega))))) (by first | (refine OKv.out ?_; (first | omega | (simp (disch := omega) only [↓i_in, ↓i_isCouple, ↓i_isBridge, ↓i_isTheme, ↓i_isBarge, i_lt, i_le, i_eq, i_clamp, i_upd, i_m1, Int32.toInt_toInt64, Int32.toInt_add, Int32.toInt_sub, Int32.toInt_mul, bm32, Int32.reduceToInt, Int64.reduceToInt, Nat.reduceLT, Nat.reduceEqDiff, reduceIte, w_1m0_2, w_1m0_3, w_1m0_4, w_1m0_5, w_1m0_6, w_1m0_14, w_1m0_42] <;> omega))) | (refine OKv.mk ?_; (first | omega | (simp (disch := omega) only [↓i_in, ↓i_isCouple, ↓i_isBridge, ↓i_isTheme, ↓i_isBarge, i_lt, i_le, i_eq, i_clamp, i_upd, i_m1, Int32.toInt_toInt64, Int32.toInt_add, Int32.toInt_sub, Int32.toInt_mul, bm32, Int32.reduceToInt, Int64.reduceToInt, Nat.reduceLT, Nat.reduceEqDiff, reduceIte, w_1m0_2, w_1m0_3, w_1m0_4, w_1m0_5, w_1m0_6, w_1m0_14, w_1m0_42] <;> omega))))), (by first | omega | (simp (disch := omega) only [↓i_in, ↓i_isCouple, ↓i_isBridge, ↓i_isTheme, ↓i_isBarge, i_lt, i_le, i_eq, i_clamp, i_upd, i_m1, Int32.toInt_toInt64, Int32.toInt_add, Int32.toInt_sub, Int32.toInt_mul, bm32, Int32.reduceToInt, Int64.reduceToInt, Nat.reduceLT, Nat.reduceEqDiff, reduceIte, w_1m0_2, w_1m0_3, w_1m0_4, w_1m0_5, w_1m0_6, w_1m0_14, w_1m0_42] <;> omega)), (by first | omega | (simp (disch := omega) only [↓i_in, ↓i_isCouple, ↓i_isBridge, ↓i_isTheme, ↓i_isBarge, i_lt, i_le, i_eq, i_clamp, i_upd, i_m1, Int32.toInt_toInt64, Int32.toInt_add, Int32.toInt_sub, Int32.toInt_mul, bm32, Int32.reduceToInt, Int64.reduceToInt, Nat.reduceLT, Nat.reduceEqDiff, reduceIte, w_1m0_2, w_1m0_3, w_1m0_4, w_1m0_5, w_1m0_6, w_1m0_14, w_1m0_42] <;> omega))⟩) _ _ _ _ e
          · rw [if_neg c_9] at e
            try simp (disch := omega) only [↓i_in, ↓i_isCouple, ↓i_isBridge, ↓i_isTheme, ↓i_isBarge, i_lt, i_le, i_eq, i_clamp, i_upd, i_m1, Int32.toInt_toInt64, Int32.toInt_add, Int32.toInt_sub, Int32.toInt_mul, bm32, Int32.reduceToInt, Int64.reduceToInt, Nat.reduceLT, Nat.reduceEqDiff, reduceIte, w_1m0_2, w_1m0_3, w_1m0_4, w_1m0_5, w_1m0_6, w_1m0_14, w_1m0_42] at c_9
            by_cases c_13 : ((f_m_quarrels w_1m0 f10 (f_m_whoIsAt w_1m0 w_1m1 h_ w_1l4) (w_1m1 (((h_ + 12) + (f_m_whoIsAt w_1m0 w_1m1 h_ w_1l4)) : Int32).toNatClampNeg) (w_1m1 (((h_ + 0) + (f_m_whoIsAt w_1m0 w_1m1 h_ w_1l4)) : Int32).toNatClampNeg) (f8 (w_1l4 : Int32).toNatClampNeg)) 34) = 0
            · rw [if_pos c_13] at e
              try simp (disch := omega) only [↓i_in, ↓i_isCouple, ↓i_isBridge, ↓i_isTheme, ↓i_isBarge, i_lt, i_le, i_eq, i_clamp, i_upd, i_m1, Int32.toInt_toInt64, Int32.toInt_add, Int32.toInt_sub, Int32.toInt_mul, bm32, Int32.reduceToInt, Int64.reduceToInt, Nat.reduceLT, Nat.reduceEqDiff, reduceIte, w_1m0_2, w_1m0_3, w_1m0_4, w_1m0_5, w_1m0_6, w_1m0_14, w_1m0_42] at c_13
              exact ih (w_1l4 + 1) ((f_m_quarrels w_1m0 f10 (f_m_whoIsAt w_1m0 w_1m1 h_ w_1l4) (w_1m1 (((h_ + 12) + (f_m_whoIsAt w_1m0 w_1m1 h_ w_1l4)) : Int32).toNatClampNeg) (w_1m1 (((h_ + 0) + (f_m_whoIsAt w_1m0 w_1m1 h_ w_1l4)) : Int32).toNatClampNeg) (f8 (w_1l4 : Int32).toNatClampNeg)) 34) (f_m_quarrels w_1m0 f10 (f_m_whoIsAt w_1m0 w_1m1 h_ w_1l4) (w_1m1 (((h_ + 12) + (f_m_whoIsAt w_1m0 w_1m1 h_ w_1l4)) : Int32).toNatClampNeg) (w_1m1 (((h_ + 0) + (f_m_whoIsAt w_1m0 w_1m1 h_ w_1l4)) : Int32).toNatClampNeg) (f8 (w_1l4 : Int32).toNatClampNeg)) (upd (upd (upd w_1m1 ((h_ + 19) : Int32).toNatClampNeg ((w_1m1 ((h_ + 19) : Int32).toNatClampNeg) + ((f_m_quarrels w_1m0 f10 (f_m_whoIsAt w_1m0 w_1m1 h_ w_1l4) (w_1m1 (((h_ + 12) + (f_m_whoIsAt w_1m0 w_1m1 h_ w_1l4)) : Int32).toNatClampNeg) (w_1m1 (((h_ + 0) + (f_m_whoIsAt w_1m0 w_1m1 h_ w_1l4)) : Int32).toNatClampNeg) (f8 (w_1l4 : Int32).toNatClampNeg)) 32))) (((h_ + 0) + (f_m_whoIsAt w_1m0 w_1m1 h_ w_1l4)) : Int32).toNatClampNeg ((f_m_quarrels w_1m0 f10 (f_m_whoIsAt w_1m0 w_1m1 h_ w_1l4) (w_1m1 (((h_ + 12) + (f_m_whoIsAt w_1m0 w_1m1 h_ w_1l4)) : Int32).toNatClampNeg) (w_1m1 (((h_ + 0) + (f_m_whoIsAt w_1m0 w_1m1 h_ w_1l4)) : Int32).toNatClampNeg) (f8 (w_1l4 : Int32).toNatClampNeg)) 33)) (((h_ + 27) + v_) : Int32).toNatClampNeg w_1l4) (⟨(QG.trans i_1 p_quarrels), (WI_upd (WI_upd (WI_upd i_2 (by first | (refine OKv.out ?_; (first | omega | (simp (disch := omega) only [↓i_in, ↓i_isCouple, ↓i_isBridge, ↓i_isTheme, ↓i_isBarge, i_lt, i_le, i_eq, i_clamp, i_upd, i_m1, Int32.toInt_toInt64, Int32.toInt_add, Int32.toInt_sub, Int32.toInt_mul, bm32, Int32.reduceToInt, Int64.reduceToInt, Nat.reduceLT, Nat.reduceEqDiff, reduceIte, w_1m0_2, w_1m0_3, w_1m0_4, w_1m0_5, w_1m0_6, w_1m0_14, w_1m0_42] <;> omega))) | (refine OKv.mk ?_; (first | omega | (simp (disch := omega) only [↓i_in, ↓i_isCouple, ↓i_isBridge, ↓i_isTheme, ↓i_isBarge, i_lt, i_le, i_eq, i_clamp, i_upd, i_m1, Int32.toInt_toInt64, Int32.toInt_add, Int32.toInt_sub, Int32.toInt_mul, bm32, Int32.reduceToInt, Int64.reduceToInt, Nat.reduceLT, Nat.reduceEqDiff, reduceIte, w_1m0_2, w_1m0_3, w_1m0_4, w_1m0_5, w_1m0_6, w_1m0_14, w_1m0_42] <;> omega))))) (by first | (refine OKv.out ?_; (first | omega | (simp (disch := omega) only [↓i_in, ↓i_isCouple, ↓i_isBridge, ↓i_isTheme, ↓i_isBarge, i_lt, i_le, i_eq, i_clamp, i_upd, i_m1, Int32.toInt_toInt64, Int32.toInt_add, Int32.toInt_sub, Int32.toInt_mul, bm32, Int32.reduceToInt, Int64.reduceToInt, Nat.reduceLT, Nat.reduceEqDiff, reduceIte, w_1m0_2, w_1m0_3, w_1m0_4, w_1m0_5, w_1m0_6, w_1m0_14, w_1m0_42] <;> omega))) | (refine OKv.mk ?_; (first | omega | (simp (disch := omega) only [↓i_in, ↓i_isCouple, ↓i_isBridge, ↓i_isTheme, ↓i_isBarge, i_lt, i_le, i_eq, i_clamp, i_upd, i_m1, Int32.toInt_toInt64, Int32.toInt_add, Int32.toInt_sub, Int32.toInt_mul, bm32, Int32.reduceToInt, Int64.reduceToInt, Nat.reduceLT, Nat.reduceEqDiff, reduceIte, w_1m0_2, w_1m0_3, w_1m0_4, w_1m0_5, w_1m0_6, w_1m0_14, w_1m0_42] <;> omega))))) (by first | (refine OKv.out ?_; (first | omega | (simp (disch := omega) only [↓i_in, ↓i_isCouple, ↓i_isBridge, ↓i_isTheme, ↓i_isBarge, i_lt, i_le, i_eq, i_clamp, i_upd, i_m1, Int32.toInt_toInt64, Int32.toInt_add, Int32.toInt_sub, Int32.toInt_mul, bm32, Int32.reduceToInt, Int64.reduceToInt, Nat.reduceLT, Nat.reduceEqDiff, reduceIte, w_1m0_2, w_1m0_3, w_1m0_4, w_1m0_5, w_1m0_6, w_1m0_14, w_1m0_42] <;> omega))) | (refine OKv.mk ?_; (first | omega | (simp (disch := omega) only [↓i_in, ↓i_isCouple, ↓i_isBridge, ↓i_isTheme, ↓i_isBarge, i_lt, i_le, i_eq, i_clamp, i_upd, i_m1, Int32.toInt_toInt64, Int32.toInt_add, Int32.toInt_sub, Int32.toInt_mul, bm32, Int32.reduceToInt, Int64.reduceToInt, Nat.reduceLT, Nat.reduceEqDiff, reduceIte, w_1m0_2, w_1m0_3, w_1m0_4, w_1m0_5, w_1m0_6, w_1m0_14, w_1m0_42] <;> omega))))), (by first | omega | (simp (disch := omega) only [↓i_in, ↓i_isCouple, ↓i_isBridge, ↓i_isTheme, ↓i_isBarge, i_lt, i_le, i_eq, i_clamp, i_upd, i_m1, Int32.toInt_toInt64, Int32.toInt_add, Int32.toInt_sub, Int32.toInt_mul, bm32, Int32.reduceToInt, Int64.reduceToInt, Nat.reduceLT, Nat.reduceEqDiff, reduceIte, w_1m0_2, w_1m0_3, w_1m0_4, w_1m0_5, w_1m0_6, w_1m0_14, w_1m0_42] <;> omega)), (by first | omega | (simp (disch := omega) only [↓i_in, ↓i_isCouple, ↓i_isBridge, ↓i_isTheme, ↓i_isBarge, i_lt, i_le, i_eq, i_clamp, i_upd, i_m1, Int32.toInt_toInt64, Int32.toInt_add, Int32.toInt_sub, Int32.toInt_mul, bm32, Int32.reduceToInt, Int64.reduceToInt, Nat.reduceLT, Nat.reduceEqDiff, reduceIte, w_1m0_2, w_1m0_3, w_1m0_4, w_1m0_5, w_1m0_6, w_1m0_14, w_1m0_42] <;> omega))⟩) _ _ _ _ e
            · rw [if_neg c_13] at e
              try simp (disch := omega) only [↓i_in, ↓i_isCouple, ↓i_isBridge, ↓i_isTheme, ↓i_isBarge, i_lt, i_le, i_eq, i_clamp, i_upd, i_m1, Int32.toInt_toInt64, Int32.toInt_add, Int32.toInt_sub, Int32.toInt_mul, bm32, Int32.reduceToInt, Int64.reduceToInt, Nat.reduceLT, Nat.reduceEqDiff, reduceIte, w_1m0_2, w_1m0_3, w_1m0_4, w_1m0_5, w_1m0_6, w_1m0_14, w_1m0_42] at c_13
              exact ih (w_1l4 + 1) ((f_m_quarrels w_1m0 f10 (f_m_whoIsAt w_1m0 w_1m1 h_ w_1l4) (w_1m1 (((h_ + 12) + (f_m_whoIsAt w_1m0 w_1m1 h_ w_1l4)) : Int32).toNatClampNeg) (w_1m1 (((h_ + 0) + (f_m_whoIsAt w_1m0 w_1m1 h_ w_1l4)) : Int32).toNatClampNeg) (f8 (w_1l4 : Int32).toNatClampNeg)) 34) (f_m_quarrels w_1m0 f10 (f_m_whoIsAt w_1m0 w_1m1 h_ w_1l4) (w_1m1 (((h_ + 12) + (f_m_whoIsAt w_1m0 w_1m1 h_ w_1l4)) : Int32).toNatClampNeg) (w_1m1 (((h_ + 0) + (f_m_whoIsAt w_1m0 w_1m1 h_ w_1l4)) : Int32).toNatClampNeg) (f8 (w_1l4 : Int32).toNatClampNeg)) (upd (upd (upd w_1m1 ((h_ + 19) : Int32).toNatClampNeg ((w_1m1 ((h_ + 19) : Int32).toNatClampNeg) + ((f_m_quarrels w_1m0 f10 (f_m_whoIsAt w_1m0 w_1m1 h_ w_1l4) (w_1m1 (((h_ + 12) + (f_m_whoIsAt w_1m0 w_1m1 h_ w_1l4)) : Int32).toNatClampNeg) (w_1m1 (((h_ + 0) + (f_m_whoIsAt w_1m0 w_1m1 h_ w_1l4)) : Int32).toNatClampNeg) (f8 (w_1l4 : Int32).toNatClampNeg)) 32))) (((h_ + 0) + (f_m_whoIsAt w_1m0 w_1m1 h_ w_1l4)) : Int32).toNatClampNeg ((f_m_quarrels w_1m0 f10 (f_m_whoIsAt w_1m0 w_1m1 h_ w_1l4) (w_1m1 (((h_ + 12) + (f_m_whoIsAt w_1m0 w_1m1 h_ w_1l4)) : Int32).toNatClampNeg) (w_1m1 (((h_ + 0) + (f_m_whoIsAt w_1m0 w_1m1 h_ w_1l4)) : Int32).toNatClampNeg) (f8 (w_1l4 : Int32).toNatClampNeg)) 33)) (((h_ + 27) + v_) : Int32).toNatClampNeg (-1)) (⟨(QG.trans i_1 p_quarrels), (WI_upd (WI_upd (WI_upd i_2 (by first | (refine OKv.out ?_; (first | omega | (simp (disch := omega) only [↓i_in, ↓i_isCouple, ↓i_isBridge, ↓i_isTheme, ↓i_isBarge, i_lt, i_le, i_eq, i_clamp, i_upd, i_m1, Int32.toInt_toInt64, Int32.toInt_add, Int32.toInt_sub, Int32.toInt_mul, bm32, Int32.reduceToInt, Int64.reduceToInt, Nat.reduceLT, Nat.reduceEqDiff, reduceIte, w_1m0_2, w_1m0_3, w_1m0_4, w_1m0_5, w_1m0_6, w_1m0_14, w_1m0_42] <;> omega))) | (refine OKv.mk ?_; (first | omega | (simp (disch := omega) only [↓i_in, ↓i_isCouple, ↓i_isBridge, ↓i_isTheme, ↓i_isBarge, i_lt, i_le, i_eq, i_clamp, i_upd, i_m1, Int32.toInt_toInt64, Int32.toInt_add, Int32.toInt_sub, Int32.toInt_mul, bm32, Int32.reduceToInt, Int64.reduceToInt, Nat.reduceLT, Nat.reduceEqDiff, reduceIte, w_1m0_2, w_1m0_3, w_1m0_4, w_1m0_5, w_1m0_6, w_1m0_14, w_1m0_42] <;> omega))))) (by first | (refine OKv.out ?_; (first | omega | (simp (disch := omega) only [↓i_in, ↓i_isCouple, ↓i_isBridge, ↓i_isTheme, ↓i_isBarge, i_lt, i_le, i_eq, i_clamp, i_upd, i_m1, Int32.toInt_toInt64, Int32.toInt_add, Int32.toInt_sub, Int32.toInt_mul, bm32, Int32.reduceToInt, Int64.reduceToInt, Nat.reduceLT, Nat.reduceEqDiff, reduceIte, w_1m0_2, w_1m0_3, w_1m0_4, w_1m0_5, w_1m0_6, w_1m0_14, w_1m0_42] <;> omega))) | (refine OKv.mk ?_; (first | omega | (simp (disch := omega) only [↓i_in, ↓i_isCouple, ↓i_isBridge, ↓i_isTheme, ↓i_isBarge, i_lt, i_le, i_eq, i_clamp, i_upd, i_m1, Int32.toInt_toInt64, Int32.toInt_add, Int32.toInt_sub, Int32.toInt_mul, bm32, Int32.reduceToInt, Int64.reduceToInt, Nat.reduceLT, Nat.reduceEqDiff, reduceIte, w_1m0_2, w_1m0_3, w_1m0_4, w_1m0_5, w_1m0_6, w_1m0_14, w_1m0_42] <;> omega))))) (by first | (refine OKv.out ?_; (first | omega | (simp (disch := omega) only [↓i_in, ↓i_isCouple, ↓i_isBridge, ↓i_isTheme, ↓i_isBarge, i_lt, i_le, i_eq, i_clamp, i_upd, i_m1, Int32.toInt_toInt64, Int32.toInt_add, Int32.toInt_sub, Int32.toInt_mul, bm32, Int32.reduceToInt, Int64.reduceToInt, Nat.reduceLT, Nat.reduceEqDiff, reduceIte, w_1m0_2, w_1m0_3, w_1m0_4, w_1m0_5, w_1m0_6, w_1m0_14, w_1m0_42] <;> omega))) | (refine OKv.mk ?_; (first | omega | (simp (disch := omega) only [↓i_in, ↓i_isCouple, ↓i_isBridge, ↓i_isTheme, ↓i_isBarge, i_lt, i_le, i_eq, i_clamp, i_upd, i_m1, Int32.toInt_toInt64, Int32.toInt_add, Int32.toInt_sub, Int32.toInt_mul, bm32, Int32.reduceToInt, Int64.reduceToInt, Nat.reduceLT, Nat.reduceEqDiff, reduceIte, w_1m0_2, w_1m0_3, w_1m0_4, w_1m0_5, w_1m0_6, w_1m0_14, w_1m0_42] <;> omega))))), (by first | omega | (simp (disch := omega) only [↓i_in, ↓i_isCouple, ↓i_isBridge, ↓i_isTheme, ↓i_isBarge, i_lt, i_le, i_eq, i_clamp, i_upd, i_m1, Int32.toInt_toInt64, Int32.toInt_add, Int32.toInt_sub, Int32.toInt_mul, bm32, Int32.reduceToInt, Int64.reduceToInt, Nat.reduceLT, Nat.reduceEqDiff, reduceIte, w_1m0_2, w_1m0_3, w_1m0_4, w_1m0_5, w_1m0_6, w_1m0_14, w_1m0_42] <;> omega)), (by first | omega | (simp (disch := omega) only [↓i_in, ↓i_isCouple, ↓i_isBridge, ↓i_isTheme, ↓i_isBarge, i_lt, i_le, i_eq, i_clamp, i_upd, i_m1, Int32.toInt_toInt64, Int32.toInt_add, Int32.toInt_sub, Int32.toInt_mul, bm32, Int32.reduceToInt, Int64.reduceToInt, Nat.reduceLT, Nat.reduceEqDiff, reduceIte, w_1m0_2, w_1m0_3, w_1m0_4, w_1m0_5, w_1m0_6, w_1m0_14, w_1m0_42] <;> omega))⟩) _ _ _ _ e
set_option maxHeartbeats 4000000 in
theorem s_passes {G : Nat → Int32} {f0 : Nat → Int32} {f10 : Nat → Int32} {f8 : Nat → Int32} {f11 : Nat → Int32} {f12 : Nat → Int32} {h_ : Int32} {v_ : Int32} (h_0 : GI G) (h_1 : RI f11) (h_2 : WI f0) (h_3 : 0 ≤ h_.toInt) (h_4 : h_.toInt ≤ 1260) (h_5 : h_.toInt % 42 = 0) (h_6 : 0 ≤ v_.toInt) (h_7 : v_.toInt < 7) : S_m_passes G f0 f10 f8 f11 f12 h_ v_ := by
  unfold S_m_passes
  have h_0_g := h_0
  obtain ⟨⟨h_0_2a, h_0_2b⟩, ⟨h_0_3a, h_0_3b⟩, ⟨h_0_4a, h_0_4b⟩, ⟨h_0_5a, h_0_5b⟩, ⟨h_0_6a, h_0_6b⟩, ⟨h_0_14a, h_0_14b⟩, ⟨h_0_42a, h_0_42b⟩⟩ := h_0_g
  refine sl_passes_5 h_0 h_1 (by first | omega | (simp (disch := omega) only [↓i_in, ↓i_isCouple, ↓i_isBridge, ↓i_isTheme, ↓i_isBarge, i_lt, i_le, i_eq, i_clamp, i_upd, i_m1, Int32.toInt_toInt64, Int32.toInt_add, Int32.toInt_sub, Int32.toInt_mul, bm32, Int32.reduceToInt, Int64.reduceToInt, Nat.reduceLT, Nat.reduceEqDiff, reduceIte] <;> omega)) (by first | omega | (simp (disch := omega) only [↓i_in, ↓i_isCouple, ↓i_isBridge, ↓i_isTheme, ↓i_isBarge, i_lt, i_le, i_eq, i_clamp, i_upd, i_m1, Int32.toInt_toInt64, Int32.toInt_add, Int32.toInt_sub, Int32.toInt_mul, bm32, Int32.reduceToInt, Int64.reduceToInt, Nat.reduceLT, Nat.reduceEqDiff, reduceIte] <;> omega)) (by first | omega | (simp (disch := omega) only [↓i_in, ↓i_isCouple, ↓i_isBridge, ↓i_isTheme, ↓i_isBarge, i_lt, i_le, i_eq, i_clamp, i_upd, i_m1, Int32.toInt_toInt64, Int32.toInt_add, Int32.toInt_sub, Int32.toInt_mul, bm32, Int32.reduceToInt, Int64.reduceToInt, Nat.reduceLT, Nat.reduceEqDiff, reduceIte] <;> omega)) (by first | omega | (simp (disch := omega) only [↓i_in, ↓i_isCouple, ↓i_isBridge, ↓i_isTheme, ↓i_isBarge, i_lt, i_le, i_eq, i_clamp, i_upd, i_m1, Int32.toInt_toInt64, Int32.toInt_add, Int32.toInt_sub, Int32.toInt_mul, bm32, Int32.reduceToInt, Int64.reduceToInt, Nat.reduceLT, Nat.reduceEqDiff, reduceIte] <;> omega)) (by first | omega | (simp (disch := omega) only [↓i_in, ↓i_isCouple, ↓i_isBridge, ↓i_isTheme, ↓i_isBarge, i_lt, i_le, i_eq, i_clamp, i_upd, i_m1, Int32.toInt_toInt64, Int32.toInt_add, Int32.toInt_sub, Int32.toInt_mul, bm32, Int32.reduceToInt, Int64.reduceToInt, Nat.reduceLT, Nat.reduceEqDiff, reduceIte] <;> omega)) ?_ 10 0 1 G f0 (⟨(QG.refl _), h_2, (by first | omega | (simp (disch := omega) only [↓i_in, ↓i_isCouple, ↓i_isBridge, ↓i_isTheme, ↓i_isBarge, i_lt, i_le, i_eq, i_clamp, i_upd, i_m1, Int32.toInt_toInt64, Int32.toInt_add, Int32.toInt_sub, Int32.toInt_mul, bm32, Int32.reduceToInt, Int64.reduceToInt, Nat.reduceLT, Nat.reduceEqDiff, reduceIte] <;> omega)), (by first | omega | (simp (disch := omega) only [↓i_in, ↓i_isCouple, ↓i_isBridge, ↓i_isTheme, ↓i_isBarge, i_lt, i_le, i_eq, i_clamp, i_upd, i_m1, Int32.toInt_toInt64, Int32.toInt_add, Int32.toInt_sub, Int32.toInt_mul, bm32, Int32.reduceToInt, Int64.reduceToInt, Nat.reduceLT, Nat.reduceEqDiff, reduceIte] <;> omega))⟩) (by first | omega | (simp (disch := omega) only [↓i_in, ↓i_isCouple, ↓i_isBridge, ↓i_isTheme, ↓i_isBarge, i_lt, i_le, i_eq, i_clamp, i_upd, i_m1, Int32.toInt_toInt64, Int32.toInt_add, Int32.toInt_sub, Int32.toInt_mul, bm32, Int32.reduceToInt, Int64.reduceToInt, Nat.reduceLT, Nat.reduceEqDiff, reduceIte] <;> omega))
  intro w_1l4 w_1l3 w_1m0 w_1m1 i_1
  obtain ⟨i_2, i_3, i_4, i_5⟩ := i_1
  obtain ⟨w_1m0_2, w_1m0_3, w_1m0_4, w_1m0_5, w_1m0_6, w_1m0_14, w_1m0_42⟩ := QGs i_2
  refine ⟨fun c_6 => ?_, fun c_6 => ?_⟩
  · skip
    try simp (disch := omega) only [↓i_in, ↓i_isCouple, ↓i_isBridge, ↓i_isTheme, ↓i_isBarge, i_lt, i_le, i_eq, i_clamp, i_upd, i_m1, Int32.toInt_toInt64, Int32.toInt_add, Int32.toInt_sub, Int32.toInt_mul, bm32, Int32.reduceToInt, Int64.reduceToInt, Nat.reduceLT, Nat.reduceEqDiff, reduceIte, w_1m0_2, w_1m0_3, w_1m0_4, w_1m0_5, w_1m0_6, w_1m0_14, w_1m0_42] at c_6
    refine ⟨vp_in_iff.mpr (by first | omega | (simp (disch := omega) only [↓i_in, ↓i_isCouple, ↓i_isBridge, ↓i_isTheme, ↓i_isBarge, i_lt, i_le, i_eq, i_clamp, i_upd, i_m1, Int32.toInt_toInt64, Int32.toInt_add, Int32.toInt_sub, Int32.toInt_mul, bm32, Int32.reduceToInt, Int64.reduceToInt, Nat.reduceLT, Nat.reduceEqDiff, reduceIte, w_1m0_2, w_1m0_3, w_1m0_4, w_1m0_5, w_1m0_6, w_1m0_14, w_1m0_42] <;> omega)), ?_⟩
    refine ⟨fun c_7 => ?_, fun c_7 => ?_⟩
    · skip
      try simp (disch := omega) only [↓i_in, ↓i_isCouple, ↓i_isBridge, ↓i_isTheme, ↓i_isBarge, i_lt, i_le, i_eq, i_clamp, i_upd, i_m1, Int32.toInt_toInt64, Int32.toInt_add, Int32.toInt_sub, Int32.toInt_mul, bm32, Int32.reduceToInt, Int64.reduceToInt, Nat.reduceLT, Nat.reduceEqDiff, reduceIte, w_1m0_2, w_1m0_3, w_1m0_4, w_1m0_5, w_1m0_6, w_1m0_14, w_1m0_42] at c_7
      refine ⟨vp_in_iff.mpr (by first | omega | (simp (disch := omega) only [↓i_in, ↓i_isCouple, ↓i_isBridge, ↓i_isTheme, ↓i_isBarge, i_lt, i_le, i_eq, i_clamp, i_upd, i_m1, Int32.toInt_toInt64, Int32.toInt_add, Int32.toInt_sub, Int32.toInt_mul, bm32, Int32.reduceToInt, Int64.reduceToInt, Nat.reduceLT, Nat.reduceEqDiff, reduceIte, w_1m0_2, w_1m0_3, w_1m0_4, w_1m0_5, w_1m0_6, w_1m0_14, w_1m0_42] <;> omega)), ?_⟩
      exact trivial
    · skip
      try simp (disch := omega) only [↓i_in, ↓i_isCouple, ↓i_isBridge, ↓i_isTheme, ↓i_isBarge, i_lt, i_le, i_eq, i_clamp, i_upd, i_m1, Int32.toInt_toInt64, Int32.toInt_add, Int32.toInt_sub, Int32.toInt_mul, bm32, Int32.reduceToInt, Int64.reduceToInt, Nat.reduceLT, Nat.reduceEqDiff, reduceIte, w_1m0_2, w_1m0_3, w_1m0_4, w_1m0_5, w_1m0_6, w_1m0_14, w_1m0_42] at c_7
      refine ⟨vp_in_iff.mpr (by first | omega | (simp (disch := omega) only [↓i_in, ↓i_isCouple, ↓i_isBridge, ↓i_isTheme, ↓i_isBarge, i_lt, i_le, i_eq, i_clamp, i_upd, i_m1, Int32.toInt_toInt64, Int32.toInt_add, Int32.toInt_sub, Int32.toInt_mul, bm32, Int32.reduceToInt, Int64.reduceToInt, Nat.reduceLT, Nat.reduceEqDiff, reduceIte, w_1m0_2, w_1m0_3, w_1m0_4, w_1m0_5, w_1m0_6, w_1m0_14, w_1m0_42] <;> omega)), ?_⟩
      refine ⟨vp_in_iff.mpr (by first | omega | (simp (disch := omega) only [↓i_in, ↓i_isCouple, ↓i_isBridge, ↓i_isTheme, ↓i_isBarge, i_lt, i_le, i_eq, i_clamp, i_upd, i_m1, Int32.toInt_toInt64, Int32.toInt_add, Int32.toInt_sub, Int32.toInt_mul, bm32, Int32.reduceToInt, Int64.reduceToInt, Nat.reduceLT, Nat.reduceEqDiff, reduceIte, w_1m0_2, w_1m0_3, w_1m0_4, w_1m0_5, w_1m0_6, w_1m0_14, w_1m0_42] <;> omega)), ?_⟩
      exact trivial
  · skip
    try simp (disch := omega) only [↓i_in, ↓i_isCouple, ↓i_isBridge, ↓i_isTheme, ↓i_isBarge, i_lt, i_le, i_eq, i_clamp, i_upd, i_m1, Int32.toInt_toInt64, Int32.toInt_add, Int32.toInt_sub, Int32.toInt_mul, bm32, Int32.reduceToInt, Int64.reduceToInt, Nat.reduceLT, Nat.reduceEqDiff, reduceIte, w_1m0_2, w_1m0_3, w_1m0_4, w_1m0_5, w_1m0_6, w_1m0_14, w_1m0_42] at c_6
    refine ⟨vp_in_iff.mpr (by first | omega | (simp (disch := omega) only [↓i_in, ↓i_isCouple, ↓i_isBridge, ↓i_isTheme, ↓i_isBarge, i_lt, i_le, i_eq, i_clamp, i_upd, i_m1, Int32.toInt_toInt64, Int32.toInt_add, Int32.toInt_sub, Int32.toInt_mul, bm32, Int32.reduceToInt, Int64.reduceToInt, Nat.reduceLT, Nat.reduceEqDiff, reduceIte, w_1m0_2, w_1m0_3, w_1m0_4, w_1m0_5, w_1m0_6, w_1m0_14, w_1m0_42] <;> omega)), ?_⟩
    refine ⟨vp_in_iff.mpr (by first | omega | (simp (disch := omega) only [↓i_in, ↓i_isCouple, ↓i_isBridge, ↓i_isTheme, ↓i_isBarge, i_lt, i_le, i_eq, i_clamp, i_upd, i_m1, Int32.toInt_toInt64, Int32.toInt_add, Int32.toInt_sub, Int32.toInt_mul, bm32, Int32.reduceToInt, Int64.reduceToInt, Nat.reduceLT, Nat.reduceEqDiff, reduceIte, w_1m0_2, w_1m0_3, w_1m0_4, w_1m0_5, w_1m0_6, w_1m0_14, w_1m0_42] <;> omega)), ?_⟩
    refine ⟨fun c_8 => ?_, fun c_8 => ?_⟩
    · skip
      try simp (disch := omega) only [↓i_in, ↓i_isCouple, ↓i_isBridge, ↓i_isTheme, ↓i_isBarge, i_lt, i_le, i_eq, i_clamp, i_upd, i_m1, Int32.toInt_toInt64, Int32.toInt_add, Int32.toInt_sub, Int32.toInt_mul, bm32, Int32.reduceToInt, Int64.reduceToInt, Nat.reduceLT, Nat.reduceEqDiff, reduceIte, w_1m0_2, w_1m0_3, w_1m0_4, w_1m0_5, w_1m0_6, w_1m0_14, w_1m0_42] at c_8
      refine ⟨vp_in_iff.mpr (by first | omega | (simp (disch := omega) only [↓i_in, ↓i_isCouple, ↓i_isBridge, ↓i_isTheme, ↓i_isBarge, i_lt, i_le, i_eq, i_clamp, i_upd, i_m1, Int32.toInt_toInt64, Int32.toInt_add, Int32.toInt_sub, Int32.toInt_mul, bm32, Int32.reduceToInt, Int64.reduceToInt, Nat.reduceLT, Nat.reduceEqDiff, reduceIte, w_1m0_2, w_1m0_3, w_1m0_4, w_1m0_5, w_1m0_6, w_1m0_14, w_1m0_42] <;> omega)), ?_⟩
      refine ⟨fun c_9 => ?_, fun c_9 => ?_⟩
      · skip
        try simp (disch := omega) only [↓i_in, ↓i_isCouple, ↓i_isBridge, ↓i_isTheme, ↓i_isBarge, i_lt, i_le, i_eq, i_clamp, i_upd, i_m1, Int32.toInt_toInt64, Int32.toInt_add, Int32.toInt_sub, Int32.toInt_mul, bm32, Int32.reduceToInt, Int64.reduceToInt, Nat.reduceLT, Nat.reduceEqDiff, reduceIte, w_1m0_2, w_1m0_3, w_1m0_4, w_1m0_5, w_1m0_6, w_1m0_14, w_1m0_42] at c_9
        refine ⟨vp_in_iff.mpr (by first | omega | (simp (disch := omega) only [↓i_in, ↓i_isCouple, ↓i_isBridge, ↓i_isTheme, ↓i_isBarge, i_lt, i_le, i_eq, i_clamp, i_upd, i_m1, Int32.toInt_toInt64, Int32.toInt_add, Int32.toInt_sub, Int32.toInt_mul, bm32, Int32.reduceToInt, Int64.reduceToInt, Nat.reduceLT, Nat.reduceEqDiff, reduceIte, w_1m0_2, w_1m0_3, w_1m0_4, w_1m0_5, w_1m0_6, w_1m0_14, w_1m0_42] <;> omega)), ?_⟩
        exact trivial
      · skip
        try simp (disch := omega) only [↓i_in, ↓i_isCouple, ↓i_isBridge, ↓i_isTheme, ↓i_isBarge, i_lt, i_le, i_eq, i_clamp, i_upd, i_m1, Int32.toInt_toInt64, Int32.toInt_add, Int32.toInt_sub, Int32.toInt_mul, bm32, Int32.reduceToInt, Int64.reduceToInt, Nat.reduceLT, Nat.reduceEqDiff, reduceIte, w_1m0_2, w_1m0_3, w_1m0_4, w_1m0_5, w_1m0_6, w_1m0_14, w_1m0_42] at c_9
        refine ⟨vp_in_iff.mpr (by first | omega | (simp (disch := omega) only [↓i_in, ↓i_isCouple, ↓i_isBridge, ↓i_isTheme, ↓i_isBarge, i_lt, i_le, i_eq, i_clamp, i_upd, i_m1, Int32.toInt_toInt64, Int32.toInt_add, Int32.toInt_sub, Int32.toInt_mul, bm32, Int32.reduceToInt, Int64.reduceToInt, Nat.reduceLT, Nat.reduceEqDiff, reduceIte, w_1m0_2, w_1m0_3, w_1m0_4, w_1m0_5, w_1m0_6, w_1m0_14, w_1m0_42] <;> omega)), ?_⟩
        refine ⟨vp_in_iff.mpr (by first | omega | (simp (disch := omega) only [↓i_in, ↓i_isCouple, ↓i_isBridge, ↓i_isTheme, ↓i_isBarge, i_lt, i_le, i_eq, i_clamp, i_upd, i_m1, Int32.toInt_toInt64, Int32.toInt_add, Int32.toInt_sub, Int32.toInt_mul, bm32, Int32.reduceToInt, Int64.reduceToInt, Nat.reduceLT, Nat.reduceEqDiff, reduceIte, w_1m0_2, w_1m0_3, w_1m0_4, w_1m0_5, w_1m0_6, w_1m0_14, w_1m0_42] <;> omega)), ?_⟩
        exact trivial
    · skip
      try simp (disch := omega) only [↓i_in, ↓i_isCouple, ↓i_isBridge, ↓i_isTheme, ↓i_isBarge, i_lt, i_le, i_eq, i_clamp, i_upd, i_m1, Int32.toInt_toInt64, Int32.toInt_add, Int32.toInt_sub, Int32.toInt_mul, bm32, Int32.reduceToInt, Int64.reduceToInt, Nat.reduceLT, Nat.reduceEqDiff, reduceIte, w_1m0_2, w_1m0_3, w_1m0_4, w_1m0_5, w_1m0_6, w_1m0_14, w_1m0_42] at c_8
      refine ⟨vp_in_iff.mpr (by first | omega | (simp (disch := omega) only [↓i_in, ↓i_isCouple, ↓i_isBridge, ↓i_isTheme, ↓i_isBarge, i_lt, i_le, i_eq, i_clamp, i_upd, i_m1, Int32.toInt_toInt64, Int32.toInt_add, Int32.toInt_sub, Int32.toInt_mul, bm32, Int32.reduceToInt, Int64.reduceToInt, Nat.reduceLT, Nat.reduceEqDiff, reduceIte, w_1m0_2, w_1m0_3, w_1m0_4, w_1m0_5, w_1m0_6, w_1m0_14, w_1m0_42] <;> omega)), ?_⟩
      refine ⟨fun c_10 => ?_, fun c_10 => ?_⟩
      · skip
        try simp (disch := omega) only [↓i_in, ↓i_isCouple, ↓i_isBridge, ↓i_isTheme, ↓i_isBarge, i_lt, i_le, i_eq, i_clamp, i_upd, i_m1, Int32.toInt_toInt64, Int32.toInt_add, Int32.toInt_sub, Int32.toInt_mul, bm32, Int32.reduceToInt, Int64.reduceToInt, Nat.reduceLT, Nat.reduceEqDiff, reduceIte, w_1m0_2, w_1m0_3, w_1m0_4, w_1m0_5, w_1m0_6, w_1m0_14, w_1m0_42] at c_10
        refine ⟨vp_in_iff.mpr (by first | omega | (simp (disch := omega) only [↓i_in, ↓i_isCouple, ↓i_isBridge, ↓i_isTheme, ↓i_isBarge, i_lt, i_le, i_eq, i_clamp, i_upd, i_m1, Int32.toInt_toInt64, Int32.toInt_add, Int32.toInt_sub, Int32.toInt_mul, bm32, Int32.reduceToInt, Int64.reduceToInt, Nat.reduceLT, Nat.reduceEqDiff, reduceIte, w_1m0_2, w_1m0_3, w_1m0_4, w_1m0_5, w_1m0_6, w_1m0_14, w_1m0_42] <;> omega)), ?_⟩
        exact trivial
      · skip
        try simp (disch := omega) only [↓i_in, ↓i_isCouple, ↓i_isBridge, ↓i_isTheme, ↓i_isBarge, i_lt, i_le, i_eq, i_clamp, i_upd, i_m1, Int32.toInt_toInt64, Int32.toInt_add, Int32.toInt_sub, Int32.toInt_mul, bm32, Int32.reduceToInt, Int64.reduceToInt, Nat.reduceLT, Nat.reduceEqDiff, reduceIte, w_1m0_2, w_1m0_3, w_1m0_4, w_1m0_5, w_1m0_6, w_1m0_14, w_1m0_42] at c_10
        refine ⟨vp_in_iff.mpr (by first | omega | (simp (disch := omega) only [↓i_in, ↓i_isCouple, ↓i_isBridge, ↓i_isTheme, ↓i_isBarge, i_lt, i_le, i_eq, i_clamp, i_upd, i_m1, Int32.toInt_toInt64, Int32.toInt_add, Int32.toInt_sub, Int32.toInt_mul, bm32, Int32.reduceToInt, Int64.reduceToInt, Nat.reduceLT, Nat.reduceEqDiff, reduceIte, w_1m0_2, w_1m0_3, w_1m0_4, w_1m0_5, w_1m0_6, w_1m0_14, w_1m0_42] <;> omega)), ?_⟩
        refine ⟨vp_in_iff.mpr (by first | omega | (simp (disch := omega) only [↓i_in, ↓i_isCouple, ↓i_isBridge, ↓i_isTheme, ↓i_isBarge, i_lt, i_le, i_eq, i_clamp, i_upd, i_m1, Int32.toInt_toInt64, Int32.toInt_add, Int32.toInt_sub, Int32.toInt_mul, bm32, Int32.reduceToInt, Int64.reduceToInt, Nat.reduceLT, Nat.reduceEqDiff, reduceIte, w_1m0_2, w_1m0_3, w_1m0_4, w_1m0_5, w_1m0_6, w_1m0_14, w_1m0_42] <;> omega)), ?_⟩
        exact trivial
set_option maxHeartbeats 4000000 in
theorem p_passes {G : Nat → Int32} {f0 : Nat → Int32} {f10 : Nat → Int32} {f8 : Nat → Int32} {f11 : Nat → Int32} {f12 : Nat → Int32} {h_ : Int32} {v_ : Int32} (h_0 : GI G) (h_1 : RI f11) (h_2 : WI f0) (h_3 : 0 ≤ h_.toInt) (h_4 : h_.toInt ≤ 1260) (h_5 : h_.toInt % 42 = 0) (h_6 : 0 ≤ v_.toInt) (h_7 : v_.toInt < 7) : ∀ (u : (Nat → Int32)) (v : (Nat → Int32)), f_m_passes G f0 f10 f8 f11 f12 h_ v_ = (u, v) → QG G u ∧ WI v := by
  have h_0_g := h_0
  obtain ⟨⟨h_0_2a, h_0_2b⟩, ⟨h_0_3a, h_0_3b⟩, ⟨h_0_4a, h_0_4b⟩, ⟨h_0_5a, h_0_5b⟩, ⟨h_0_6a, h_0_6b⟩, ⟨h_0_14a, h_0_14b⟩, ⟨h_0_42a, h_0_42b⟩⟩ := h_0_g
  intro u v e
  unfold f_m_passes at e
  generalize x_1 : (f_m_passes_5 f10 f8 f11 h_ v_ 10 0 1 G f0) = z_2 at e
  obtain ⟨w_1l4, w_1l3, w_1m0, w_1m1⟩ := z_2
  replace e : ((if w_1l3 = 0 then (if w_1l3 = 0 then (w_1m0, (upd (upd w_1m1 (((h_ + 20) + v_) : Int32).toNatClampNeg 3) (((h_ + 34) + v_) : Int32).toNatClampNeg (-1))) else (w_1m0, (upd (upd w_1m1 (((h_ + 20) + v_) : Int32).toNatClampNeg 3) (((h_ + 34) + v_) : Int32).toNatClampNeg ((upd w_1m1 (((h_ + 20) + v_) : Int32).toNatClampNeg 3) ((h_ + 19) : Int32).toNatClampNeg)))) else (if (f12 (v_ : Int32).toNatClampNeg) < (w_1m1 ((h_ + 19) : Int32).toNatClampNeg) then (if w_1l3 = 0 then (w_1m0, (upd (upd w_1m1 (((h_ + 20) + v_) : Int32).toNatClampNeg 2) (((h_ + 34) + v_) : Int32).toNatClampNeg (-1))) else (w_1m0, (upd (upd w_1m1 (((h_ + 20) + v_) : Int32).toNatClampNeg 2) (((h_ + 34) + v_) : Int32).toNatClampNeg ((upd w_1m1 (((h_ + 20) + v_) : Int32).toNatClampNeg 2) ((h_ + 19) : Int32).toNatClampNeg)))) else (if w_1l3 = 0 then (w_1m0, (upd (upd w_1m1 (((h_ + 20) + v_) : Int32).toNatClampNeg 1) (((h_ + 34) + v_) : Int32).toNatClampNeg (-1))) else (w_1m0, (upd (upd w_1m1 (((h_ + 20) + v_) : Int32).toNatClampNeg 1) (((h_ + 34) + v_) : Int32).toNatClampNeg ((upd w_1m1 (((h_ + 20) + v_) : Int32).toNatClampNeg 1) ((h_ + 19) : Int32).toNatClampNeg))))))) = (u, v) := e
  have p_3 := pl_passes_5 h_0 h_1 (by first | omega | (simp (disch := omega) only [↓i_in, ↓i_isCouple, ↓i_isBridge, ↓i_isTheme, ↓i_isBarge, i_lt, i_le, i_eq, i_clamp, i_upd, i_m1, Int32.toInt_toInt64, Int32.toInt_add, Int32.toInt_sub, Int32.toInt_mul, bm32, Int32.reduceToInt, Int64.reduceToInt, Nat.reduceLT, Nat.reduceEqDiff, reduceIte] <;> omega)) (by first | omega | (simp (disch := omega) only [↓i_in, ↓i_isCouple, ↓i_isBridge, ↓i_isTheme, ↓i_isBarge, i_lt, i_le, i_eq, i_clamp, i_upd, i_m1, Int32.toInt_toInt64, Int32.toInt_add, Int32.toInt_sub, Int32.toInt_mul, bm32, Int32.reduceToInt, Int64.reduceToInt, Nat.reduceLT, Nat.reduceEqDiff, reduceIte] <;> omega)) (by first | omega | (simp (disch := omega) only [↓i_in, ↓i_isCouple, ↓i_isBridge, ↓i_isTheme, ↓i_isBarge, i_lt, i_le, i_eq, i_clamp, i_upd, i_m1, Int32.toInt_toInt64, Int32.toInt_add, Int32.toInt_sub, Int32.toInt_mul, bm32, Int32.reduceToInt, Int64.reduceToInt, Nat.reduceLT, Nat.reduceEqDiff, reduceIte] <;> omega)) (by first | omega | (simp (disch := omega) only [↓i_in, ↓i_isCouple, ↓i_isBridge, ↓i_isTheme, ↓i_isBarge, i_lt, i_le, i_eq, i_clamp, i_upd, i_m1, Int32.toInt_toInt64, Int32.toInt_add, Int32.toInt_sub, Int32.toInt_mul, bm32, Int32.reduceToInt, Int64.reduceToInt, Nat.reduceLT, Nat.reduceEqDiff, reduceIte] <;> omega)) (by first | omega | (simp (disch := omega) only [↓i_in, ↓i_isCouple, ↓i_isBridge, ↓i_isTheme, ↓i_isBarge, i_lt, i_le, i_eq, i_clamp, i_upd, i_m1, Int32.toInt_toInt64, Int32.toInt_add, Int32.toInt_sub, Int32.toInt_mul, bm32, Int32.reduceToInt, Int64.reduceToInt, Nat.reduceLT, Nat.reduceEqDiff, reduceIte] <;> omega)) 10 0 1 G f0 (⟨(QG.refl _), h_2, (by first | omega | (simp (disch := omega) only [↓i_in, ↓i_isCouple, ↓i_isBridge, ↓i_isTheme, ↓i_isBarge, i_lt, i_le, i_eq, i_clamp, i_upd, i_m1, Int32.toInt_toInt64, Int32.toInt_add, Int32.toInt_sub, Int32.toInt_mul, bm32, Int32.reduceToInt, Int64.reduceToInt, Nat.reduceLT, Nat.reduceEqDiff, reduceIte] <;> omega)), (by first | omega | (simp (disch := omega) only [↓i_in, ↓i_isCouple, ↓i_isBridge, ↓i_isTheme, ↓i_isBarge, i_lt, i_le, i_eq, i_clamp, i_upd, i_m1, Int32.toInt_toInt64, Int32.toInt_add, Int32.toInt_sub, Int32.toInt_mul, bm32, Int32.reduceToInt, Int64.reduceToInt, Nat.reduceLT, Nat.reduceEqDiff, reduceIte] <;> omega))⟩) _ _ _ _ x_1
  obtain ⟨i_4, i_5, i_6, i_7⟩ := p_3
  obtain ⟨w_1m0_2, w_1m0_3, w_1m0_4, w_1m0_5, w_1m0_6, w_1m0_14, w_1m0_42⟩ := QGs i_4
  by_cases c_8 : w_1l3 = 0
  · rw [if_pos c_8] at e
    try simp (disch := omega) only [↓i_in, ↓i_isCouple, ↓i_isBridge, ↓i_isTheme, ↓i_isBarge, i_lt, i_le, i_eq, i_clamp, i_upd, i_m1, Int32.toInt_toInt64, Int32.toInt_add, Int32.toInt_sub, Int32.toInt_mul, bm32, Int32.reduceToInt, Int64.reduceToInt, Nat.reduceLT, Nat.reduceEqDiff, reduceIte, w_1m0_2, w_1m0_3, w_1m0_4, w_1m0_5, w_1m0_6, w_1m0_14, w_1m0_42] at c_8
    by_cases c_9 : w_1l3 = 0
    · rw [if_pos c_9] at e
      try simp (disch := omega) only [↓i_in, ↓i_isCouple, ↓i_isBridge, ↓i_isTheme, ↓i_isBarge, i_lt, i_le, i_eq, i_clamp, i_upd, i_m1, Int32.toInt_toInt64, Int32.toInt_add, Int32.toInt_sub, Int32.toInt_mul, bm32, Int32.reduceToInt, Int64.reduceToInt, Nat.reduceLT, Nat.reduceEqDiff, reduceIte, w_1m0_2, w_1m0_3, w_1m0_4, w_1m0_5, w_1m0_6, w_1m0_14, w_1m0_42] at c_9
      cases e
      exact ⟨i_4, (WI_upd (WI_upd i_5 (by first | (refine OKv.out ?_; (first | omega | (simp (disch := omega) only [↓i_in, ↓i_isCouple, ↓i_isBridge, ↓i_isTheme, ↓i_isBarge, i_lt, i_le, i_eq, i_clamp, i_upd, i_m1, Int32.toInt_toInt64, Int32.toInt_add, Int32.toInt_sub, Int32.toInt_mul, bm32, Int32.reduceToInt, Int64.reduceToInt, Nat.reduceLT, Nat.reduceEqDiff, reduceIte, w_1m0_2, w_1m0_3, w_1m0_4, w_1m0_5, w_1m0_6, w_1m0_14, w_1m0_42] <;> omega))) | (refine OKv.mk ?_; (first | omega | (simp (disch := omega) only [↓i_in, ↓i_isCouple, ↓i_isBridge, ↓i_isTheme, ↓i_isBarge, i_lt, i_le, i_eq, i_clamp, i_upd, i_m1, Int32.toInt_toInt64, Int32.toInt_add, Int32.toInt_sub, Int32.toInt_mul, bm32, Int32.reduceToInt, Int64.reduceToInt, Nat.reduceLT, Nat.reduceEqDiff, reduceIte, w_1m0_2, w_1m0_3, w_1m0_4, w_1m0_5, w_1m0_6, w_1m0_14, w_1m0_42] <;> omega))))) (by first | (refine OKv.out ?_; (first | omega | (simp (disch := omega) only [↓i_in, ↓i_isCouple, ↓i_isBridge, ↓i_isTheme, ↓i_isBarge, i_lt, i_le, i_eq, i_clamp, i_upd, i_m1, Int32.toInt_toInt64, Int32.toInt_add, Int32.toInt_sub, Int32.toInt_mul, bm32, Int32.reduceToInt, Int64.reduceToInt, Nat.reduceLT, Nat.reduceEqDiff, reduceIte, w_1m0_2, w_1m0_3, w_1m0_4, w_1m0_5, w_1m0_6, w_1m0_14, w_1m0_42] <;> omega))) | (refine OKv.mk ?_; (first | omega | (simp (disch := omega) only [↓i_in, ↓i_isCouple, ↓i_isBridge, ↓i_isTheme, ↓i_isBarge, i_lt, i_le, i_eq, i_clamp, i_upd, i_m1, Int32.toInt_toInt64, Int32.toInt_add, Int32.toInt_sub, Int32.toInt_mul, bm32, Int32.reduceToInt, Int64.reduceToInt, Nat.reduceLT, Nat.reduceEqDiff, reduceIte, w_1m0_2, w_1m0_3, w_1m0_4, w_1m0_5, w_1m0_6, w_1m0_14, w_1m0_42] <;> omega)))))⟩
    · rw [if_neg c_9] at e
      try simp (disch := omega) only [↓i_in, ↓i_isCouple, ↓i_isBridge, ↓i_isTheme, ↓i_isBarge, i_lt, i_le, i_eq, i_clamp, i_upd, i_m1, Int32.toInt_toInt64, Int32.toInt_add, Int32.toInt_sub, Int32.toInt_mul, bm32, Int32.reduceToInt, Int64.reduceToInt, Nat.reduceLT, Nat.reduceEqDiff, reduceIte, w_1m0_2, w_1m0_3, w_1m0_4, w_1m0_5, w_1m0_6, w_1m0_14, w_1m0_42] at c_9
      cases e
      exact ⟨i_4, (WI_upd (WI_upd i_5 (by first | (refine OKv.out ?_; (first | omega | (simp (disch := omega) only [↓i_in, ↓i_isCouple, ↓i_isBridge, ↓i_isTheme, ↓i_isBarge, i_lt, i_le, i_eq, i_clamp, i_upd, i_m1, Int32.toInt_toInt64, Int32.toInt_add, Int32.toInt_sub, Int32.toInt_mul, bm32, Int32.reduceToInt, Int64.reduceToInt, Nat.reduceLT, Nat.reduceEqDiff, reduceIte, w_1m0_2, w_1m0_3, w_1m0_4, w_1m0_5, w_1m0_6, w_1m0_14, w_1m0_42] <;> omega))) | (refine OKv.mk ?_; (first | omega | (simp (disch := omega) only [↓i_in, ↓i_isCouple, ↓i_isBridge, ↓i_isTheme, ↓i_isBarge, i_lt, i_le, i_eq, i_clamp, i_upd, i_m1, Int32.toInt_toInt64, Int32.toInt_add, Int32.toInt_sub, Int32.toInt_mul, bm32, Int32.reduceToInt, Int64.reduceToInt, Nat.reduceLT, Nat.reduceEqDiff, reduceIte, w_1m0_2, w_1m0_3, w_1m0_4, w_1m0_5, w_1m0_6, w_1m0_14, w_1m0_42] <;> omega))))) (by first | (refine OKv.out ?_; (first | omega | (simp (disch := omega) only [↓i_in, ↓i_isCouple, ↓i_isBridge, ↓i_isTheme, ↓i_isBarge, i_lt, i_le, i_eq, i_clamp, i_upd, i_m1, Int32.toInt_toInt64, Int32.toInt_add, Int32.toInt_sub, Int32.toInt_mul, bm32, Int32.reduceToInt, Int64.reduceToInt, Nat.reduceLT, Nat.reduceEqDiff, reduceIte, w_1m0_2, w_1m0_3, w_1m0_4, w_1m0_5, w_1m0_6, w_1m0_14, w_1m0_42] <;> omega))) | (refine OKv.same ?_ ((WI_upd i_5 (by first | (refine OKv.out ?_; (first | omega | (simp (disch := omega) only [↓i_in, ↓i_isCouple, ↓i_isBridge, ↓i_isTheme, ↓i_isBarge, i_lt, i_le, i_eq, i_clamp, i_upd, i_m1, Int32.toInt_toInt64, Int32.toInt_add, Int32.toInt_sub, Int32.toInt_mul, bm32, Int32.reduceToInt, Int64.reduceToInt, Nat.reduceLT, Nat.reduceEqDiff, reduceIte, w_1m0_2, w_1m0_3, w_1m0_4, w_1m0_5, w_1m0_6, w_1m0_14, w_1m0_42] <;> omega))) | (refine OKv.mk ?_; (first | omega | (simp (disch := omega) only [↓i_in, ↓i_isCouple, ↓i_isBridge, ↓i_isTheme, ↓i_isBarge, i_lt, i_le, i_eq, i_clamp, i_upd, i_m1, Int32.toInt_toInt64, Int32.toInt_add, Int32.toInt_sub, Int32.toInt_mul, bm32, Int32.reduceToInt, Int64.reduceToInt, Nat.reduceLT, Nat.reduceEqDiff, reduceIte, w_1m0_2, w_1m0_3, w_1m0_4, w_1m0_5, w_1m0_6, w_1m0_14, w_1m0_42] <;> omega))))) _); (first | omega | (simp (disch := omega) only [↓i_in, ↓i_isCouple, ↓i_isBridge, ↓i_isTheme, ↓i_isBarge, i_lt, i_le, i_eq, i_clamp, i_upd, i_m1, Int32.toInt_toInt64, Int32.toInt_add, Int32.toInt_sub, Int32.toInt_mul, bm32, Int32.reduceToInt, Int64.reduceToInt, Nat.reduceLT, Nat.reduceEqDiff, reduceIte, w_1m0_2, w_1m0_3, w_1m0_4, w_1m0_5, w_1m0_6, w_1m0_14, w_1m0_42] <;> omega)))))⟩
  · rw [if_neg c_8] at e
    try simp (disch := omega) only [↓i_in, ↓i_isCouple, ↓i_isBridge, ↓i_isTheme, ↓i_isBarge, i_lt, i_le, i_eq, i_clamp, i_upd, i_m1, Int32.toInt_toInt64, Int32.toInt_add, Int32.toInt_sub, Int32.toInt_mul, bm32, Int32.reduceToInt, Int64.reduceToInt, Nat.reduceLT, Nat.reduceEqDiff, reduceIte, w_1m0_2, w_1m0_3, w_1m0_4, w_1m0_5, w_1m0_6, w_1m0_14, w_1m0_42] at c_8
    by_cases c_10 : (f12 (v_ : Int32).toNatClampNeg) < (w_1m1 ((h_ + 19) : Int32).toNatClampNeg)
    · rw [if_pos c_10] at e
      try simp (disch := omega) only [↓i_in, ↓i_isCouple, ↓i_isBridge, ↓i_isTheme, ↓i_isBarge, i_lt, i_le, i_eq, i_clamp, i_upd, i_m1, Int32.toInt_toInt64, Int32.toInt_add, Int32.toInt_sub, Int32.toInt_mul, bm32, Int32.reduceToInt, Int64.reduceToInt, Nat.reduceLT, Nat.reduceEqDiff, reduceIte, w_1m0_2, w_1m0_3, w_1m0_4, w_1m0_5, w_1m0_6, w_1m0_14, w_1m0_42] at c_10
      by_cases c_11 : w_1l3 = 0
      · rw [if_pos c_11] at e
        try simp (disch := omega) only [↓i_in, ↓i_isCouple, ↓i_isBridge, ↓i_isTheme, ↓i_isBarge, i_lt, i_le, i_eq, i_clamp, i_upd, i_m1, Int32.toInt_toInt64, Int32.toInt_add, Int32.toInt_sub, Int32.toInt_mul, bm32, Int32.reduceToInt, Int64.reduceToInt, Nat.reduceLT, Nat.reduceEqDiff, reduceIte, w_1m0_2, w_1m0_3, w_1m0_4, w_1m0_5, w_1m0_6, w_1m0_14, w_1m0_42] at c_11
        cases e
        exact ⟨i_4, (WI_upd (WI_upd i_5 (by first | (refine OKv.out ?_; (first | omega | (simp (disch := omega) only [↓i_in, ↓i_isCouple, ↓i_isBridge, ↓i_isTheme, ↓i_isBarge, i_lt, i_le, i_eq, i_clamp, i_upd, i_m1, Int32.toInt_toInt64, Int32.toInt_add, Int32.toInt_sub, Int32.toInt_mul, bm32, Int32.reduceToInt, Int64.reduceToInt, Nat.reduceLT, Nat.reduceEqDiff, reduceIte, w_1m0_2, w_1m0_3, w_1m0_4, w_1m0_5, w_1m0_6, w_1m0_14, w_1m0_42] <;> omega))) | (refine OKv.mk ?_; (first | omega | (simp (disch := omega) only [↓i_in, ↓i_isCouple, ↓i_isBridge, ↓i_isTheme, ↓i_isBarge, i_lt, i_le, i_eq, i_clamp, i_upd, i_m1, Int32.toInt_toInt64, Int32.toInt_add, Int32.toInt_sub, Int32.toInt_mul, bm32, Int32.reduceToInt, Int64.reduceToInt, Nat.reduceLT, Nat.reduceEqDiff, reduceIte, w_1m0_2, w_1m0_3, w_1m0_4, w_1m0_5, w_1m0_6, w_1m0_14, w_1m0_42] <;> omega))))) (by first | (refine OKv.out ?_; (first | omega | (simp (disch := omega) only [↓i_in, ↓i_isCouple, ↓i_isBridge, ↓i_isTheme, ↓i_isBarge, i_lt, i_le, i_eq, i_clamp, i_upd, i_m1, Int32.toInt_toInt64, Int32.toInt_add, Int32.toInt_sub, Int32.toInt_mul, bm32, Int32.reduceToInt, Int64.reduceToInt, Nat.reduceLT, Nat.reduceEqDiff, reduceIte, w_1m0_2, w_1m0_3, w_1m0_4, w_1m0_5, w_1m0_6, w_1m0_14, w_1m0_42] <;> omega))) | (refine OKv.mk ?_; (first | omega | (simp (disch := omega) only [↓i_in, ↓i_isCouple, ↓i_isBridge, ↓i_isTheme, ↓i_isBarge, i_lt, i_le, i_eq, i_clamp, i_upd, i_m1, Int32.toInt_toInt64, Int32.toInt_add, Int32.toInt_sub, Int32.toInt_mul, bm32, Int32.reduceToInt, Int64.reduceToInt, Nat.reduceLT, Nat.reduceEqDiff, reduceIte, w_1m0_2, w_1m0_3, w_1m0_4, w_1m0_5, w_1m0_6, w_1m0_14, w_1m0_42] <;> omega)))))⟩
      · rw [if_neg c_11] at e
        try simp (disch := omega) only [↓i_in, ↓i_isCouple, ↓i_isBridge, ↓i_isTheme, ↓i_isBarge, i_lt, i_le, i_eq, i_clamp, i_upd, i_m1, Int32.toInt_toInt64, Int32.toInt_add, Int32.toInt_sub, Int32.toInt_mul, bm32, Int32.reduceToInt, Int64.reduceToInt, Nat.reduceLT, Nat.reduceEqDiff, reduceIte, w_1m0_2, w_1m0_3, w_1m0_4, w_1m0_5, w_1m0_6, w_1m0_14, w_1m0_42] at c_11
        cases e
        exact ⟨i_4, (WI_upd (WI_upd i_5 (by first | (refine OKv.out ?_; (first | omega | (simp (disch := omega) only [↓i_in, ↓i_isCouple, ↓i_isBridge, ↓i_isTheme, ↓i_isBarge, i_lt, i_le, i_eq, i_clamp, i_upd, i_m1, Int32.toInt_toInt64, Int32.toInt_add, Int32.toInt_sub, Int32.toInt_mul, bm32, Int32.reduceToInt, Int64.reduceToInt, Nat.reduceLT, Nat.reduceEqDiff, reduceIte, w_1m0_2, w_1m0_3, w_1m0_4, w_1m0_5, w_1m0_6, w_1m0_14, w_1m0_42] <;> omega))) | (refine OKv.mk ?_; (first | omega | (simp (disch := omega) only [↓i_in, ↓i_isCouple, ↓i_isBridge, ↓i_isTheme, ↓i_isBarge, i_lt, i_le, i_eq, i_clamp, i_upd, i_m1, Int32.toInt_toInt64, Int32.toInt_add, Int32.toInt_sub, Int32.toInt_mul, bm32, Int32.reduceToInt, Int64.reduceToInt, Nat.reduceLT, Nat.reduceEqDiff, reduceIte, w_1m0_2, w_1m0_3, w_1m0_4, w_1m0_5, w_1m0_6, w_1m0_14, w_1m0_42] <;> omega))))) (by first | (refine OKv.out ?_; (first | omega | (simp (disch := omega) only [↓i_in, ↓i_isCouple, ↓i_isBridge, ↓i_isTheme, ↓i_isBarge, i_lt, i_le, i_eq, i_clamp, i_upd, i_m1, Int32.toInt_toInt64, Int32.toInt_add, Int32.toInt_sub, Int32.toInt_mul, bm32, Int32.reduceToInt, Int64.reduceToInt, Nat.reduceLT, Nat.reduceEqDiff, reduceIte, w_1m0_2, w_1m0_3, w_1m0_4, w_1m0_5, w_1m0_6, w_1m0_14, w_1m0_42] <;> omega))) | (refine OKv.same ?_ ((WI_upd i_5 (by first | (refine OKv.out ?_; (first | omega | (simp (disch := omega) only [↓i_in, ↓i_isCouple, ↓i_isBridge, ↓i_isTheme, ↓i_isBarge, i_lt, i_le, i_eq, i_clamp, i_upd, i_m1, Int32.toInt_toInt64, Int32.toInt_add, Int32.toInt_sub, Int32.toInt_mul, bm32, Int32.reduceToInt, Int64.reduceToInt, Nat.reduceLT, Nat.reduceEqDiff, reduceIte, w_1m0_2, w_1m0_3, w_1m0_4, w_1m0_5, w_1m0_6, w_1m0_14, w_1m0_42] <;> omega))) | (refine OKv.mk ?_; (first | omega | (simp (disch := omega) only [↓i_in, ↓i_isCouple, ↓i_isBridge, ↓i_isTheme, ↓i_isBarge, i_lt, i_le, i_eq, i_clamp, i_upd, i_m1, Int32.toInt_toInt64, Int32.toInt_add, Int32.toInt_sub, Int32.toInt_mul, bm32, Int32.reduceToInt, Int64.reduceToInt, Nat.reduceLT, Nat.reduceEqDiff, reduceIte, w_1m0_2, w_1m0_3, w_1m0_4, w_1m0_5, w_1m0_6, w_1m0_14, w_1m0_42] <;> omega))))) _); (first | omega | (simp (disch := omega) only [↓i_in, ↓i_isCouple, ↓i_isBridge, ↓i_isTheme, ↓i_isBarge, i_lt, i_le, i_eq, i_clamp, i_upd, i_m1, Int32.toInt_toInt64, Int32.toInt_add, Int32.toInt_sub, Int32.toInt_mul, bm32, Int32.reduceToInt, Int64.reduceToInt, Nat.reduceLT, Nat.reduceEqDiff, reduceIte, w_1m0_2, w_1m0_3, w_1m0_4, w_1m0_5, w_1m0_6, w_1m0_14, w_1m0_42] <;> omega)))))⟩
    · rw [if_neg c_10] at e
      try simp (disch := omega) only [↓i_in, ↓i_isCouple, ↓i_isBridge, ↓i_isTheme, ↓i_isBarge, i_lt, i_le, i_eq, i_clamp, i_upd, i_m1, Int32.toInt_toInt64, Int32.toInt_add, Int32.toInt_sub, Int32.toInt_mul, bm32, Int32.reduceToInt, Int64.reduceToInt, Nat.reduceLT, Nat.reduceEqDiff, reduceIte, w_1m0_2, w_1m0_3, w_1m0_4, w_1m0_5, w_1m0_6, w_1m0_14, w_1m0_42] at c_10
      by_cases c_12 : w_1l3 = 0
      · rw [if_pos c_12] at e
        try simp (disch := omega) only [↓i_in, ↓i_isCouple, ↓i_isBridge, ↓i_isTheme, ↓i_isBarge, i_lt, i_le, i_eq, i_clamp, i_upd, i_m1, Int32.toInt_toInt64, Int32.toInt_add, Int32.toInt_sub, Int32.toInt_mul, bm32, Int32.reduceToInt, Int64.reduceToInt, Nat.reduceLT, Nat.reduceEqDiff, reduceIte, w_1m0_2, w_1m0_3, w_1m0_4, w_1m0_5, w_1m0_6, w_1m0_14, w_1m0_42] at c_12
        cases e
        exact ⟨i_4, (WI_upd (WI_upd i_5 (by first | (refine OKv.out ?_; (first | omega | (simp (disch := omega) only [↓i_in, ↓i_isCouple, ↓i_isBridge, ↓i_isTheme, ↓i_isBarge, i_lt, i_le, i_eq, i_clamp, i_upd, i_m1, Int32.toInt_toInt64, Int32.toInt_add, Int32.toInt_sub, Int32.toInt_mul, bm32, Int32.reduceToInt, Int64.reduceToInt, Nat.reduceLT, Nat.reduceEqDiff, reduceIte, w_1m0_2, w_1m0_3, w_1m0_4, w_1m0_5, w_1m0_6, w_1m0_14, w_1m0_42] <;> omega))) | (refine OKv.mk ?_; (first | omega | (simp (disch := omega) only [↓i_in, ↓i_isCouple, ↓i_isBridge, ↓i_isTheme, ↓i_isBarge, i_lt, i_le, i_eq, i_clamp, i_upd, i_m1, Int32.toInt_toInt64, Int32.toInt_add, Int32.toInt_sub, Int32.toInt_mul, bm32, Int32.reduceToInt, Int64.reduceToInt, Nat.reduceLT, Nat.reduceEqDiff, reduceIte, w_1m0_2, w_1m0_3, w_1m0_4, w_1m0_5, w_1m0_6, w_1m0_14, w_1m0_42] <;> omega))))) (by first | (refine OKv.out ?_; (first | omega | (simp (disch := omega) only [↓i_in, ↓i_isCouple, ↓i_isBridge, ↓i_isTheme, ↓i_isBarge, i_lt, i_le, i_eq, i_clamp, i_upd, i_m1, Int32.toInt_toInt64, Int32.toInt_add, Int32.toInt_sub, Int32.toInt_mul, bm32, Int32.reduceToInt, Int64.reduceToInt, Nat.reduceLT, Nat.reduceEqDiff, reduceIte, w_1m0_2, w_1m0_3, w_1m0_4, w_1m0_5, w_1m0_6, w_1m0_14, w_1m0_42] <;> omega))) | (refine OKv.mk ?_; (first | omega | (simp (disch := omega) only [↓i_in, ↓i_isCouple, ↓i_isBridge, ↓i_isTheme, ↓i_isBarge, i_lt, i_le, i_eq, i_clamp, i_upd, i_m1, Int32.toInt_toInt64, Int32.toInt_add, Int32.toInt_sub, Int32.toInt_mul, bm32, Int32.reduceToInt, Int64.reduceToInt, Nat.reduceLT, Nat.reduceEqDiff, reduceIte, w_1m0_2, w_1m0_3, w_1m0_4, w_1m0_5, w_1m0_6, w_1m0_14, w_1m0_42] <;> omega)))))⟩
      · rw [if_neg c_12] at e
        try simp (disch := omega) only [↓i_in, ↓i_isCouple, ↓i_isBridge, ↓i_isTheme, ↓i_isBarge, i_lt, i_le, i_eq, i_clamp, i_upd, i_m1, Int32.toInt_toInt64, Int32.toInt_add, Int32.toInt_sub, Int32.toInt_mul, bm32, Int32.reduceToInt, Int64.reduceToInt, Nat.reduceLT, Nat.reduceEqDiff, reduceIte, w_1m0_2, w_1m0_3, w_1m0_4, w_1m0_5, w_1m0_6, w_1m0_14, w_1m0_42] at c_12
        cases e
        exact ⟨i_4, (WI_upd (WI_upd i_5 (by first | (refine OKv.out ?_; (first | omega | (simp (disch := omega) only [↓i_in, ↓i_isCouple, ↓i_isBridge, ↓i_isTheme, ↓i_isBarge, i_lt, i_le, i_eq, i_clamp, i_upd, i_m1, Int32.toInt_toInt64, Int32.toInt_add, Int32.toInt_sub, Int32.toInt_mul, bm32, Int32.reduceToInt, Int64.reduceToInt, Nat.reduceLT, Nat.reduceEqDiff, reduceIte, w_1m0_2, w_1m0_3, w_1m0_4, w_1m0_5, w_1m0_6, w_1m0_14, w_1m0_42] <;> omega))) | (refine OKv.mk ?_; (first | omega | (simp (disch := omega) only [↓i_in, ↓i_isCouple, ↓i_isBridge, ↓i_isTheme, ↓i_isBarge, i_lt, i_le, i_eq, i_clamp, i_upd, i_m1, Int32.toInt_toInt64, Int32.toInt_add, Int32.toInt_sub, Int32.toInt_mul, bm32, Int32.reduceToInt, Int64.reduceToInt, Nat.reduceLT, Nat.reduceEqDiff, reduceIte, w_1m0_2, w_1m0_3, w_1m0_4, w_1m0_5, w_1m0_6, w_1m0_14, w_1m0_42] <;> omega))))) (by first | (refine OKv.out ?_; (first | omega | (simp (disch := omega) only [↓i_in, ↓i_isCouple, ↓i_isBridge, ↓i_isTheme, ↓i_isBarge, i_lt, i_le, i_eq, i_clamp, i_upd, i_m1, Int32.toInt_toInt64, Int32.toInt_add, Int32.toInt_sub, Int32.toInt_mul, bm32, Int32.reduceToInt, Int64.reduceToInt, Nat.reduceLT, Nat.reduceEqDiff, reduceIte, w_1m0_2, w_1m0_3, w_1m0_4, w_1m0_5, w_1m0_6, w_1m0_14, w_1m0_42] <;> omega))) | (refine OKv.same ?_ ((WI_upd i_5 (by first | (refine OKv.out ?_; (first | omega | (simp (disch := omega) only [↓i_in, ↓i_isCouple, ↓i_isBridge, ↓i_isTheme, ↓i_isBarge, i_lt, i_le, i_eq, i_clamp, i_upd, i_m1, Int32.toInt_toInt64, Int32.toInt_add, Int32.toInt_sub, Int32.toInt_mul, bm32, Int32.reduceToInt, Int64.reduceToInt, Nat.reduceLT, Nat.reduceEqDiff, reduceIte, w_1m0_2, w_1m0_3, w_1m0_4, w_1m0_5, w_1m0_6, w_1m0_14, w_1m0_42] <;> omega))) | (refine OKv.mk ?_; (first | omega | (simp (disch := omega) only [↓i_in, ↓i_isCouple, ↓i_isBridge, ↓i_isTheme, ↓i_isBarge, i_lt, i_le, i_eq, i_clamp, i_upd, i_m1, Int32.toInt_toInt64, Int32.toInt_add, Int32.toInt_sub, Int32.toInt_mul, bm32, Int32.reduceToInt, Int64.reduceToInt, Nat.reduceLT, Nat.reduceEqDiff, reduceIte, w_1m0_2, w_1m0_3, w_1m0_4, w_1m0_5, w_1m0_6, w_1m0_14, w_1m0_42] <;> omega))))) _); (first | omega | (simp (disch := omega) only [↓i_in, ↓i_isCouple, ↓i_isBridge, ↓i_isTheme, ↓i_isBarge, i_lt, i_le, i_eq, i_clamp, i_upd, i_m1, Int32.toInt_toInt64, Int32.toInt_add, Int32.toInt_sub, Int32.toInt_mul, bm32, Int32.reduceToInt, Int64.reduceToInt, Nat.reduceLT, Nat.reduceEqDiff, reduceIte, w_1m0_2, w_1m0_3, w_1m0_4, w_1m0_5, w_1m0_6, w_1m0_14, w_1m0_42] <;> omega)))))⟩
set_option maxHeartbeats 4000000 in
theorem s_pass {G : Nat → Int32} {f0 : Nat → Int32} {f10 : Nat → Int32} {f8 : Nat → Int32} {f11 : Nat → Int32} {f12 : Nat → Int32} {v_ : Int32} (h_0 : GI G) (h_1 : RI f11) (h_2 : WI f0) : S_m_pass G f0 f10 f8 f11 f12 v_ := by
  unfold S_m_pass
  have h_0_g := h_0
  obtain ⟨⟨h_0_2a, h_0_2b⟩, ⟨h_0_3a, h_0_3b⟩, ⟨h_0_4a, h_0_4b⟩, ⟨h_0_5a, h_0_5b⟩, ⟨h_0_6a, h_0_6b⟩, ⟨h_0_14a, h_0_14b⟩, ⟨h_0_42a, h_0_42b⟩⟩ := h_0_g
  refine ⟨s_isBarge, ?_⟩
  refine ⟨fun c_1 => ?_, fun c_1 => ?_⟩
  · exact trivial
  · skip
    try simp (disch := omega) only [↓i_in, ↓i_isCouple, ↓i_isBridge, ↓i_isTheme, ↓i_isBarge, i_lt, i_le, i_eq, i_clamp, i_upd, i_m1, Int32.toInt_toInt64, Int32.toInt_add, Int32.toInt_sub, Int32.toInt_mul, bm32, Int32.reduceToInt, Int64.reduceToInt, Nat.reduceLT, Nat.reduceEqDiff, reduceIte] at c_1
    refine ⟨vp_in_iff.mpr (by first | omega | (simp (disch := omega) only [↓i_in, ↓i_isCouple, ↓i_isBridge, ↓i_isTheme, ↓i_isBarge, i_lt, i_le, i_eq, i_clamp, i_upd, i_m1, Int32.toInt_toInt64, Int32.toInt_add, Int32.toInt_sub, Int32.toInt_mul, bm32, Int32.reduceToInt, Int64.reduceToInt, Nat.reduceLT, Nat.reduceEqDiff, reduceIte] <;> omega)), ?_⟩
    refine ⟨fun c_2 => ?_, fun c_2 => ?_⟩
    · skip
      try simp (disch := omega) only [↓i_in, ↓i_isCouple, ↓i_isBridge, ↓i_isTheme, ↓i_isBarge, i_lt, i_le, i_eq, i_clamp, i_upd, i_m1, Int32.toInt_toInt64, Int32.toInt_add, Int32.toInt_sub, Int32.toInt_mul, bm32, Int32.reduceToInt, Int64.reduceToInt, Nat.reduceLT, Nat.reduceEqDiff, reduceIte] at c_2
      refine ⟨fun c_3 => ?_, fun c_3 => ?_⟩
      · skip
        try simp (disch := omega) only [↓i_in, ↓i_isCouple, ↓i_isBridge, ↓i_isTheme, ↓i_isBarge, i_lt, i_le, i_eq, i_clamp, i_upd, i_m1, Int32.toInt_toInt64, Int32.toInt_add, Int32.toInt_sub, Int32.toInt_mul, bm32, Int32.reduceToInt, Int64.reduceToInt, Nat.reduceLT, Nat.reduceEqDiff, reduceIte] at c_3
        refine ⟨(s_minds h_0 h_2), ?_⟩
        intro o_11 o_12 e_4
        have p_5 := p_minds h_0 h_2 _ _ e_4.symm
        obtain ⟨i_6, i_7, i_8⟩ := p_5
        have i_6_g := i_6
        obtain ⟨⟨i_6_2a, i_6_2b⟩, ⟨i_6_3a, i_6_3b⟩, ⟨i_6_4a, i_6_4b⟩, ⟨i_6_5a, i_6_5b⟩, ⟨i_6_6a, i_6_6b⟩, ⟨i_6_14a, i_6_14b⟩, ⟨i_6_42a, i_6_42b⟩⟩ := i_6_g
        have o_11_3 := i_8 3 (by decide)
        have o_11_4 := i_8 4 (by decide)
        have o_11_5 := i_8 5 (by decide)
        have o_11_6 := i_8 6 (by decide)
        have o_11_14 := i_8 14 (by decide)
        have o_11_42 := i_8 42 (by decide)
        refine ⟨(s_passes i_6 h_1 i_7 (by first | omega | (simp (disch := omega) only [↓i_in, ↓i_isCouple, ↓i_isBridge, ↓i_isTheme, ↓i_isBarge, i_lt, i_le, i_eq, i_clamp, i_upd, i_m1, Int32.toInt_toInt64, Int32.toInt_add, Int32.toInt_sub, Int32.toInt_mul, bm32, Int32.reduceToInt, Int64.reduceToInt, Nat.reduceLT, Nat.reduceEqDiff, reduceIte, o_11_3, o_11_4, o_11_5, o_11_6, o_11_14, o_11_42] <;> omega)) (by first | omega | (simp (disch := omega) only [↓i_in, ↓i_isCouple, ↓i_isBridge, ↓i_isTheme, ↓i_isBarge, i_lt, i_le, i_eq, i_clamp, i_upd, i_m1, Int32.toInt_toInt64, Int32.toInt_add, Int32.toInt_sub, Int32.toInt_mul, bm32, Int32.reduceToInt, Int64.reduceToInt, Nat.reduceLT, Nat.reduceEqDiff, reduceIte, o_11_3, o_11_4, o_11_5, o_11_6, o_11_14, o_11_42] <;> omega)) (by first | omega | (simp (disch := omega) only [↓i_in, ↓i_isCouple, ↓i_isBridge, ↓i_isTheme, ↓i_isBarge, i_lt, i_le, i_eq, i_clamp, i_upd, i_m1, Int32.toInt_toInt64, Int32.toInt_add, Int32.toInt_sub, Int32.toInt_mul, bm32, Int32.reduceToInt, Int64.reduceToInt, Nat.reduceLT, Nat.reduceEqDiff, reduceIte, o_11_3, o_11_4, o_11_5, o_11_6, o_11_14, o_11_42] <;> omega)) (by first | omega | (simp (disch := omega) only [↓i_in, ↓i_isCouple, ↓i_isBridge, ↓i_isTheme, ↓i_isBarge, i_lt, i_le, i_eq, i_clamp, i_upd, i_m1, Int32.toInt_toInt64, Int32.toInt_add, Int32.toInt_sub, Int32.toInt_mul, bm32, Int32.reduceToInt, Int64.reduceToInt, Nat.reduceLT, Nat.reduceEqDiff, reduceIte, o_11_3, o_11_4, o_11_5, o_11_6, o_11_14, o_11_42] <;> omega)) (by first | omega | (simp (disch := omega) only [↓i_in, ↓i_isCouple, ↓i_isBridge, ↓i_isTheme, ↓i_isBarge, i_lt, i_le, i_eq, i_clamp, i_upd, i_m1, Int32.toInt_toInt64, Int32.toInt_add, Int32.toInt_sub, Int32.toInt_mul, bm32, Int32.reduceToInt, Int64.reduceToInt, Nat.reduceLT, Nat.reduceEqDiff, reduceIte, o_11_3, o_11_4, o_11_5, o_11_6, o_11_14, o_11_42] <;> omega))), ?_⟩
        intro o_16 o_17 e_9
        have p_10 := p_passes i_6 h_1 i_7 (by first | omega | (simp (disch := omega) only [↓i_in, ↓i_isCouple, ↓i_isBridge, ↓i_isTheme, ↓i_isBarge, i_lt, i_le, i_eq, i_clamp, i_upd, i_m1, Int32.toInt_toInt64, Int32.toInt_add, Int32.toInt_sub, Int32.toInt_mul, bm32, Int32.reduceToInt, Int64.reduceToInt, Nat.reduceLT, Nat.reduceEqDiff, reduceIte, o_11_3, o_11_4, o_11_5, o_11_6, o_11_14, o_11_42] <;> omega)) (by first | omega | (simp (disch := omega) only [↓i_in, ↓i_isCouple, ↓i_isBridge, ↓i_isTheme, ↓i_isBarge, i_lt, i_le, i_eq, i_clamp, i_upd, i_m1, Int32.toInt_toInt64, Int32.toInt_add, Int32.toInt_sub, Int32.toInt_mul, bm32, Int32.reduceToInt, Int64.reduceToInt, Nat.reduceLT, Nat.reduceEqDiff, reduceIte, o_11_3, o_11_4, o_11_5, o_11_6, o_11_14, o_11_42] <;> omega)) (by first | omega | (simp (disch := omega) only [↓i_in, ↓i_isCouple, ↓i_isBridge, ↓i_isTheme, ↓i_isBarge, i_lt, i_le, i_eq, i_clamp, i_upd, i_m1, Int32.toInt_toInt64, Int32.toInt_add, Int32.toInt_sub, Int32.toInt_mul, bm32, Int32.reduceToInt, Int64.reduceToInt, Nat.reduceLT, Nat.reduceEqDiff, reduceIte, o_11_3, o_11_4, o_11_5, o_11_6, o_11_14, o_11_42] <;> omega)) (by first | omega | (simp (disch := omega) only [↓i_in, ↓i_isCouple, ↓i_isBridge, ↓i_isTheme, ↓i_isBarge, i_lt, i_le, i_eq, i_clamp, i_upd, i_m1, Int32.toInt_toInt64, Int32.toInt_add, Int32.toInt_sub, Int32.toInt_mul, bm32, Int32.reduceToInt, Int64.reduceToInt, Nat.reduceLT, Nat.reduceEqDiff, reduceIte, o_11_3, o_11_4, o_11_5, o_11_6, o_11_14, o_11_42] <;> omega)) (by first | omega | (simp (disch := omega) only [↓i_in, ↓i_isCouple, ↓i_isBridge, ↓i_isTheme, ↓i_isBarge, i_lt, i_le, i_eq, i_clamp, i_upd, i_m1, Int32.toInt_toInt64, Int32.toInt_add, Int32.toInt_sub, Int32.toInt_mul, bm32, Int32.reduceToInt, Int64.reduceToInt, Nat.reduceLT, Nat.reduceEqDiff, reduceIte, o_11_3, o_11_4, o_11_5, o_11_6, o_11_14, o_11_42] <;> omega)) _ _ e_9.symm
        obtain ⟨i_11, i_12⟩ := p_10
        obtain ⟨o_16_2, o_16_3, o_16_4, o_16_5, o_16_6, o_16_14, o_16_42⟩ := QGs i_11
        exact trivial
      · exact trivial
    · exact trivial
set_option maxHeartbeats 4000000 in
theorem p_pass {G : Nat → Int32} {f0 : Nat → Int32} {f10 : Nat → Int32} {f8 : Nat → Int32} {f11 : Nat → Int32} {f12 : Nat → Int32} {v_ : Int32} (h_0 : GI G) (h_1 : RI f11) (h_2 : WI f0) : ∀ (r : Int32) (u1 : (Nat → Int32)) (u2 : (Nat → Int32)), f_m_pass G f0 f10 f8 f11 f12 v_ = (r, u1, u2) → GI u1 ∧ WI u2 ∧ ((u1 14) = (G 14)) := by
  have h_0_g := h_0
  obtain ⟨⟨h_0_2a, h_0_2b⟩, ⟨h_0_3a, h_0_3b⟩, ⟨h_0_4a, h_0_4b⟩, ⟨h_0_5a, h_0_5b⟩, ⟨h_0_6a, h_0_6b⟩, ⟨h_0_14a, h_0_14b⟩, ⟨h_0_42a, h_0_42b⟩⟩ := h_0_g
  intro r u1 u2 e
  unfold f_m_pass at e
  by_cases c_1 : (f_m_isBarge G v_) = 0
  · rw [if_pos c_1] at e
    try simp (disch := omega) only [↓i_in, ↓i_isCouple, ↓i_isBridge, ↓i_isTheme, ↓i_isBarge, i_lt, i_le, i_eq, i_clamp, i_upd, i_m1, Int32.toInt_toInt64, Int32.toInt_add, Int32.toInt_sub, Int32.toInt_mul, bm32, Int32.reduceToInt, Int64.reduceToInt, Nat.reduceLT, Nat.reduceEqDiff, reduceIte] at c_1
    cases e
    exact ⟨h_0, h_2, (by first | omega | (simp (disch := omega) only [↓i_in, ↓i_isCouple, ↓i_isBridge, ↓i_isTheme, ↓i_isBarge, i_lt, i_le, i_eq, i_clamp, i_upd, i_m1, Int32.toInt_toInt64, Int32.toInt_add, Int32.toInt_sub, Int32.toInt_mul, bm32, Int32.reduceToInt, Int64.reduceToInt, Nat.reduceLT, Nat.reduceEqDiff, reduceIte] <;> omega))⟩
  · rw [if_neg c_1] at e
    try simp (disch := omega) only [↓i_in, ↓i_isCouple, ↓i_isBridge, ↓i_isTheme, ↓i_isBarge, i_lt, i_le, i_eq, i_clamp, i_upd, i_m1, Int32.toInt_toInt64, Int32.toInt_add, Int32.toInt_sub, Int32.toInt_mul, bm32, Int32.reduceToInt, Int64.reduceToInt, Nat.reduceLT, Nat.reduceEqDiff, reduceIte] at c_1
    by_cases c_2 : (f0 ((20 + v_) : Int32).toNatClampNeg) = 0
    · rw [if_pos c_2] at e
      try simp (disch := omega) only [↓i_in, ↓i_isCouple, ↓i_isBridge, ↓i_isTheme, ↓i_isBarge, i_lt, i_le, i_eq, i_clamp, i_upd, i_m1, Int32.toInt_toInt64, Int32.toInt_add, Int32.toInt_sub, Int32.toInt_mul, bm32, Int32.reduceToInt, Int64.reduceToInt, Nat.reduceLT, Nat.reduceEqDiff, reduceIte] at c_2
      by_cases c_3 : (f0 (19 : Int32).toNatClampNeg) ≤ 90000
      · rw [if_pos c_3] at e
        try simp (disch := omega) only [↓i_in, ↓i_isCouple, ↓i_isBridge, ↓i_isTheme, ↓i_isBarge, i_lt, i_le, i_eq, i_clamp, i_upd, i_m1, Int32.toInt_toInt64, Int32.toInt_add, Int32.toInt_sub, Int32.toInt_mul, bm32, Int32.reduceToInt, Int64.reduceToInt, Nat.reduceLT, Nat.reduceEqDiff, reduceIte] at c_3
        generalize x_4 : (f_m_minds G f0) = z_5 at e
        obtain ⟨o_11, o_12⟩ := z_5
        replace e : ((match (f_m_passes o_11 o_12 f10 f8 f11 f12 0 v_) with | (o_16, o_17) => ((o_17 (19 : Int32).toNatClampNeg), o_16, o_17))) = (r, u1, u2) := e
        have p_6 := p_minds h_0 h_2 _ _ x_4
        obtain ⟨i_7, i_8, i_9⟩ := p_6
        have i_7_g := i_7
        obtain ⟨⟨i_7_2a, i_7_2b⟩, ⟨i_7_3a, i_7_3b⟩, ⟨i_7_4a, i_7_4b⟩, ⟨i_7_5a, i_7_5b⟩, ⟨i_7_6a, i_7_6b⟩, ⟨i_7_14a, i_7_14b⟩, ⟨i_7_42a, i_7_42b⟩⟩ := i_7_g
        have o_11_3 := i_9 3 (by decide)
        have o_11_4 := i_9 4 (by decide)
        have o_11_5 := i_9 5 (by decide)
        have o_11_6 := i_9 6 (by decide)
        have o_11_14 := i_9 14 (by decide)
        have o_11_42 := i_9 42 (by decide)
        generalize x_10 : (f_m_passes o_11 o_12 f10 f8 f11 f12 0 v_) = z_11 at e
        obtain ⟨o_16, o_17⟩ := z_11
        replace e : (((o_17 (19 : Int32).toNatClampNeg), o_16, o_17)) = (r, u1, u2) := e
        have p_12 := p_passes i_7 h_1 i_8 (by first | omega | (simp (disch := omega) only [↓i_in, ↓i_isCouple, ↓i_isBridge, ↓i_isTheme, ↓i_isBarge, i_lt, i_le, i_eq, i_clamp, i_upd, i_m1, Int32.toInt_toInt64, Int32.toInt_add, Int32.toInt_sub, Int32.toInt_mul, bm32, Int32.reduceToInt, Int64.reduceToInt, Nat.reduceLT, Nat.reduceEqDiff, reduceIte, o_11_3, o_11_4, o_11_5, o_11_6, o_11_14, o_11_42] <;> omega)) (by first | omega | (simp (disch := omega) only [↓i_in, ↓i_isCouple, ↓i_isBridge, ↓i_isTheme, ↓i_isBarge, i_lt, i_le, i_eq, i_clamp, i_upd, i_m1, Int32.toInt_toInt64, Int32.toInt_add, Int32.toInt_sub, Int32.toInt_mul, bm32, Int32.reduceToInt, Int64.reduceToInt, Nat.reduceLT, Nat.reduceEqDiff, reduceIte, o_11_3, o_11_4, o_11_5, o_11_6, o_11_14, o_11_42] <;> omega)) (by first | omega | (simp (disch := omega) only [↓i_in, ↓i_isCouple, ↓i_isBridge, ↓i_isTheme, ↓i_isBarge, i_lt, i_le, i_eq, i_clamp, i_upd, i_m1, Int32.toInt_toInt64, Int32.toInt_add, Int32.toInt_sub, Int32.toInt_mul, bm32, Int32.reduceToInt, Int64.reduceToInt, Nat.reduceLT, Nat.reduceEqDiff, reduceIte, o_11_3, o_11_4, o_11_5, o_11_6, o_11_14, o_11_42] <;> omega)) (by first | omega | (simp (disch := omega) only [↓i_in, ↓i_isCouple, ↓i_isBridge, ↓i_isTheme, ↓i_isBarge, i_lt, i_le, i_eq, i_clamp, i_upd, i_m1, Int32.toInt_toInt64, Int32.toInt_add, Int32.toInt_sub, Int32.toInt_mul, bm32, Int32.reduceToInt, Int64.reduceToInt, Nat.reduceLT, Nat.reduceEqDiff, reduceIte, o_11_3, o_11_4, o_11_5, o_11_6, o_11_14, o_11_42] <;> omega)) (by first | omega | (simp (disch := omega) only [↓i_in, ↓i_isCouple, ↓i_isBridge, ↓i_isTheme, ↓i_isBarge, i_lt, i_le, i_eq, i_clamp, i_upd, i_m1, Int32.toInt_toInt64, Int32.toInt_add, Int32.toInt_sub, Int32.toInt_mul, bm32, Int32.reduceToInt, Int64.reduceToInt, Nat.reduceLT, Nat.reduceEqDiff, reduceIte, o_11_3, o_11_4, o_11_5, o_11_6, o_11_14, o_11_42] <;> omega)) _ _ x_10
        obtain ⟨i_13, i_14⟩ := p_12
        obtain ⟨o_16_2, o_16_3, o_16_4, o_16_5, o_16_6, o_16_14, o_16_42⟩ := QGs i_13
        cases e
        exact ⟨(GI.of i_13 i_7), i_14, (by first | omega | (simp (disch := omega) only [↓i_in, ↓i_isCouple, ↓i_isBridge, ↓i_isTheme, ↓i_isBarge, i_lt, i_le, i_eq, i_clamp, i_upd, i_m1, Int32.toInt_toInt64, Int32.toInt_add, Int32.toInt_sub, Int32.toInt_mul, bm32, Int32.reduceToInt, Int64.reduceToInt, Nat.reduceLT, Nat.reduceEqDiff, reduceIte, o_11_3, o_11_4, o_11_5, o_11_6, o_11_14, o_11_42, o_16_2, o_16_3, o_16_4, o_16_5, o_16_6, o_16_14, o_16_42] <;> omega))⟩
      · rw [if_neg c_3] at e
        try simp (disch := omega) only [↓i_in, ↓i_isCouple, ↓i_isBridge, ↓i_isTheme, ↓i_isBarge, i_lt, i_le, i_eq, i_clamp, i_upd, i_m1, Int32.toInt_toInt64, Int32.toInt_add, Int32.toInt_sub, Int32.toInt_mul, bm32, Int32.reduceToInt, Int64.reduceToInt, Nat.reduceLT, Nat.reduceEqDiff, reduceIte] at c_3
        cases e
        exact ⟨h_0, h_2, (by first | omega | (simp (disch := omega) only [↓i_in, ↓i_isCouple, ↓i_isBridge, ↓i_isTheme, ↓i_isBarge, i_lt, i_le, i_eq, i_clamp, i_upd, i_m1, Int32.toInt_toInt64, Int32.toInt_add, Int32.toInt_sub, Int32.toInt_mul, bm32, Int32.reduceToInt, Int64.reduceToInt, Nat.reduceLT, Nat.reduceEqDiff, reduceIte] <;> omega))⟩
    · rw [if_neg c_2] at e
      try simp (disch := omega) only [↓i_in, ↓i_isCouple, ↓i_isBridge, ↓i_isTheme, ↓i_isBarge, i_lt, i_le, i_eq, i_clamp, i_upd, i_m1, Int32.toInt_toInt64, Int32.toInt_add, Int32.toInt_sub, Int32.toInt_mul, bm32, Int32.reduceToInt, Int64.reduceToInt, Nat.reduceLT, Nat.reduceEqDiff, reduceIte] at c_2
      cases e
      exact ⟨h_0, h_2, (by first | omega | (simp (disch := omega) only [↓i_in, ↓i_isCouple, ↓i_isBridge, ↓i_isTheme, ↓i_isBarge, i_lt, i_le, i_eq, i_clamp, i_upd, i_m1, Int32.toInt_toInt64, Int32.toInt_add, Int32.toInt_sub, Int32.toInt_mul, bm32, Int32.reduceToInt, Int64.reduceToInt, Nat.reduceLT, Nat.reduceEqDiff, reduceIte] <;> omega))⟩
set_option maxHeartbeats 4000000 in
theorem sl_drift_46 {x14 : Int32} {n_ : Int32} {K : Int32 → (Nat → Int32) → (Nat → Int32) → Prop} (hK : ∀ w_12l2 w_12m0 w_12m1, (GI w_12m0 ∧ WI w_12m1 ∧ (0 < (w_12m0 5).toInt) ∧ ((w_12m0 14) = x14)) → K w_12l2 w_12m0 w_12m1) : ∀ (n : Nat) w_12l2 w_12m0 w_12m1, (GI w_12m0 ∧ WI w_12m1 ∧ (0 < (w_12m0 5).toInt) ∧ ((w_12m0 14) = x14)) → S_m_drift_46 n_ K n w_12l2 w_12m0 w_12m1 := by
  intro n
  induction n with
  | zero => intro w_12l2 w_12m0 w_12m1 hI; exact trivial
  | succ n ih =>
    intro w_12l2 w_12m0 w_12m1 hI
    rw [S_m_drift_46_s]
    have hI0 := hI
    obtain ⟨i_1, i_2, i_3, i_4⟩ := hI0
    have i_1_g := i_1
    obtain ⟨⟨i_1_2a, i_1_2b⟩, ⟨i_1_3a, i_1_3b⟩, ⟨i_1_4a, i_1_4b⟩, ⟨i_1_5a, i_1_5b⟩, ⟨i_1_6a, i_1_6b⟩, ⟨i_1_14a, i_1_14b⟩, ⟨i_1_42a, i_1_42b⟩⟩ := i_1_g
    refine ⟨fun c_5 => ?_, fun c_5 => ?_⟩
    · skip
      try simp (disch := omega) only [↓i_in, ↓i_isCouple, ↓i_isBridge, ↓i_isTheme, ↓i_isBarge, i_lt, i_le, i_eq, i_clamp, i_upd, i_m1, Int32.toInt_toInt64, Int32.toInt_add, Int32.toInt_sub, Int32.toInt_mul, bm32, Int32.reduceToInt, Int64.reduceToInt, Nat.reduceLT, Nat.reduceEqDiff, reduceIte] at c_5
      exact hK w_12l2 w_12m0 w_12m1 hI
    · skip
      try simp (disch := omega) only [↓i_in, ↓i_isCouple, ↓i_isBridge, ↓i_isTheme, ↓i_isBarge, i_lt, i_le, i_eq, i_clamp, i_upd, i_m1, Int32.toInt_toInt64, Int32.toInt_add, Int32.toInt_sub, Int32.toInt_mul, bm32, Int32.reduceToInt, Int64.reduceToInt, Nat.reduceLT, Nat.reduceEqDiff, reduceIte] at c_5
      refine ⟨(s_draw (by first | omega | (simp (disch := omega) only [↓i_in, ↓i_isCouple, ↓i_isBridge, ↓i_isTheme, ↓i_isBarge, i_lt, i_le, i_eq, i_clamp, i_upd, i_m1, Int32.toInt_toInt64, Int32.toInt_add, Int32.toInt_sub, Int32.toInt_mul, bm32, Int32.reduceToInt, Int64.reduceToInt, Nat.reduceLT, Nat.reduceEqDiff, reduceIte] <;> omega))), ?_⟩
      intro r_16 u_15 e_6
      have p_7 := p_draw i_2 (by first | omega | (simp (disch := omega) only [↓i_in, ↓i_isCouple, ↓i_isBridge, ↓i_isTheme, ↓i_isBarge, i_lt, i_le, i_eq, i_clamp, i_upd, i_m1, Int32.toInt_toInt64, Int32.toInt_add, Int32.toInt_sub, Int32.toInt_mul, bm32, Int32.reduceToInt, Int64.reduceToInt, Nat.reduceLT, Nat.reduceEqDiff, reduceIte] <;> omega)) _ _ e_6.symm
      obtain ⟨i_8, i_9, i_10⟩ := p_7
      refine ⟨(s_draw (by first | omega | (simp (disch := omega) only [↓i_in, ↓i_isCouple, ↓i_isBridge, ↓i_isTheme, ↓i_isBarge, i_lt, i_le, i_eq, i_clamp, i_upd, i_m1, Int32.toInt_toInt64, Int32.toInt_add, Int32.toInt_sub, Int32.toInt_mul, bm32, Int32.reduceToInt, Int64.reduceToInt, Nat.reduceLT, Nat.reduceEqDiff, reduceIte] <;> omega))), ?_⟩
      intro r_19 u_18 e_11
      have p_12 := p_draw i_10 (by first | omega | (simp (disch := omega) only [↓i_in, ↓i_isCouple, ↓i_isBridge, ↓i_isTheme, ↓i_isBarge, i_lt, i_le, i_eq, i_clamp, i_upd, i_m1, Int32.toInt_toInt64, Int32.toInt_add, Int32.toInt_sub, Int32.toInt_mul, bm32, Int32.reduceToInt, Int64.reduceToInt, Nat.reduceLT, Nat.reduceEqDiff, reduceIte] <;> omega)) _ _ e_11.symm
      obtain ⟨i_13, i_14, i_15⟩ := p_12
      refine ⟨(s_grieves (by first | omega | (simp (disch := omega) only [↓i_in, ↓i_isCouple, ↓i_isBridge, ↓i_isTheme, ↓i_isBarge, i_lt, i_le, i_eq, i_clamp, i_upd, i_m1, Int32.toInt_toInt64, Int32.toInt_add, Int32.toInt_sub, Int32.toInt_mul, bm32, Int32.reduceToInt, Int64.reduceToInt, Nat.reduceLT, Nat.reduceEqDiff, reduceIte] <;> omega)) (by first | omega | (simp (disch := omega) only [↓i_in, ↓i_isCouple, ↓i_isBridge, ↓i_isTheme, ↓i_isBarge, i_lt, i_le, i_eq, i_clamp, i_upd, i_m1, Int32.toInt_toInt64, Int32.toInt_add, Int32.toInt_sub, Int32.toInt_mul, bm32, Int32.reduceToInt, Int64.reduceToInt, Nat.reduceLT, Nat.reduceEqDiff, reduceIte] <;> omega))), ?_⟩
      exact ih (w_12l2 + 1) w_12m0 (upd (f_m_grieves u_18 r_16 r_19) (19 : Int32).toNatClampNeg (((f_m_grieves u_18 r_16 r_19) (19 : Int32).toNatClampNeg) + 1)) (⟨i_1, (WI_upd (p_grieves i_15 (by first | omega | (simp (disch := omega) only [↓i_in, ↓i_isCouple, ↓i_isBridge, ↓i_isTheme, ↓i_isBarge, i_lt, i_le, i_eq, i_clamp, i_upd, i_m1, Int32.toInt_toInt64, Int32.toInt_add, Int32.toInt_sub, Int32.toInt_mul, bm32, Int32.reduceToInt, Int64.reduceToInt, Nat.reduceLT, Nat.reduceEqDiff, reduceIte] <;> omega)) (by first | omega | (simp (disch := omega) only [↓i_in, ↓i_isCouple, ↓i_isBridge, ↓i_isTheme, ↓i_isBarge, i_lt, i_le, i_eq, i_clamp, i_upd, i_m1, Int32.toInt_toInt64, Int32.toInt_add, Int32.toInt_sub, Int32.toInt_mul, bm32, Int32.reduceToInt, Int64.reduceToInt, Nat.reduceLT, Nat.reduceEqDiff, reduceIte] <;> omega))) (by first | (refine OKv.out ?_; (first | omega | (simp (disch := omega) only [↓i_in, ↓i_isCouple, ↓i_isBridge, ↓i_isTheme, ↓i_isBarge, i_lt, i_le, i_eq, i_clamp, i_upd, i_m1, Int32.toInt_toInt64, Int32.toInt_add, Int32.toInt_sub, Int32.toInt_mul, bm32, Int32.reduceToInt, Int64.reduceToInt, Nat.reduceLT, Nat.reduceEqDiff, reduceIte] <;> omega))) | (refine OKv.mk ?_; (first | omega | (simp (disch := omega) only [↓i_in, ↓i_isCouple, ↓i_isBridge, ↓i_isTheme, ↓i_isBarge, i_lt, i_le, i_eq, i_clamp, i_upd, i_m1, Int32.toInt_toInt64, Int32.toInt_add, Int32.toInt_sub, Int32.toInt_mul, bm32, Int32.reduceToInt, Int64.reduceToInt, Nat.reduceLT, Nat.reduceEqDiff, reduceIte] <;> omega))))), (by first | omega | (simp (disch := omega) only [↓i_in, ↓i_isCouple, ↓i_isBridge, ↓i_isTheme, ↓i_isBarge, i_lt, i_le, i_eq, i_clamp, i_upd, i_m1, Int32.toInt_toInt64, Int32.toInt_add, Int32.toInt_sub, Int32.toInt_mul, bm32, Int32.reduceToInt, Int64.reduceToInt, Nat.reduceLT, Nat.reduceEqDiff, reduceIte] <;> omega)), (by first | omega | (simp (disch := omega) only [↓i_in, ↓i_isCouple, ↓i_isBridge, ↓i_isTheme, ↓i_isBarge, i_lt, i_le, i_eq, i_clamp, i_upd, i_m1, Int32.toInt_toInt64, Int32.toInt_add, Int32.toInt_sub, Int32.toInt_mul, bm32, Int32.reduceToInt, Int64.reduceToInt, Nat.reduceLT, Nat.reduceEqDiff, reduceIte] <;> omega))⟩)
set_option maxHeartbeats 4000000 in
theorem pl_drift_46 {x14 : Int32} {n_ : Int32} : ∀ (n : Nat) w_12l2 w_12m0 w_12m1, (GI w_12m0 ∧ WI w_12m1 ∧ (0 < (w_12m0 5).toInt) ∧ ((w_12m0 14) = x14)) → ∀ r0 r1 r2, f_m_drift_46 n_ n w_12l2 w_12m0 w_12m1 = (r0, r1, r2) → GI r1 ∧ WI r2 ∧ (0 < (r1 5).toInt) ∧ ((r1 14) = x14) := by
  intro n
  induction n with
  | zero =>
    intro w_12l2 w_12m0 w_12m1 hI r0 r1 r2 e
    replace e : (w_12l2, w_12m0, w_12m1) = (r0, r1, r2) := e
    cases e
    exact hI
  | succ n ih =>
    intro w_12l2 w_12m0 w_12m1 hI r0 r1 r2 e
    rw [f_m_drift_46_s] at e
    have hI0 := hI
    obtain ⟨i_1, i_2, i_3, i_4⟩ := hI0
    have i_1_g := i_1
    obtain ⟨⟨i_1_2a, i_1_2b⟩, ⟨i_1_3a, i_1_3b⟩, ⟨i_1_4a, i_1_4b⟩, ⟨i_1_5a, i_1_5b⟩, ⟨i_1_6a, i_1_6b⟩, ⟨i_1_14a, i_1_14b⟩, ⟨i_1_42a, i_1_42b⟩⟩ := i_1_g
    by_cases c_5 : n_ ≤ w_12l2
    · rw [if_pos c_5] at e
      try simp (disch := omega) only [↓i_in, ↓i_isCouple, ↓i_isBridge, ↓i_isTheme, ↓i_isBarge, i_lt, i_le, i_eq, i_clamp, i_upd, i_m1, Int32.toInt_toInt64, Int32.toInt_add, Int32.toInt_sub, Int32.toInt_mul, bm32, Int32.reduceToInt, Int64.reduceToInt, Nat.reduceLT, Nat.reduceEqDiff, reduceIte] at c_5
      cases e
      exact hI
    · rw [if_neg c_5] at e
      try simp (disch := omega) only [↓i_in, ↓i_isCouple, ↓i_isBridge, ↓i_isTheme, ↓i_isBarge, i_lt, i_le, i_eq, i_clamp, i_upd, i_m1, Int32.toInt_toInt64, Int32.toInt_add, Int32.toInt_sub, Int32.toInt_mul, bm32, Int32.reduceToInt, Int64.reduceToInt, Nat.reduceLT, Nat.reduceEqDiff, reduceIte] at c_5
      generalize x_6 : (f_m_draw w_12m1 (w_12m0 5)) = z_7 at e
      obtain ⟨r_16, u_15⟩ := z_7
      replace e : ((match (f_m_draw u_15 10) with | (r_19, u_18) => (f_m_drift_46 n_ n (w_12l2 + 1) w_12m0 (upd (f_m_grieves u_18 r_16 r_19) (19 : Int32).toNatClampNeg (((f_m_grieves u_18 r_16 r_19) (19 : Int32).toNatClampNeg) + 1))))) = (r0, r1, r2) := e
      have p_8 := p_draw i_2 (by first | omega | (simp (disch := omega) only [↓i_in, ↓i_isCouple, ↓i_isBridge, ↓i_isTheme, ↓i_isBarge, i_lt, i_le, i_eq, i_clamp, i_upd, i_m1, Int32.toInt_toInt64, Int32.toInt_add, Int32.toInt_sub, Int32.toInt_mul, bm32, Int32.reduceToInt, Int64.reduceToInt, Nat.reduceLT, Nat.reduceEqDiff, reduceIte] <;> omega)) _ _ x_6
      obtain ⟨i_9, i_10, i_11⟩ := p_8
      generalize x_12 : (f_m_draw u_15 10) = z_13 at e
      obtain ⟨r_19, u_18⟩ := z_13
      replace e : ((f_m_drift_46 n_ n (w_12l2 + 1) w_12m0 (upd (f_m_grieves u_18 r_16 r_19) (19 : Int32).toNatClampNeg (((f_m_grieves u_18 r_16 r_19) (19 : Int32).toNatClampNeg) + 1)))) = (r0, r1, r2) := e
      have p_14 := p_draw i_11 (by first | omega | (simp (disch := omega) only [↓i_in, ↓i_isCouple, ↓i_isBridge, ↓i_isTheme, ↓i_isBarge, i_lt, i_le, i_eq, i_clamp, i_upd, i_m1, Int32.toInt_toInt64, Int32.toInt_add, Int32.toInt_sub, Int32.toInt_mul, bm32, Int32.reduceToInt, Int64.reduceToInt, Nat.reduceLT, Nat.reduceEqDiff, reduceIte] <;> omega)) _ _ x_12
      obtain ⟨i_15, i_16, i_17⟩ := p_14
      exact ih (w_12l2 + 1) w_12m0 (upd (f_m_grieves u_18 r_16 r_19) (19 : Int32).toNatClampNeg (((f_m_grieves u_18 r_16 r_19) (19 : Int32).toNatClampNeg) + 1)) (⟨i_1, (WI_upd (p_grieves i_17 (by first | omega | (simp (disch := omega) only [↓i_in, ↓i_isCouple, ↓i_isBridge, ↓i_isTheme, ↓i_isBarge, i_lt, i_le, i_eq, i_clamp, i_upd, i_m1, Int32.toInt_toInt64, Int32.toInt_add, Int32.toInt_sub, Int32.toInt_mul, bm32, Int32.reduceToInt, Int64.reduceToInt, Nat.reduceLT, Nat.reduceEqDiff, reduceIte] <;> omega)) (by first | omega | (simp (disch := omega) only [↓i_in, ↓i_isCouple, ↓i_isBridge, ↓i_isTheme, ↓i_isBarge, i_lt, i_le, i_eq, i_clamp, i_upd, i_m1, Int32.toInt_toInt64, Int32.toInt_add, Int32.toInt_sub, Int32.toInt_mul, bm32, Int32.reduceToInt, Int64.reduceToInt, Nat.reduceLT, Nat.reduceEqDiff, reduceIte] <;> omega))) (by first | (refine OKv.out ?_; (first | omega | (simp (disch := omega) only [↓i_in, ↓i_isCouple, ↓i_isBridge, ↓i_isTheme, ↓i_isBarge, i_lt, i_le, i_eq, i_clamp, i_upd, i_m1, Int32.toInt_toInt64, Int32.toInt_add, Int32.toInt_sub, Int32.toInt_mul, bm32, Int32.reduceToInt, Int64.reduceToInt, Nat.reduceLT, Nat.reduceEqDiff, reduceIte] <;> omega))) | (refine OKv.mk ?_; (first | omega | (simp (disch := omega) only [↓i_in, ↓i_isCouple, ↓i_isBridge, ↓i_isTheme, ↓i_isBarge, i_lt, i_le, i_eq, i_clamp, i_upd, i_m1, Int32.toInt_toInt64, Int32.toInt_add, Int32.toInt_sub, Int32.toInt_mul, bm32, Int32.reduceToInt, Int64.reduceToInt, Nat.reduceLT, Nat.reduceEqDiff, reduceIte] <;> omega))))), (by first | omega | (simp (disch := omega) only [↓i_in, ↓i_isCouple, ↓i_isBridge, ↓i_isTheme, ↓i_isBarge, i_lt, i_le, i_eq, i_clamp, i_upd, i_m1, Int32.toInt_toInt64, Int32.toInt_add, Int32.toInt_sub, Int32.toInt_mul, bm32, Int32.reduceToInt, Int64.reduceToInt, Nat.reduceLT, Nat.reduceEqDiff, reduceIte] <;> omega)), (by first | omega | (simp (disch := omega) only [↓i_in, ↓i_isCouple, ↓i_isBridge, ↓i_isTheme, ↓i_isBarge, i_lt, i_le, i_eq, i_clamp, i_upd, i_m1, Int32.toInt_toInt64, Int32.toInt_add, Int32.toInt_sub, Int32.toInt_mul, bm32, Int32.reduceToInt, Int64.reduceToInt, Nat.reduceLT, Nat.reduceEqDiff, reduceIte] <;> omega))⟩) _ _ _ e
end
section
set_option maxHeartbeats 4000000 in
theorem s_drift {G : Nat → Int32} {f0 : Nat → Int32} {n_ : Int32} (h_0 : GI G) (h_1 : WI f0) : S_m_drift G f0 n_ := by
  unfold S_m_drift
  have h_0_g := h_0
  obtain ⟨⟨h_0_2a, h_0_2b⟩, ⟨h_0_3a, h_0_3b⟩, ⟨h_0_4a, h_0_4b⟩, ⟨h_0_5a, h_0_5b⟩, ⟨h_0_6a, h_0_6b⟩, ⟨h_0_14a, h_0_14b⟩, ⟨h_0_42a, h_0_42b⟩⟩ := h_0_g
  refine ⟨s_in, ?_⟩
  refine ⟨fun c_1 => ?_, fun c_1 => ?_⟩
  · exact trivial
  · skip
    try simp (disch := omega) only [↓i_in, ↓i_isCouple, ↓i_isBridge, ↓i_isTheme, ↓i_isBarge, i_lt, i_le, i_eq, i_clamp, i_upd, i_m1, Int32.toInt_toInt64, Int32.toInt_add, Int32.toInt_sub, Int32.toInt_mul, bm32, Int32.reduceToInt, Int64.reduceToInt, Nat.reduceLT, Nat.reduceEqDiff, reduceIte] at c_1
    refine ⟨fun c_2 => ?_, fun c_2 => ?_⟩
    · exact trivial
    · skip
      try simp (disch := omega) only [↓i_in, ↓i_isCouple, ↓i_isBridge, ↓i_isTheme, ↓i_isBarge, i_lt, i_le, i_eq, i_clamp, i_upd, i_m1, Int32.toInt_toInt64, Int32.toInt_add, Int32.toInt_sub, Int32.toInt_mul, bm32, Int32.reduceToInt, Int64.reduceToInt, Nat.reduceLT, Nat.reduceEqDiff, reduceIte] at c_2
      refine ⟨fun c_3 => ?_, fun c_3 => ?_⟩
      · skip
        try simp (disch := omega) only [↓i_in, ↓i_isCouple, ↓i_isBridge, ↓i_isTheme, ↓i_isBarge, i_lt, i_le, i_eq, i_clamp, i_upd, i_m1, Int32.toInt_toInt64, Int32.toInt_add, Int32.toInt_sub, Int32.toInt_mul, bm32, Int32.reduceToInt, Int64.reduceToInt, Nat.reduceLT, Nat.reduceEqDiff, reduceIte] at c_3
        refine ⟨(s_minds h_0 h_1), ?_⟩
        intro o_10 o_11 e_4
        have p_5 := p_minds h_0 h_1 _ _ e_4.symm
        obtain ⟨i_6, i_7, i_8⟩ := p_5
        have i_6_g := i_6
        obtain ⟨⟨i_6_2a, i_6_2b⟩, ⟨i_6_3a, i_6_3b⟩, ⟨i_6_4a, i_6_4b⟩, ⟨i_6_5a, i_6_5b⟩, ⟨i_6_6a, i_6_6b⟩, ⟨i_6_14a, i_6_14b⟩, ⟨i_6_42a, i_6_42b⟩⟩ := i_6_g
        have o_10_3 := i_8 3 (by decide)
        have o_10_4 := i_8 4 (by decide)
        have o_10_5 := i_8 5 (by decide)
        have o_10_6 := i_8 6 (by decide)
        have o_10_14 := i_8 14 (by decide)
        have o_10_42 := i_8 42 (by decide)
        refine sl_drift_46 ?_ (((n_ : Int32).toInt - (0 : Int32).toInt).toNat + 1) 0 o_10 o_11 (⟨i_6, i_7, (by first | omega | (simp (disch := omega) only [↓i_in, ↓i_isCouple, ↓i_isBridge, ↓i_isTheme, ↓i_isBarge, i_lt, i_le, i_eq, i_clamp, i_upd, i_m1, Int32.toInt_toInt64, Int32.toInt_add, Int32.toInt_sub, Int32.toInt_mul, bm32, Int32.reduceToInt, Int64.reduceToInt, Nat.reduceLT, Nat.reduceEqDiff, reduceIte, o_10_3, o_10_4, o_10_5, o_10_6, o_10_14, o_10_42] <;> omega)), (by first | omega | (simp (disch := omega) only [↓i_in, ↓i_isCouple, ↓i_isBridge, ↓i_isTheme, ↓i_isBarge, i_lt, i_le, i_eq, i_clamp, i_upd, i_m1, Int32.toInt_toInt64, Int32.toInt_add, Int32.toInt_sub, Int32.toInt_mul, bm32, Int32.reduceToInt, Int64.reduceToInt, Nat.reduceLT, Nat.reduceEqDiff, reduceIte, o_10_3, o_10_4, o_10_5, o_10_6, o_10_14, o_10_42] <;> omega))⟩)
        intro w_12l2 w_12m0 w_12m1 i_9
        obtain ⟨i_10, i_11, i_12, i_13⟩ := i_9
        have i_10_g := i_10
        obtain ⟨⟨i_10_2a, i_10_2b⟩, ⟨i_10_3a, i_10_3b⟩, ⟨i_10_4a, i_10_4b⟩, ⟨i_10_5a, i_10_5b⟩, ⟨i_10_6a, i_10_6b⟩, ⟨i_10_14a, i_10_14b⟩, ⟨i_10_42a, i_10_42b⟩⟩ := i_10_g
        exact trivial
      · exact trivial
set_option maxHeartbeats 4000000 in
theorem p_drift {G : Nat → Int32} {f0 : Nat → Int32} {n_ : Int32} (h_0 : GI G) (h_1 : WI f0) : ∀ (r : Int32) (u1 : (Nat → Int32)) (u2 : (Nat → Int32)), f_m_drift G f0 n_ = (r, u1, u2) → GI u1 ∧ WI u2 ∧ ((u1 14) = (G 14)) := by
  have h_0_g := h_0
  obtain ⟨⟨h_0_2a, h_0_2b⟩, ⟨h_0_3a, h_0_3b⟩, ⟨h_0_4a, h_0_4b⟩, ⟨h_0_5a, h_0_5b⟩, ⟨h_0_6a, h_0_6b⟩, ⟨h_0_14a, h_0_14b⟩, ⟨h_0_42a, h_0_42b⟩⟩ := h_0_g
  intro r u1 u2 e
  unfold f_m_drift at e
  by_cases c_1 : (f_m_in n_.toInt64 1 99) = 0
  · rw [if_pos c_1] at e
    try simp (disch := omega) only [↓i_in, ↓i_isCouple, ↓i_isBridge, ↓i_isTheme, ↓i_isBarge, i_lt, i_le, i_eq, i_clamp, i_upd, i_m1, Int32.toInt_toInt64, Int32.toInt_add, Int32.toInt_sub, Int32.toInt_mul, bm32, Int32.reduceToInt, Int64.reduceToInt, Nat.reduceLT, Nat.reduceEqDiff, reduceIte] at c_1
    cases e
    exact ⟨h_0, h_1, (by first | omega | (simp (disch := omega) only [↓i_in, ↓i_isCouple, ↓i_isBridge, ↓i_isTheme, ↓i_isBarge, i_lt, i_le, i_eq, i_clamp, i_upd, i_m1, Int32.toInt_toInt64, Int32.toInt_add, Int32.toInt_sub, Int32.toInt_mul, bm32, Int32.reduceToInt, Int64.reduceToInt, Nat.reduceLT, Nat.reduceEqDiff, reduceIte] <;> omega))⟩
  · rw [if_neg c_1] at e
    try simp (disch := omega) only [↓i_in, ↓i_isCouple, ↓i_isBridge, ↓i_isTheme, ↓i_isBarge, i_lt, i_le, i_eq, i_clamp, i_upd, i_m1, Int32.toInt_toInt64, Int32.toInt_add, Int32.toInt_sub, Int32.toInt_mul, bm32, Int32.reduceToInt, Int64.reduceToInt, Nat.reduceLT, Nat.reduceEqDiff, reduceIte] at c_1
    by_cases c_2 : (G 5) = 0
    · rw [if_pos c_2] at e
      try simp (disch := omega) only [↓i_in, ↓i_isCouple, ↓i_isBridge, ↓i_isTheme, ↓i_isBarge, i_lt, i_le, i_eq, i_clamp, i_upd, i_m1, Int32.toInt_toInt64, Int32.toInt_add, Int32.toInt_sub, Int32.toInt_mul, bm32, Int32.reduceToInt, Int64.reduceToInt, Nat.reduceLT, Nat.reduceEqDiff, reduceIte] at c_2
      cases e
      exact ⟨h_0, h_1, (by first | omega | (simp (disch := omega) only [↓i_in, ↓i_isCouple, ↓i_isBridge, ↓i_isTheme, ↓i_isBarge, i_lt, i_le, i_eq, i_clamp, i_upd, i_m1, Int32.toInt_toInt64, Int32.toInt_add, Int32.toInt_sub, Int32.toInt_mul, bm32, Int32.reduceToInt, Int64.reduceToInt, Nat.reduceLT, Nat.reduceEqDiff, reduceIte] <;> omega))⟩
    · rw [if_neg c_2] at e
      try simp (disch := omega) only [↓i_in, ↓i_isCouple, ↓i_isBridge, ↓i_isTheme, ↓i_isBarge, i_lt, i_le, i_eq, i_clamp, i_upd, i_m1, Int32.toInt_toInt64, Int32.toInt_add, Int32.toInt_sub, Int32.toInt_mul, bm32, Int32.reduceToInt, Int64.reduceToInt, Nat.reduceLT, Nat.reduceEqDiff, reduceIte] at c_2
      by_cases c_3 : (f0 (19 : Int32).toNatClampNeg) ≤ 90000
      · rw [if_pos c_3] at e
        try simp (disch := omega) only [↓i_in, ↓i_isCouple, ↓i_isBridge, ↓i_isTheme, ↓i_isBarge, i_lt, i_le, i_eq, i_clamp, i_upd, i_m1, Int32.toInt_toInt64, Int32.toInt_add, Int32.toInt_sub, Int32.toInt_mul, bm32, Int32.reduceToInt, Int64.reduceToInt, Nat.reduceLT, Nat.reduceEqDiff, reduceIte] at c_3
        generalize x_4 : (f_m_minds G f0) = z_5 at e
        obtain ⟨o_10, o_11⟩ := z_5
        replace e : ((match ((f_m_drift_46 n_ (((n_ : Int32).toInt - (0 : Int32).toInt).toNat + 1) 0 o_10 o_11) : Int32 × (Nat → Int32) × (Nat → Int32)) with | (w_12l2, w_12m0, w_12m1) => ((w_12m1 (19 : Int32).toNatClampNeg), w_12m0, w_12m1))) = (r, u1, u2) := e
        have p_6 := p_minds h_0 h_1 _ _ x_4
        obtain ⟨i_7, i_8, i_9⟩ := p_6
        have i_7_g := i_7
        obtain ⟨⟨i_7_2a, i_7_2b⟩, ⟨i_7_3a, i_7_3b⟩, ⟨i_7_4a, i_7_4b⟩, ⟨i_7_5a, i_7_5b⟩, ⟨i_7_6a, i_7_6b⟩, ⟨i_7_14a, i_7_14b⟩, ⟨i_7_42a, i_7_42b⟩⟩ := i_7_g
        have o_10_3 := i_9 3 (by decide)
        have o_10_4 := i_9 4 (by decide)
        have o_10_5 := i_9 5 (by decide)
        have o_10_6 := i_9 6 (by decide)
        have o_10_14 := i_9 14 (by decide)
        have o_10_42 := i_9 42 (by decide)
        generalize x_10 : (f_m_drift_46 n_ (((n_ : Int32).toInt - (0 : Int32).toInt).toNat + 1) 0 o_10 o_11) = z_11 at e
        obtain ⟨w_12l2, w_12m0, w_12m1⟩ := z_11
        replace e : (((w_12m1 (19 : Int32).toNatClampNeg), w_12m0, w_12m1)) = (r, u1, u2) := e
        have p_12 := pl_drift_46 (((n_ : Int32).toInt - (0 : Int32).toInt).toNat + 1) 0 o_10 o_11 (⟨i_7, i_8, (by first | omega | (simp (disch := omega) only [↓i_in, ↓i_isCouple, ↓i_isBridge, ↓i_isTheme, ↓i_isBarge, i_lt, i_le, i_eq, i_clamp, i_upd, i_m1, Int32.toInt_toInt64, Int32.toInt_add, Int32.toInt_sub, Int32.toInt_mul, bm32, Int32.reduceToInt, Int64.reduceToInt, Nat.reduceLT, Nat.reduceEqDiff, reduceIte, o_10_3, o_10_4, o_10_5, o_10_6, o_10_14, o_10_42] <;> omega)), (by first | omega | (simp (disch := omega) only [↓i_in, ↓i_isCouple, ↓i_isBridge, ↓i_isTheme, ↓i_isBarge, i_lt, i_le, i_eq, i_clamp, i_upd, i_m1, Int32.toInt_toInt64, Int32.toInt_add, Int32.toInt_sub, Int32.toInt_mul, bm32, Int32.reduceToInt, Int64.reduceToInt, Nat.reduceLT, Nat.reduceEqDiff, reduceIte, o_10_3, o_10_4, o_10_5, o_10_6, o_10_14, o_10_42] <;> omega))⟩) _ _ _ x_10
        obtain ⟨i_13, i_14, i_15, i_16⟩ := p_12
        have i_13_g := i_13
        obtain ⟨⟨i_13_2a, i_13_2b⟩, ⟨i_13_3a, i_13_3b⟩, ⟨i_13_4a, i_13_4b⟩, ⟨i_13_5a, i_13_5b⟩, ⟨i_13_6a, i_13_6b⟩, ⟨i_13_14a, i_13_14b⟩, ⟨i_13_42a, i_13_42b⟩⟩ := i_13_g
        cases e
        exact ⟨i_13, i_14, (by first | omega | (simp (disch := omega) only [↓i_in, ↓i_isCouple, ↓i_isBridge, ↓i_isTheme, ↓i_isBarge, i_lt, i_le, i_eq, i_clamp, i_upd, i_m1, Int32.toInt_toInt64, Int32.toInt_add, Int32.toInt_sub, Int32.toInt_mul, bm32, Int32.reduceToInt, Int64.reduceToInt, Nat.reduceLT, Nat.reduceEqDiff, reduceIte, o_10_3, o_10_4, o_10_5, o_10_6, o_10_14, o_10_42] <;> omega))⟩
      · rw [if_neg c_3] at e
        try simp (disch := omega) only [↓i_in, ↓i_isCouple, ↓i_isBridge, ↓i_isTheme, ↓i_isBarge, i_lt, i_le, i_eq, i_clamp, i_upd, i_m1, Int32.toInt_toInt64, Int32.toInt_add, Int32.toInt_sub, Int32.toInt_mul, bm32, Int32.reduceToInt, Int64.reduceToInt, Nat.reduceLT, Nat.reduceEqDiff, reduceIte] at c_3
        cases e
        exact ⟨h_0, h_1, (by first | omega | (simp (disch := omega) only [↓i_in, ↓i_isCouple, ↓i_isBridge, ↓i_isTheme, ↓i_isBarge, i_lt, i_le, i_eq, i_clamp, i_upd, i_m1, Int32.toInt_toInt64, Int32.toInt_add, Int32.toInt_sub, Int32.toInt_mul, bm32, Int32.reduceToInt, Int64.reduceToInt, Nat.reduceLT, Nat.reduceEqDiff, reduceIte] <;> omega))⟩
set_option maxHeartbeats 4000000 in
theorem p_send {G : Nat → Int32} {f0 : Nat → Int32} {c_ : Int32} {b_ : Int32} {t_ : Int32} (h_0 : GI G) (h_1 : WI f0) : ∀ (r : Int32) (u1 : (Nat → Int32)) (u2 : (Nat → Int32)), f_m_send G f0 c_ b_ t_ = (r, u1, u2) → GI u1 ∧ WI u2 ∧ ((u1 14) = (G 14)) := by
  have h_0_g := h_0
  obtain ⟨⟨h_0_2a, h_0_2b⟩, ⟨h_0_3a, h_0_3b⟩, ⟨h_0_4a, h_0_4b⟩, ⟨h_0_5a, h_0_5b⟩, ⟨h_0_6a, h_0_6b⟩, ⟨h_0_14a, h_0_14b⟩, ⟨h_0_42a, h_0_42b⟩⟩ := h_0_g
  intro r u1 u2 e
  unfold f_m_send at e
  by_cases c_1 : (f_m_isCouple G c_) = 0
  · rw [if_pos c_1] at e
    try simp (disch := omega) only [↓i_in, ↓i_isCouple, ↓i_isBridge, ↓i_isTheme, ↓i_isBarge, i_lt, i_le, i_eq, i_clamp, i_upd, i_m1, Int32.toInt_toInt64, Int32.toInt_add, Int32.toInt_sub, Int32.toInt_mul, bm32, Int32.reduceToInt, Int64.reduceToInt, Nat.reduceLT, Nat.reduceEqDiff, reduceIte] at c_1
    cases e
    exact ⟨h_0, h_1, (by first | omega | (simp (disch := omega) only [↓i_in, ↓i_isCouple, ↓i_isBridge, ↓i_isTheme, ↓i_isBarge, i_lt, i_le, i_eq, i_clamp, i_upd, i_m1, Int32.toInt_toInt64, Int32.toInt_add, Int32.toInt_sub, Int32.toInt_mul, bm32, Int32.reduceToInt, Int64.reduceToInt, Nat.reduceLT, Nat.reduceEqDiff, reduceIte] <;> omega))⟩
  · rw [if_neg c_1] at e
    try simp (disch := omega) only [↓i_in, ↓i_isCouple, ↓i_isBridge, ↓i_isTheme, ↓i_isBarge, i_lt, i_le, i_eq, i_clamp, i_upd, i_m1, Int32.toInt_toInt64, Int32.toInt_add, Int32.toInt_sub, Int32.toInt_mul, bm32, Int32.reduceToInt, Int64.reduceToInt, Nat.reduceLT, Nat.reduceEqDiff, reduceIte] at c_1
    by_cases c_2 : (f_m_isBridge G b_) = 0
    · rw [if_pos c_2] at e
      try simp (disch := omega) only [↓i_in, ↓i_isCouple, ↓i_isBridge, ↓i_isTheme, ↓i_isBarge, i_lt, i_le, i_eq, i_clamp, i_upd, i_m1, Int32.toInt_toInt64, Int32.toInt_add, Int32.toInt_sub, Int32.toInt_mul, bm32, Int32.reduceToInt, Int64.reduceToInt, Nat.reduceLT, Nat.reduceEqDiff, reduceIte] at c_2
      cases e
      exact ⟨h_0, h_1, (by first | omega | (simp (disch := omega) only [↓i_in, ↓i_isCouple, ↓i_isBridge, ↓i_isTheme, ↓i_isBarge, i_lt, i_le, i_eq, i_clamp, i_upd, i_m1, Int32.toInt_toInt64, Int32.toInt_add, Int32.toInt_sub, Int32.toInt_mul, bm32, Int32.reduceToInt, Int64.reduceToInt, Nat.reduceLT, Nat.reduceEqDiff, reduceIte] <;> omega))⟩
    · rw [if_neg c_2] at e
      try simp (disch := omega) only [↓i_in, ↓i_isCouple, ↓i_isBridge, ↓i_isTheme, ↓i_isBarge, i_lt, i_le, i_eq, i_clamp, i_upd, i_m1, Int32.toInt_toInt64, Int32.toInt_add, Int32.toInt_sub, Int32.toInt_mul, bm32, Int32.reduceToInt, Int64.reduceToInt, Nat.reduceLT, Nat.reduceEqDiff, reduceIte] at c_2
      by_cases c_3 : (f_m_isTheme G t_) = 0
      · rw [if_pos c_3] at e
        try simp (disch := omega) only [↓i_in, ↓i_isCouple, ↓i_isBridge, ↓i_isTheme, ↓i_isBarge, i_lt, i_le, i_eq, i_clamp, i_upd, i_m1, Int32.toInt_toInt64, Int32.toInt_add, Int32.toInt_sub, Int32.toInt_mul, bm32, Int32.reduceToInt, Int64.reduceToInt, Nat.reduceLT, Nat.reduceEqDiff, reduceIte] at c_3
        cases e
        exact ⟨h_0, h_1, (by first | omega | (simp (disch := omega) only [↓i_in, ↓i_isCouple, ↓i_isBridge, ↓i_isTheme, ↓i_isBarge, i_lt, i_le, i_eq, i_clamp, i_upd, i_m1, Int32.toInt_toInt64, Int32.toInt_add, Int32.toInt_sub, Int32.toInt_mul, bm32, Int32.reduceToInt, Int64.reduceToInt, Nat.reduceLT, Nat.reduceEqDiff, reduceIte] <;> omega))⟩
      · rw [if_neg c_3] at e
        try simp (disch := omega) only [↓i_in, ↓i_isCouple, ↓i_isBridge, ↓i_isTheme, ↓i_isBarge, i_lt, i_le, i_eq, i_clamp, i_upd, i_m1, Int32.toInt_toInt64, Int32.toInt_add, Int32.toInt_sub, Int32.toInt_mul, bm32, Int32.reduceToInt, Int64.reduceToInt, Nat.reduceLT, Nat.reduceEqDiff, reduceIte] at c_3
        by_cases c_4 : (f_m_isDone f0 c_) = 0
        · rw [if_pos c_4] at e
          try simp (disch := omega) only [↓i_in, ↓i_isCouple, ↓i_isBridge, ↓i_isTheme, ↓i_isBarge, i_lt, i_le, i_eq, i_clamp, i_upd, i_m1, Int32.toInt_toInt64, Int32.toInt_add, Int32.toInt_sub, Int32.toInt_mul, bm32, Int32.reduceToInt, Int64.reduceToInt, Nat.reduceLT, Nat.reduceEqDiff, reduceIte] at c_4
          have v_5 := p_whoIsAt (G := G) (f0 := f0) (h_ := 0) (b_ := b_) h_0 (by first | omega | (simp (disch := omega) only [↓i_in, ↓i_isCouple, ↓i_isBridge, ↓i_isTheme, ↓i_isBarge, i_lt, i_le, i_eq, i_clamp, i_upd, i_m1, Int32.toInt_toInt64, Int32.toInt_add, Int32.toInt_sub, Int32.toInt_mul, bm32, Int32.reduceToInt, Int64.reduceToInt, Nat.reduceLT, Nat.reduceEqDiff, reduceIte] <;> omega)) (by first | omega | (simp (disch := omega) only [↓i_in, ↓i_isCouple, ↓i_isBridge, ↓i_isTheme, ↓i_isBarge, i_lt, i_le, i_eq, i_clamp, i_upd, i_m1, Int32.toInt_toInt64, Int32.toInt_add, Int32.toInt_sub, Int32.toInt_mul, bm32, Int32.reduceToInt, Int64.reduceToInt, Nat.reduceLT, Nat.reduceEqDiff, reduceIte] <;> omega))
          try simp (disch := omega) only [↓i_in, ↓i_isCouple, ↓i_isBridge, ↓i_isTheme, ↓i_isBarge, i_lt, i_le, i_eq, i_clamp, i_upd, i_m1, Int32.toInt_toInt64, Int32.toInt_add, Int32.toInt_sub, Int32.toInt_mul, bm32, Int32.reduceToInt, Int64.reduceToInt, Nat.reduceLT, Nat.reduceEqDiff, reduceIte] at v_5
          by_cases c_6 : (f_m_whoIsAt G f0 0 b_) = (-1)
          · rw [if_pos c_6] at e
            try simp (disch := omega) only [↓i_in, ↓i_isCouple, ↓i_isBridge, ↓i_isTheme, ↓i_isBarge, i_lt, i_le, i_eq, i_clamp, i_upd, i_m1, Int32.toInt_toInt64, Int32.toInt_add, Int32.toInt_sub, Int32.toInt_mul, bm32, Int32.reduceToInt, Int64.reduceToInt, Nat.reduceLT, Nat.reduceEqDiff, reduceIte] at c_6
            generalize x_7 : (f_m_minds G f0) = z_8 at e
            obtain ⟨o_24, o_25⟩ := z_8
            replace e : (((o_25 ((6 + c_) : Int32).toNatClampNeg), o_24, (upd (upd o_25 ((6 + c_) : Int32).toNatClampNeg b_) ((12 + c_) : Int32).toNatClampNeg t_))) = (r, u1, u2) := e
            have p_9 := p_minds h_0 h_1 _ _ x_7
            obtain ⟨i_10, i_11, i_12⟩ := p_9
            have i_10_g := i_10
            obtain ⟨⟨i_10_2a, i_10_2b⟩, ⟨i_10_3a, i_10_3b⟩, ⟨i_10_4a, i_10_4b⟩, ⟨i_10_5a, i_10_5b⟩, ⟨i_10_6a, i_10_6b⟩, ⟨i_10_14a, i_10_14b⟩, ⟨i_10_42a, i_10_42b⟩⟩ := i_10_g
            have o_24_3 := i_12 3 (by decide)
            have o_24_4 := i_12 4 (by decide)
            have o_24_5 := i_12 5 (by decide)
            have o_24_6 := i_12 6 (by decide)
            have o_24_14 := i_12 14 (by decide)
            have o_24_42 := i_12 42 (by decide)
            cases e
            exact ⟨i_10, (WI_upd (WI_upd i_11 (by first | (refine OKv.out ?_; (first | omega | (simp (disch := omega) only [↓i_in, ↓i_isCouple, ↓i_isBridge, ↓i_isTheme, ↓i_isBarge, i_lt, i_le, i_eq, i_clamp, i_upd, i_m1, Int32.toInt_toInt64, Int32.toInt_add, Int32.toInt_sub, Int32.toInt_mul, bm32, Int32.reduceToInt, Int64.reduceToInt, Nat.reduceLT, Nat.reduceEqDiff, reduceIte, o_24_3, o_24_4, o_24_5, o_24_6, o_24_14, o_24_42] <;> omega))) | (refine OKv.mk ?_; (first | omega | (simp (disch := omega) only [↓i_in, ↓i_isCouple, ↓i_isBridge, ↓i_isTheme, ↓i_isBarge, i_lt, i_le, i_eq, i_clamp, i_upd, i_m1, Int32.toInt_toInt64, Int32.toInt_add, Int32.toInt_sub, Int32.toInt_mul, bm32, Int32.reduceToInt, Int64.reduceToInt, Nat.reduceLT, Nat.reduceEqDiff, reduceIte, o_24_3, o_24_4, o_24_5, o_24_6, o_24_14, o_24_42] <;> omega))))) (by first | (refine OKv.out ?_; (first | omega | (simp (disch := omega) only [↓i_in, ↓i_isCouple, ↓i_isBridge, ↓i_isTheme, ↓i_isBarge, i_lt, i_le, i_eq, i_clamp, i_upd, i_m1, Int32.toInt_toInt64, Int32.toInt_add, Int32.toInt_sub, Int32.toInt_mul, bm32, Int32.reduceToInt, Int64.reduceToInt, Nat.reduceLT, Nat.reduceEqDiff, reduceIte, o_24_3, o_24_4, o_24_5, o_24_6, o_24_14, o_24_42] <;> omega))) | (refine OKv.mk ?_; (first | omega | (simp (disch := omega) only [↓i_in, ↓i_isCouple, ↓i_isBridge, ↓i_isTheme, ↓i_isBarge, i_lt, i_le, i_eq, i_clamp, i_upd, i_m1, Int32.toInt_toInt64, Int32.toInt_add, Int32.toInt_sub, Int32.toInt_mul, bm32, Int32.reduceToInt, Int64.reduceToInt, Nat.reduceLT, Nat.reduceEqDiff, reduceIte, o_24_3, o_24_4, o_24_5, o_24_6, o_24_14, o_24_42] <;> omega))))), (by first | omega | (simp (disch := omega) only [↓i_in, ↓i_isCouple, ↓i_isBridge, ↓i_isTheme, ↓i_isBarge, i_lt, i_le, i_eq, i_clamp, i_upd, i_m1, Int32.toInt_toInt64, Int32.toInt_add, Int32.toInt_sub, Int32.toInt_mul, bm32, Int32.reduceToInt, Int64.reduceToInt, Nat.reduceLT, Nat.reduceEqDiff, reduceIte, o_24_3, o_24_4, o_24_5, o_24_6, o_24_14, o_24_42] <;> omega))⟩
          · rw [if_neg c_6] at e
            try simp (disch := omega) only [↓i_in, ↓i_isCouple, ↓i_isBridge, ↓i_isTheme, ↓i_isBarge, i_lt, i_le, i_eq, i_clamp, i_upd, i_m1, Int32.toInt_toInt64, Int32.toInt_add, Int32.toInt_sub, Int32.toInt_mul, bm32, Int32.reduceToInt, Int64.reduceToInt, Nat.reduceLT, Nat.reduceEqDiff, reduceIte] at c_6
            by_cases c_13 : (f_m_whoIsAt G f0 0 b_) = c_
            · rw [if_pos c_13] at e
              try simp (disch := omega) only [↓i_in, ↓i_isCouple, ↓i_isBridge, ↓i_isTheme, ↓i_isBarge, i_lt, i_le, i_eq, i_clamp, i_upd, i_m1, Int32.toInt_toInt64, Int32.toInt_add, Int32.toInt_sub, Int32.toInt_mul, bm32, Int32.reduceToInt, Int64.reduceToInt, Nat.reduceLT, Nat.reduceEqDiff, reduceIte] at c_13
              generalize x_14 : (f_m_minds G f0) = z_15 at e
              obtain ⟨o_33, o_34⟩ := z_15
              replace e : (((o_34 ((6 + c_) : Int32).toNatClampNeg), o_33, (upd (upd o_34 ((6 + c_) : Int32).toNatClampNeg b_) ((12 + c_) : Int32).toNatClampNeg t_))) = (r, u1, u2) := e
              have p_16 := p_minds h_0 h_1 _ _ x_14
              obtain ⟨i_17, i_18, i_19⟩ := p_16
              have i_17_g := i_17
              obtain ⟨⟨i_17_2a, i_17_2b⟩, ⟨i_17_3a, i_17_3b⟩, ⟨i_17_4a, i_17_4b⟩, ⟨i_17_5a, i_17_5b⟩, ⟨i_17_6a, i_17_6b⟩, ⟨i_17_14a, i_17_14b⟩, ⟨i_17_42a, i_17_42b⟩⟩ := i_17_g
              have o_33_3 := i_19 3 (by decide)
              have o_33_4 := i_19 4 (by decide)
              have o_33_5 := i_19 5 (by decide)
              have o_33_6 := i_19 6 (by decide)
              have o_33_14 := i_19 14 (by decide)
              have o_33_42 := i_19 42 (by decide)
              cases e
              exact ⟨i_17, (WI_upd (WI_upd i_18 (by first | (refine OKv.out ?_; (first | omega | (simp (disch := omega) only [↓i_in, ↓i_isCouple, ↓i_isBridge, ↓i_isTheme, ↓i_isBarge, i_lt, i_le, i_eq, i_clamp, i_upd, i_m1, Int32.toInt_toInt64, Int32.toInt_add, Int32.toInt_sub, Int32.toInt_mul, bm32, Int32.reduceToInt, Int64.reduceToInt, Nat.reduceLT, Nat.reduceEqDiff, reduceIte, o_33_3, o_33_4, o_33_5, o_33_6, o_33_14, o_33_42] <;> omega))) | (refine OKv.mk ?_; (first | omega | (simp (disch := omega) only [↓i_in, ↓i_isCouple, ↓i_isBridge, ↓i_isTheme, ↓i_isBarge, i_lt, i_le, i_eq, i_clamp, i_upd, i_m1, Int32.toInt_toInt64, Int32.toInt_add, Int32.toInt_sub, Int32.toInt_mul, bm32, Int32.reduceToInt, Int64.reduceToInt, Nat.reduceLT, Nat.reduceEqDiff, reduceIte, o_33_3, o_33_4, o_33_5, o_33_6, o_33_14, o_33_42] <;> omega))))) (by first | (refine OKv.out ?_; (first | omega | (simp (disch := omega) only [↓i_in, ↓i_isCouple, ↓i_isBridge, ↓i_isTheme, ↓i_isBarge, i_lt, i_le, i_eq, i_clamp, i_upd, i_m1, Int32.toInt_toInt64, Int32.toInt_add, Int32.toInt_sub, Int32.toInt_mul, bm32, Int32.reduceToInt, Int64.reduceToInt, Nat.reduceLT, Nat.reduceEqDiff, reduceIte, o_33_3, o_33_4, o_33_5, o_33_6, o_33_14, o_33_42] <;> omega))) | (refine OKv.mk ?_; (first | omega | (simp (disch := omega) only [↓i_in, ↓i_isCouple, ↓i_isBridge, ↓i_isTheme, ↓i_isBarge, i_lt, i_le, i_eq, i_clamp, i_upd, i_m1, Int32.toInt_toInt64, Int32.toInt_add, Int32.toInt_sub, Int32.toInt_mul, bm32, Int32.reduceToInt, Int64.reduceToInt, Nat.reduceLT, Nat.reduceEqDiff, reduceIte, o_33_3, o_33_4, o_33_5, o_33_6, o_33_14, o_33_42] <;> omega))))), (by first | omega | (simp (disch := omega) only [↓i_in, ↓i_isCouple, ↓i_isBridge, ↓i_isTheme, ↓i_isBarge, i_lt, i_le, i_eq, i_clamp, i_upd, i_m1, Int32.toInt_toInt64, Int32.toInt_add, Int32.toInt_sub, Int32.toInt_mul, bm32, Int32.reduceToInt, Int64.reduceToInt, Nat.reduceLT, Nat.reduceEqDiff, reduceIte, o_33_3, o_33_4, o_33_5, o_33_6, o_33_14, o_33_42] <;> omega))⟩
            · rw [if_neg c_13] at e
              try simp (disch := omega) only [↓i_in, ↓i_isCouple, ↓i_isBridge, ↓i_isTheme, ↓i_isBarge, i_lt, i_le, i_eq, i_clamp, i_upd, i_m1, Int32.toInt_toInt64, Int32.toInt_add, Int32.toInt_sub, Int32.toInt_mul, bm32, Int32.reduceToInt, Int64.reduceToInt, Nat.reduceLT, Nat.reduceEqDiff, reduceIte] at c_13
              cases e
              exact ⟨h_0, h_1, (by first | omega | (simp (disch := omega) only [↓i_in, ↓i_isCouple, ↓i_isBridge, ↓i_isTheme, ↓i_isBarge, i_lt, i_le, i_eq, i_clamp, i_upd, i_m1, Int32.toInt_toInt64, Int32.toInt_add, Int32.toInt_sub, Int32.toInt_mul, bm32, Int32.reduceToInt, Int64.reduceToInt, Nat.reduceLT, Nat.reduceEqDiff, reduceIte] <;> omega))⟩
        · rw [if_neg c_4] at e
          try simp (disch := omega) only [↓i_in, ↓i_isCouple, ↓i_isBridge, ↓i_isTheme, ↓i_isBarge, i_lt, i_le, i_eq, i_clamp, i_upd, i_m1, Int32.toInt_toInt64, Int32.toInt_add, Int32.toInt_sub, Int32.toInt_mul, bm32, Int32.reduceToInt, Int64.reduceToInt, Nat.reduceLT, Nat.reduceEqDiff, reduceIte] at c_4
          cases e
          exact ⟨h_0, h_1, (by first | omega | (simp (disch := omega) only [↓i_in, ↓i_isCouple, ↓i_isBridge, ↓i_isTheme, ↓i_isBarge, i_lt, i_le, i_eq, i_clamp, i_upd, i_m1, Int32.toInt_toInt64, Int32.toInt_add, Int32.toInt_sub, Int32.toInt_mul, bm32, Int32.reduceToInt, Int64.reduceToInt, Nat.reduceLT, Nat.reduceEqDiff, reduceIte] <;> omega))⟩
set_option maxHeartbeats 4000000 in
theorem p_home {G : Nat → Int32} {f0 : Nat → Int32} {c_ : Int32} (h_0 : GI G) (h_1 : WI f0) : ∀ (r : Int32) (u1 : (Nat → Int32)) (u2 : (Nat → Int32)), f_m_home G f0 c_ = (r, u1, u2) → GI u1 ∧ WI u2 ∧ ((u1 14) = (G 14)) := by
  have h_0_g := h_0
  obtain ⟨⟨h_0_2a, h_0_2b⟩, ⟨h_0_3a, h_0_3b⟩, ⟨h_0_4a, h_0_4b⟩, ⟨h_0_5a, h_0_5b⟩, ⟨h_0_6a, h_0_6b⟩, ⟨h_0_14a, h_0_14b⟩, ⟨h_0_42a, h_0_42b⟩⟩ := h_0_g
  intro r u1 u2 e
  unfold f_m_home at e
  by_cases c_1 : (f_m_isCouple G c_) = 0
  · rw [if_pos c_1] at e
    try simp (disch := omega) only [↓i_in, ↓i_isCouple, ↓i_isBridge, ↓i_isTheme, ↓i_isBarge, i_lt, i_le, i_eq, i_clamp, i_upd, i_m1, Int32.toInt_toInt64, Int32.toInt_add, Int32.toInt_sub, Int32.toInt_mul, bm32, Int32.reduceToInt, Int64.reduceToInt, Nat.reduceLT, Nat.reduceEqDiff, reduceIte] at c_1
    cases e
    exact ⟨h_0, h_1, (by first | omega | (simp (disch := omega) only [↓i_in, ↓i_isCouple, ↓i_isBridge, ↓i_isTheme, ↓i_isBarge, i_lt, i_le, i_eq, i_clamp, i_upd, i_m1, Int32.toInt_toInt64, Int32.toInt_add, Int32.toInt_sub, Int32.toInt_mul, bm32, Int32.reduceToInt, Int64.reduceToInt, Nat.reduceLT, Nat.reduceEqDiff, reduceIte] <;> omega))⟩
  · rw [if_neg c_1] at e
    try simp (disch := omega) only [↓i_in, ↓i_isCouple, ↓i_isBridge, ↓i_isTheme, ↓i_isBarge, i_lt, i_le, i_eq, i_clamp, i_upd, i_m1, Int32.toInt_toInt64, Int32.toInt_add, Int32.toInt_sub, Int32.toInt_mul, bm32, Int32.reduceToInt, Int64.reduceToInt, Nat.reduceLT, Nat.reduceEqDiff, reduceIte] at c_1
    by_cases c_2 : (f0 ((6 + c_) : Int32).toNatClampNeg) = (-1)
    · rw [if_pos c_2] at e
      try simp (disch := omega) only [↓i_in, ↓i_isCouple, ↓i_isBridge, ↓i_isTheme, ↓i_isBarge, i_lt, i_le, i_eq, i_clamp, i_upd, i_m1, Int32.toInt_toInt64, Int32.toInt_add, Int32.toInt_sub, Int32.toInt_mul, bm32, Int32.reduceToInt, Int64.reduceToInt, Nat.reduceLT, Nat.reduceEqDiff, reduceIte] at c_2
      cases e
      exact ⟨h_0, h_1, (by first | omega | (simp (disch := omega) only [↓i_in, ↓i_isCouple, ↓i_isBridge, ↓i_isTheme, ↓i_isBarge, i_lt, i_le, i_eq, i_clamp, i_upd, i_m1, Int32.toInt_toInt64, Int32.toInt_add, Int32.toInt_sub, Int32.toInt_mul, bm32, Int32.reduceToInt, Int64.reduceToInt, Nat.reduceLT, Nat.reduceEqDiff, reduceIte] <;> omega))⟩
    · rw [if_neg c_2] at e
      try simp (disch := omega) only [↓i_in, ↓i_isCouple, ↓i_isBridge, ↓i_isTheme, ↓i_isBarge, i_lt, i_le, i_eq, i_clamp, i_upd, i_m1, Int32.toInt_toInt64, Int32.toInt_add, Int32.toInt_sub, Int32.toInt_mul, bm32, Int32.reduceToInt, Int64.reduceToInt, Nat.reduceLT, Nat.reduceEqDiff, reduceIte] at c_2
      generalize x_3 : (f_m_minds G f0) = z_4 at e
      obtain ⟨o_10, o_11⟩ := z_4
      replace e : (((f0 ((6 + c_) : Int32).toNatClampNeg), o_10, (upd o_11 ((6 + c_) : Int32).toNatClampNeg (-1)))) = (r, u1, u2) := e
      have p_5 := p_minds h_0 h_1 _ _ x_3
      obtain ⟨i_6, i_7, i_8⟩ := p_5
      have i_6_g := i_6
      obtain ⟨⟨i_6_2a, i_6_2b⟩, ⟨i_6_3a, i_6_3b⟩, ⟨i_6_4a, i_6_4b⟩, ⟨i_6_5a, i_6_5b⟩, ⟨i_6_6a, i_6_6b⟩, ⟨i_6_14a, i_6_14b⟩, ⟨i_6_42a, i_6_42b⟩⟩ := i_6_g
      have o_10_3 := i_8 3 (by decide)
      have o_10_4 := i_8 4 (by decide)
      have o_10_5 := i_8 5 (by decide)
      have o_10_6 := i_8 6 (by decide)
      have o_10_14 := i_8 14 (by decide)
      have o_10_42 := i_8 42 (by decide)
      cases e
      exact ⟨i_6, (WI_upd i_7 (by first | (refine OKv.out ?_; (first | omega | (simp (disch := omega) only [↓i_in, ↓i_isCouple, ↓i_isBridge, ↓i_isTheme, ↓i_isBarge, i_lt, i_le, i_eq, i_clamp, i_upd, i_m1, Int32.toInt_toInt64, Int32.toInt_add, Int32.toInt_sub, Int32.toInt_mul, bm32, Int32.reduceToInt, Int64.reduceToInt, Nat.reduceLT, Nat.reduceEqDiff, reduceIte, o_10_3, o_10_4, o_10_5, o_10_6, o_10_14, o_10_42] <;> omega))) | (refine OKv.mk ?_; (first | omega | (simp (disch := omega) only [↓i_in, ↓i_isCouple, ↓i_isBridge, ↓i_isTheme, ↓i_isBarge, i_lt, i_le, i_eq, i_clamp, i_upd, i_m1, Int32.toInt_toInt64, Int32.toInt_add, Int32.toInt_sub, Int32.toInt_mul, bm32, Int32.reduceToInt, Int64.reduceToInt, Nat.reduceLT, Nat.reduceEqDiff, reduceIte, o_10_3, o_10_4, o_10_5, o_10_6, o_10_14, o_10_42] <;> omega))))), (by first | omega | (simp (disch := omega) only [↓i_in, ↓i_isCouple, ↓i_isBridge, ↓i_isTheme, ↓i_isBarge, i_lt, i_le, i_eq, i_clamp, i_upd, i_m1, Int32.toInt_toInt64, Int32.toInt_add, Int32.toInt_sub, Int32.toInt_mul, bm32, Int32.reduceToInt, Int64.reduceToInt, Nat.reduceLT, Nat.reduceEqDiff, reduceIte, o_10_3, o_10_4, o_10_5, o_10_6, o_10_14, o_10_42] <;> omega))⟩
set_option maxHeartbeats 4000000 in
theorem p_grieve {G : Nat → Int32} {f0 : Nat → Int32} {c_ : Int32} {v_ : Int32} (h_0 : GI G) (h_1 : WI f0) : ∀ (r : Int32) (u1 : (Nat → Int32)) (u2 : (Nat → Int32)), f_m_grieve G f0 c_ v_ = (r, u1, u2) → GI u1 ∧ WI u2 ∧ ((u1 14) = (G 14)) := by
  have h_0_g := h_0
  obtain ⟨⟨h_0_2a, h_0_2b⟩, ⟨h_0_3a, h_0_3b⟩, ⟨h_0_4a, h_0_4b⟩, ⟨h_0_5a, h_0_5b⟩, ⟨h_0_6a, h_0_6b⟩, ⟨h_0_14a, h_0_14b⟩, ⟨h_0_42a, h_0_42b⟩⟩ := h_0_g
  intro r u1 u2 e
  unfold f_m_grieve at e
  by_cases c_1 : (f_m_isCouple G c_) = 0
  · rw [if_pos c_1] at e
    try simp (disch := omega) only [↓i_in, ↓i_isCouple, ↓i_isBridge, ↓i_isTheme, ↓i_isBarge, i_lt, i_le, i_eq, i_clamp, i_upd, i_m1, Int32.toInt_toInt64, Int32.toInt_add, Int32.toInt_sub, Int32.toInt_mul, bm32, Int32.reduceToInt, Int64.reduceToInt, Nat.reduceLT, Nat.reduceEqDiff, reduceIte] at c_1
    cases e
    exact ⟨h_0, h_1, (by first | omega | (simp (disch := omega) only [↓i_in, ↓i_isCouple, ↓i_isBridge, ↓i_isTheme, ↓i_isBarge, i_lt, i_le, i_eq, i_clamp, i_upd, i_m1, Int32.toInt_toInt64, Int32.toInt_add, Int32.toInt_sub, Int32.toInt_mul, bm32, Int32.reduceToInt, Int64.reduceToInt, Nat.reduceLT, Nat.reduceEqDiff, reduceIte] <;> omega))⟩
  · rw [if_neg c_1] at e
    try simp (disch := omega) only [↓i_in, ↓i_isCouple, ↓i_isBridge, ↓i_isTheme, ↓i_isBarge, i_lt, i_le, i_eq, i_clamp, i_upd, i_m1, Int32.toInt_toInt64, Int32.toInt_add, Int32.toInt_sub, Int32.toInt_mul, bm32, Int32.reduceToInt, Int64.reduceToInt, Nat.reduceLT, Nat.reduceEqDiff, reduceIte] at c_1
    by_cases c_2 : (f_m_in v_.toInt64 1 99) = 0
    · rw [if_pos c_2] at e
      try simp (disch := omega) only [↓i_in, ↓i_isCouple, ↓i_isBridge, ↓i_isTheme, ↓i_isBarge, i_lt, i_le, i_eq, i_clamp, i_upd, i_m1, Int32.toInt_toInt64, Int32.toInt_add, Int32.toInt_sub, Int32.toInt_mul, bm32, Int32.reduceToInt, Int64.reduceToInt, Nat.reduceLT, Nat.reduceEqDiff, reduceIte] at c_2
      cases e
      exact ⟨h_0, h_1, (by first | omega | (simp (disch := omega) only [↓i_in, ↓i_isCouple, ↓i_isBridge, ↓i_isTheme, ↓i_isBarge, i_lt, i_le, i_eq, i_clamp, i_upd, i_m1, Int32.toInt_toInt64, Int32.toInt_add, Int32.toInt_sub, Int32.toInt_mul, bm32, Int32.reduceToInt, Int64.reduceToInt, Nat.reduceLT, Nat.reduceEqDiff, reduceIte] <;> omega))⟩
    · rw [if_neg c_2] at e
      try simp (disch := omega) only [↓i_in, ↓i_isCouple, ↓i_isBridge, ↓i_isTheme, ↓i_isBarge, i_lt, i_le, i_eq, i_clamp, i_upd, i_m1, Int32.toInt_toInt64, Int32.toInt_add, Int32.toInt_sub, Int32.toInt_mul, bm32, Int32.reduceToInt, Int64.reduceToInt, Nat.reduceLT, Nat.reduceEqDiff, reduceIte] at c_2
      by_cases c_3 : (f_m_isDone f0 c_) = 0
      · rw [if_pos c_3] at e
        try simp (disch := omega) only [↓i_in, ↓i_isCouple, ↓i_isBridge, ↓i_isTheme, ↓i_isBarge, i_lt, i_le, i_eq, i_clamp, i_upd, i_m1, Int32.toInt_toInt64, Int32.toInt_add, Int32.toInt_sub, Int32.toInt_mul, bm32, Int32.reduceToInt, Int64.reduceToInt, Nat.reduceLT, Nat.reduceEqDiff, reduceIte] at c_3
        generalize x_4 : (f_m_minds G f0) = z_5 at e
        obtain ⟨o_16, o_17⟩ := z_5
        replace e : ((((f_m_grieves o_17 c_ v_) ((0 + c_) : Int32).toNatClampNeg), o_16, (f_m_grieves o_17 c_ v_))) = (r, u1, u2) := e
        have p_6 := p_minds h_0 h_1 _ _ x_4
        obtain ⟨i_7, i_8, i_9⟩ := p_6
        have i_7_g := i_7
        obtain ⟨⟨i_7_2a, i_7_2b⟩, ⟨i_7_3a, i_7_3b⟩, ⟨i_7_4a, i_7_4b⟩, ⟨i_7_5a, i_7_5b⟩, ⟨i_7_6a, i_7_6b⟩, ⟨i_7_14a, i_7_14b⟩, ⟨i_7_42a, i_7_42b⟩⟩ := i_7_g
        have o_16_3 := i_9 3 (by decide)
        have o_16_4 := i_9 4 (by decide)
        have o_16_5 := i_9 5 (by decide)
        have o_16_6 := i_9 6 (by decide)
        have o_16_14 := i_9 14 (by decide)
        have o_16_42 := i_9 42 (by decide)
        cases e
        exact ⟨i_7, (p_grieves i_8 (by first | omega | (simp (disch := omega) only [↓i_in, ↓i_isCouple, ↓i_isBridge, ↓i_isTheme, ↓i_isBarge, i_lt, i_le, i_eq, i_clamp, i_upd, i_m1, Int32.toInt_toInt64, Int32.toInt_add, Int32.toInt_sub, Int32.toInt_mul, bm32, Int32.reduceToInt, Int64.reduceToInt, Nat.reduceLT, Nat.reduceEqDiff, reduceIte, o_16_3, o_16_4, o_16_5, o_16_6, o_16_14, o_16_42] <;> omega)) (by first | omega | (simp (disch := omega) only [↓i_in, ↓i_isCouple, ↓i_isBridge, ↓i_isTheme, ↓i_isBarge, i_lt, i_le, i_eq, i_clamp, i_upd, i_m1, Int32.toInt_toInt64, Int32.toInt_add, Int32.toInt_sub, Int32.toInt_mul, bm32, Int32.reduceToInt, Int64.reduceToInt, Nat.reduceLT, Nat.reduceEqDiff, reduceIte, o_16_3, o_16_4, o_16_5, o_16_6, o_16_14, o_16_42] <;> omega))), (by first | omega | (simp (disch := omega) only [↓i_in, ↓i_isCouple, ↓i_isBridge, ↓i_isTheme, ↓i_isBarge, i_lt, i_le, i_eq, i_clamp, i_upd, i_m1, Int32.toInt_toInt64, Int32.toInt_add, Int32.toInt_sub, Int32.toInt_mul, bm32, Int32.reduceToInt, Int64.reduceToInt, Nat.reduceLT, Nat.reduceEqDiff, reduceIte, o_16_3, o_16_4, o_16_5, o_16_6, o_16_14, o_16_42] <;> omega))⟩
      · rw [if_neg c_3] at e
        try simp (disch := omega) only [↓i_in, ↓i_isCouple, ↓i_isBridge, ↓i_isTheme, ↓i_isBarge, i_lt, i_le, i_eq, i_clamp, i_upd, i_m1, Int32.toInt_toInt64, Int32.toInt_add, Int32.toInt_sub, Int32.toInt_mul, bm32, Int32.reduceToInt, Int64.reduceToInt, Nat.reduceLT, Nat.reduceEqDiff, reduceIte] at c_3
        cases e
        exact ⟨h_0, h_1, (by first | omega | (simp (disch := omega) only [↓i_in, ↓i_isCouple, ↓i_isBridge, ↓i_isTheme, ↓i_isBarge, i_lt, i_le, i_eq, i_clamp, i_upd, i_m1, Int32.toInt_toInt64, Int32.toInt_add, Int32.toInt_sub, Int32.toInt_mul, bm32, Int32.reduceToInt, Int64.reduceToInt, Nat.reduceLT, Nat.reduceEqDiff, reduceIte] <;> omega))⟩
set_option maxHeartbeats 4000000 in
theorem p_undo {G : Nat → Int32} {f0 : Nat → Int32} (h_0 : GI G) (h_1 : WI f0) : ∀ (r : Int32) (u1 : (Nat → Int32)) (u2 : (Nat → Int32)), f_m_undo G f0 = (r, u1, u2) → GI u1 ∧ WI u2 ∧ ((u1 14) = (G 14)) := by
  have h_0_g := h_0
  obtain ⟨⟨h_0_2a, h_0_2b⟩, ⟨h_0_3a, h_0_3b⟩, ⟨h_0_4a, h_0_4b⟩, ⟨h_0_5a, h_0_5b⟩, ⟨h_0_6a, h_0_6b⟩, ⟨h_0_14a, h_0_14b⟩, ⟨h_0_42a, h_0_42b⟩⟩ := h_0_g
  intro r u1 u2 e
  unfold f_m_undo at e
  by_cases c_1 : (G 2) = 0
  · rw [if_pos c_1] at e
    try simp (disch := omega) only [↓i_in, ↓i_isCouple, ↓i_isBridge, ↓i_isTheme, ↓i_isBarge, i_lt, i_le, i_eq, i_clamp, i_upd, i_m1, Int32.toInt_toInt64, Int32.toInt_add, Int32.toInt_sub, Int32.toInt_mul, bm32, Int32.reduceToInt, Int64.reduceToInt, Nat.reduceLT, Nat.reduceEqDiff, reduceIte] at c_1
    cases e
    exact ⟨h_0, h_1, (by first | omega | (simp (disch := omega) only [↓i_in, ↓i_isCouple, ↓i_isBridge, ↓i_isTheme, ↓i_isBarge, i_lt, i_le, i_eq, i_clamp, i_upd, i_m1, Int32.toInt_toInt64, Int32.toInt_add, Int32.toInt_sub, Int32.toInt_mul, bm32, Int32.reduceToInt, Int64.reduceToInt, Nat.reduceLT, Nat.reduceEqDiff, reduceIte] <;> omega))⟩
  · rw [if_neg c_1] at e
    try simp (disch := omega) only [↓i_in, ↓i_isCouple, ↓i_isBridge, ↓i_isTheme, ↓i_isBarge, i_lt, i_le, i_eq, i_clamp, i_upd, i_m1, Int32.toInt_toInt64, Int32.toInt_add, Int32.toInt_sub, Int32.toInt_mul, bm32, Int32.reduceToInt, Int64.reduceToInt, Nat.reduceLT, Nat.reduceEqDiff, reduceIte] at c_1
    cases e
    exact ⟨(GI_u2 h_0 (by first | omega | (simp (disch := omega) only [↓i_in, ↓i_isCouple, ↓i_isBridge, ↓i_isTheme, ↓i_isBarge, i_lt, i_le, i_eq, i_clamp, i_upd, i_m1, Int32.toInt_toInt64, Int32.toInt_add, Int32.toInt_sub, Int32.toInt_mul, bm32, Int32.reduceToInt, Int64.reduceToInt, Nat.reduceLT, Nat.reduceEqDiff, reduceIte] <;> omega)) (by first | omega | (simp (disch := omega) only [↓i_in, ↓i_isCouple, ↓i_isBridge, ↓i_isTheme, ↓i_isBarge, i_lt, i_le, i_eq, i_clamp, i_upd, i_m1, Int32.toInt_toInt64, Int32.toInt_add, Int32.toInt_sub, Int32.toInt_mul, bm32, Int32.reduceToInt, Int64.reduceToInt, Nat.reduceLT, Nat.reduceEqDiff, reduceIte] <;> omega))), (WI_upd (p_copy h_1 (by first | omega | (simp (disch := omega) only [↓i_in, ↓i_isCouple, ↓i_isBridge, ↓i_isTheme, ↓i_isBarge, i_lt, i_le, i_eq, i_clamp, i_upd, i_m1, Int32.toInt_toInt64, Int32.toInt_add, Int32.toInt_sub, Int32.toInt_mul, bm32, Int32.reduceToInt, Int64.reduceToInt, Nat.reduceLT, Nat.reduceEqDiff, reduceIte] <;> omega)) (by first | omega | (simp (disch := omega) only [↓i_in, ↓i_isCouple, ↓i_isBridge, ↓i_isTheme, ↓i_isBarge, i_lt, i_le, i_eq, i_clamp, i_upd, i_m1, Int32.toInt_toInt64, Int32.toInt_add, Int32.toInt_sub, Int32.toInt_mul, bm32, Int32.reduceToInt, Int64.reduceToInt, Nat.reduceLT, Nat.reduceEqDiff, reduceIte] <;> omega)) (by first | omega | (simp (disch := omega) only [↓i_in, ↓i_isCouple, ↓i_isBridge, ↓i_isTheme, ↓i_isBarge, i_lt, i_le, i_eq, i_clamp, i_upd, i_m1, Int32.toInt_toInt64, Int32.toInt_add, Int32.toInt_sub, Int32.toInt_mul, bm32, Int32.reduceToInt, Int64.reduceToInt, Nat.reduceLT, Nat.reduceEqDiff, reduceIte] <;> omega)) (by first | omega | (simp (disch := omega) only [↓i_in, ↓i_isCouple, ↓i_isBridge, ↓i_isTheme, ↓i_isBarge, i_lt, i_le, i_eq, i_clamp, i_upd, i_m1, Int32.toInt_toInt64, Int32.toInt_add, Int32.toInt_sub, Int32.toInt_mul, bm32, Int32.reduceToInt, Int64.reduceToInt, Nat.reduceLT, Nat.reduceEqDiff, reduceIte] <;> omega))) (by first | (refine OKv.out ?_; (first | omega | (simp (disch := omega) only [↓i_in, ↓i_isCouple, ↓i_isBridge, ↓i_isTheme, ↓i_isBarge, i_lt, i_le, i_eq, i_clamp, i_upd, i_m1, Int32.toInt_toInt64, Int32.toInt_add, Int32.toInt_sub, Int32.toInt_mul, bm32, Int32.reduceToInt, Int64.reduceToInt, Nat.reduceLT, Nat.reduceEqDiff, reduceIte] <;> omega))) | (refine OKv.same ?_ (h_1 _); (first | omega | (simp (disch := omega) only [↓i_in, ↓i_isCouple, ↓i_isBridge, ↓i_isTheme, ↓i_isBarge, i_lt, i_le, i_eq, i_clamp, i_upd, i_m1, Int32.toInt_toInt64, Int32.toInt_add, Int32.toInt_sub, Int32.toInt_mul, bm32, Int32.reduceToInt, Int64.reduceToInt, Nat.reduceLT, Nat.reduceEqDiff, reduceIte] <;> omega))))), (by first | omega | (simp (disch := omega) only [↓i_in, ↓i_isCouple, ↓i_isBridge, ↓i_isTheme, ↓i_isBarge, i_lt, i_le, i_eq, i_clamp, i_upd, i_m1, Int32.toInt_toInt64, Int32.toInt_add, Int32.toInt_sub, Int32.toInt_mul, bm32, Int32.reduceToInt, Int64.reduceToInt, Nat.reduceLT, Nat.reduceEqDiff, reduceIte] <;> omega))⟩
set_option maxHeartbeats 4000000 in
theorem p_keep {G : Nat → Int32} {f0 : Nat → Int32} {f1 : Nat → Int32} {i_ : Int32} (h_0 : GI G) (h_1 : WI f0) : ∀ (r : Int32) (u1 : (Nat → Int32)) (u2 : (Nat → Int32)) (u3 : (Nat → Int32)), f_m_keep G f0 f1 i_ = (r, u1, u2, u3) → GI u1 ∧ WI u2 ∧ ((u1 14) = (G 14)) := by
  have h_0_g := h_0
  obtain ⟨⟨h_0_2a, h_0_2b⟩, ⟨h_0_3a, h_0_3b⟩, ⟨h_0_4a, h_0_4b⟩, ⟨h_0_5a, h_0_5b⟩, ⟨h_0_6a, h_0_6b⟩, ⟨h_0_14a, h_0_14b⟩, ⟨h_0_42a, h_0_42b⟩⟩ := h_0_g
  intro r u1 u2 u3 e
  unfold f_m_keep at e
  by_cases c_1 : (f_m_in i_.toInt64 0 1) = 0
  · rw [if_pos c_1] at e
    try simp (disch := omega) only [↓i_in, ↓i_isCouple, ↓i_isBridge, ↓i_isTheme, ↓i_isBarge, i_lt, i_le, i_eq, i_clamp, i_upd, i_m1, Int32.toInt_toInt64, Int32.toInt_add, Int32.toInt_sub, Int32.toInt_mul, bm32, Int32.reduceToInt, Int64.reduceToInt, Nat.reduceLT, Nat.reduceEqDiff, reduceIte] at c_1
    cases e
    exact ⟨h_0, h_1, (by first | omega | (simp (disch := omega) only [↓i_in, ↓i_isCouple, ↓i_isBridge, ↓i_isTheme, ↓i_isBarge, i_lt, i_le, i_eq, i_clamp, i_upd, i_m1, Int32.toInt_toInt64, Int32.toInt_add, Int32.toInt_sub, Int32.toInt_mul, bm32, Int32.reduceToInt, Int64.reduceToInt, Nat.reduceLT, Nat.reduceEqDiff, reduceIte] <;> omega))⟩
  · rw [if_neg c_1] at e
    try simp (disch := omega) only [↓i_in, ↓i_isCouple, ↓i_isBridge, ↓i_isTheme, ↓i_isBarge, i_lt, i_le, i_eq, i_clamp, i_upd, i_m1, Int32.toInt_toInt64, Int32.toInt_add, Int32.toInt_sub, Int32.toInt_mul, bm32, Int32.reduceToInt, Int64.reduceToInt, Nat.reduceLT, Nat.reduceEqDiff, reduceIte] at c_1
    cases e
    exact ⟨(GI_u2 h_0 (by first | omega | (simp (disch := omega) only [↓i_in, ↓i_isCouple, ↓i_isBridge, ↓i_isTheme, ↓i_isBarge, i_lt, i_le, i_eq, i_clamp, i_upd, i_m1, Int32.toInt_toInt64, Int32.toInt_add, Int32.toInt_sub, Int32.toInt_mul, bm32, Int32.reduceToInt, Int64.reduceToInt, Nat.reduceLT, Nat.reduceEqDiff, reduceIte] <;> omega)) (by first | omega | (simp (disch := omega) only [↓i_in, ↓i_isCouple, ↓i_isBridge, ↓i_isTheme, ↓i_isBarge, i_lt, i_le, i_eq, i_clamp, i_upd, i_m1, Int32.toInt_toInt64, Int32.toInt_add, Int32.toInt_sub, Int32.toInt_mul, bm32, Int32.reduceToInt, Int64.reduceToInt, Nat.reduceLT, Nat.reduceEqDiff, reduceIte] <;> omega))), (p_copy h_1 (by first | omega | (simp (disch := omega) only [↓i_in, ↓i_isCouple, ↓i_isBridge, ↓i_isTheme, ↓i_isBarge, i_lt, i_le, i_eq, i_clamp, i_upd, i_m1, Int32.toInt_toInt64, Int32.toInt_add, Int32.toInt_sub, Int32.toInt_mul, bm32, Int32.reduceToInt, Int64.reduceToInt, Nat.reduceLT, Nat.reduceEqDiff, reduceIte] <;> omega)) (by first | omega | (simp (disch := omega) only [↓i_in, ↓i_isCouple, ↓i_isBridge, ↓i_isTheme, ↓i_isBarge, i_lt, i_le, i_eq, i_clamp, i_upd, i_m1, Int32.toInt_toInt64, Int32.toInt_add, Int32.toInt_sub, Int32.toInt_mul, bm32, Int32.reduceToInt, Int64.reduceToInt, Nat.reduceLT, Nat.reduceEqDiff, reduceIte] <;> omega)) (by first | omega | (simp (disch := omega) only [↓i_in, ↓i_isCouple, ↓i_isBridge, ↓i_isTheme, ↓i_isBarge, i_lt, i_le, i_eq, i_clamp, i_upd, i_m1, Int32.toInt_toInt64, Int32.toInt_add, Int32.toInt_sub, Int32.toInt_mul, bm32, Int32.reduceToInt, Int64.reduceToInt, Nat.reduceLT, Nat.reduceEqDiff, reduceIte] <;> omega)) (by first | omega | (simp (disch := omega) only [↓i_in, ↓i_isCouple, ↓i_isBridge, ↓i_isTheme, ↓i_isBarge, i_lt, i_le, i_eq, i_clamp, i_upd, i_m1, Int32.toInt_toInt64, Int32.toInt_add, Int32.toInt_sub, Int32.toInt_mul, bm32, Int32.reduceToInt, Int64.reduceToInt, Nat.reduceLT, Nat.reduceEqDiff, reduceIte] <;> omega))), (by first | omega | (simp (disch := omega) only [↓i_in, ↓i_isCouple, ↓i_isBridge, ↓i_isTheme, ↓i_isBarge, i_lt, i_le, i_eq, i_clamp, i_upd, i_m1, Int32.toInt_toInt64, Int32.toInt_add, Int32.toInt_sub, Int32.toInt_mul, bm32, Int32.reduceToInt, Int64.reduceToInt, Nat.reduceLT, Nat.reduceEqDiff, reduceIte] <;> omega))⟩
set_option maxHeartbeats 4000000 in
theorem p_goBack {G : Nat → Int32} {f0 : Nat → Int32} {f1 : Nat → Int32} {i_ : Int32} (h_0 : GI G) (h_1 : WI f0) : ∀ (r : Int32) (u1 : (Nat → Int32)) (u2 : (Nat → Int32)), f_m_goBack G f0 f1 i_ = (r, u1, u2) → GI u1 ∧ WI u2 ∧ ((u1 14) = (G 14)) := by
  have h_0_g := h_0
  obtain ⟨⟨h_0_2a, h_0_2b⟩, ⟨h_0_3a, h_0_3b⟩, ⟨h_0_4a, h_0_4b⟩, ⟨h_0_5a, h_0_5b⟩, ⟨h_0_6a, h_0_6b⟩, ⟨h_0_14a, h_0_14b⟩, ⟨h_0_42a, h_0_42b⟩⟩ := h_0_g
  intro r u1 u2 e
  unfold f_m_goBack at e
  by_cases c_1 : (f_m_in i_.toInt64 0 1) = 0
  · rw [if_pos c_1] at e
    try simp (disch := omega) only [↓i_in, ↓i_isCouple, ↓i_isBridge, ↓i_isTheme, ↓i_isBarge, i_lt, i_le, i_eq, i_clamp, i_upd, i_m1, Int32.toInt_toInt64, Int32.toInt_add, Int32.toInt_sub, Int32.toInt_mul, bm32, Int32.reduceToInt, Int64.reduceToInt, Nat.reduceLT, Nat.reduceEqDiff, reduceIte] at c_1
    cases e
    exact ⟨h_0, h_1, (by first | omega | (simp (disch := omega) only [↓i_in, ↓i_isCouple, ↓i_isBridge, ↓i_isTheme, ↓i_isBarge, i_lt, i_le, i_eq, i_clamp, i_upd, i_m1, Int32.toInt_toInt64, Int32.toInt_add, Int32.toInt_sub, Int32.toInt_mul, bm32, Int32.reduceToInt, Int64.reduceToInt, Nat.reduceLT, Nat.reduceEqDiff, reduceIte] <;> omega))⟩
  · rw [if_neg c_1] at e
    try simp (disch := omega) only [↓i_in, ↓i_isCouple, ↓i_isBridge, ↓i_isTheme, ↓i_isBarge, i_lt, i_le, i_eq, i_clamp, i_upd, i_m1, Int32.toInt_toInt64, Int32.toInt_add, Int32.toInt_sub, Int32.toInt_mul, bm32, Int32.reduceToInt, Int64.reduceToInt, Nat.reduceLT, Nat.reduceEqDiff, reduceIte] at c_1
    by_cases c_2 : (f1 (i_ : Int32).toNatClampNeg) = 0
    · rw [if_pos c_2] at e
      try simp (disch := omega) only [↓i_in, ↓i_isCouple, ↓i_isBridge, ↓i_isTheme, ↓i_isBarge, i_lt, i_le, i_eq, i_clamp, i_upd, i_m1, Int32.toInt_toInt64, Int32.toInt_add, Int32.toInt_sub, Int32.toInt_mul, bm32, Int32.reduceToInt, Int64.reduceToInt, Nat.reduceLT, Nat.reduceEqDiff, reduceIte] at c_2
      cases e
      exact ⟨h_0, h_1, (by first | omega | (simp (disch := omega) only [↓i_in, ↓i_isCouple, ↓i_isBridge, ↓i_isTheme, ↓i_isBarge, i_lt, i_le, i_eq, i_clamp, i_upd, i_m1, Int32.toInt_toInt64, Int32.toInt_add, Int32.toInt_sub, Int32.toInt_mul, bm32, Int32.reduceToInt, Int64.reduceToInt, Nat.reduceLT, Nat.reduceEqDiff, reduceIte] <;> omega))⟩
    · rw [if_neg c_2] at e
      try simp (disch := omega) only [↓i_in, ↓i_isCouple, ↓i_isBridge, ↓i_isTheme, ↓i_isBarge, i_lt, i_le, i_eq, i_clamp, i_upd, i_m1, Int32.toInt_toInt64, Int32.toInt_add, Int32.toInt_sub, Int32.toInt_mul, bm32, Int32.reduceToInt, Int64.reduceToInt, Nat.reduceLT, Nat.reduceEqDiff, reduceIte] at c_2
      cases e
      exact ⟨(GI_u2 h_0 (by first | omega | (simp (disch := omega) only [↓i_in, ↓i_isCouple, ↓i_isBridge, ↓i_isTheme, ↓i_isBarge, i_lt, i_le, i_eq, i_clamp, i_upd, i_m1, Int32.toInt_toInt64, Int32.toInt_add, Int32.toInt_sub, Int32.toInt_mul, bm32, Int32.reduceToInt, Int64.reduceToInt, Nat.reduceLT, Nat.reduceEqDiff, reduceIte] <;> omega)) (by first | omega | (simp (disch := omega) only [↓i_in, ↓i_isCouple, ↓i_isBridge, ↓i_isTheme, ↓i_isBarge, i_lt, i_le, i_eq, i_clamp, i_upd, i_m1, Int32.toInt_toInt64, Int32.toInt_add, Int32.toInt_sub, Int32.toInt_mul, bm32, Int32.reduceToInt, Int64.reduceToInt, Nat.reduceLT, Nat.reduceEqDiff, reduceIte] <;> omega))), (p_copy h_1 (by first | omega | (simp (disch := omega) only [↓i_in, ↓i_isCouple, ↓i_isBridge, ↓i_isTheme, ↓i_isBarge, i_lt, i_le, i_eq, i_clamp, i_upd, i_m1, Int32.toInt_toInt64, Int32.toInt_add, Int32.toInt_sub, Int32.toInt_mul, bm32, Int32.reduceToInt, Int64.reduceToInt, Nat.reduceLT, Nat.reduceEqDiff, reduceIte] <;> omega)) (by first | omega | (simp (disch := omega) only [↓i_in, ↓i_isCouple, ↓i_isBridge, ↓i_isTheme, ↓i_isBarge, i_lt, i_le, i_eq, i_clamp, i_upd, i_m1, Int32.toInt_toInt64, Int32.toInt_add, Int32.toInt_sub, Int32.toInt_mul, bm32, Int32.reduceToInt, Int64.reduceToInt, Nat.reduceLT, Nat.reduceEqDiff, reduceIte] <;> omega)) (by first | omega | (simp (disch := omega) only [↓i_in, ↓i_isCouple, ↓i_isBridge, ↓i_isTheme, ↓i_isBarge, i_lt, i_le, i_eq, i_clamp, i_upd, i_m1, Int32.toInt_toInt64, Int32.toInt_add, Int32.toInt_sub, Int32.toInt_mul, bm32, Int32.reduceToInt, Int64.reduceToInt, Nat.reduceLT, Nat.reduceEqDiff, reduceIte] <;> omega)) (by first | omega | (simp (disch := omega) only [↓i_in, ↓i_isCouple, ↓i_isBridge, ↓i_isTheme, ↓i_isBarge, i_lt, i_le, i_eq, i_clamp, i_upd, i_m1, Int32.toInt_toInt64, Int32.toInt_add, Int32.toInt_sub, Int32.toInt_mul, bm32, Int32.reduceToInt, Int64.reduceToInt, Nat.reduceLT, Nat.reduceEqDiff, reduceIte] <;> omega))), (by first | omega | (simp (disch := omega) only [↓i_in, ↓i_isCouple, ↓i_isBridge, ↓i_isTheme, ↓i_isBarge, i_lt, i_le, i_eq, i_clamp, i_upd, i_m1, Int32.toInt_toInt64, Int32.toInt_add, Int32.toInt_sub, Int32.toInt_mul, bm32, Int32.reduceToInt, Int64.reduceToInt, Nat.reduceLT, Nat.reduceEqDiff, reduceIte] <;> omega))⟩
set_option maxHeartbeats 4000000 in
theorem p_seed {f0 : Nat → Int32} {v_ : Int32} (h_0 : WI f0) : ∀ (r : Int32) (u : (Nat → Int32)), f_m_seed f0 v_ = (r, u) → WI u := by
  intro r u e
  unfold f_m_seed at e
  by_cases c_1 : 0 ≤ v_
  · rw [if_pos c_1] at e
    try simp (disch := omega) only [↓i_in, ↓i_isCouple, ↓i_isBridge, ↓i_isTheme, ↓i_isBarge, i_lt, i_le, i_eq, i_clamp, i_upd, i_m1, Int32.toInt_toInt64, Int32.toInt_add, Int32.toInt_sub, Int32.toInt_mul, bm32, Int32.reduceToInt, Int64.reduceToInt, Nat.reduceLT, Nat.reduceEqDiff, reduceIte] at c_1
    cases e
    exact (WI_upd h_0 (by first | (refine OKv.out ?_; (first | omega | (simp (disch := omega) only [↓i_in, ↓i_isCouple, ↓i_isBridge, ↓i_isTheme, ↓i_isBarge, i_lt, i_le, i_eq, i_clamp, i_upd, i_m1, Int32.toInt_toInt64, Int32.toInt_add, Int32.toInt_sub, Int32.toInt_mul, bm32, Int32.reduceToInt, Int64.reduceToInt, Nat.reduceLT, Nat.reduceEqDiff, reduceIte] <;> omega))) | (refine OKv.mk ?_; (first | omega | (simp (disch := omega) only [↓i_in, ↓i_isCouple, ↓i_isBridge, ↓i_isTheme, ↓i_isBarge, i_lt, i_le, i_eq, i_clamp, i_upd, i_m1, Int32.toInt_toInt64, Int32.toInt_add, Int32.toInt_sub, Int32.toInt_mul, bm32, Int32.reduceToInt, Int64.reduceToInt, Nat.reduceLT, Nat.reduceEqDiff, reduceIte] <;> omega)))))
  · rw [if_neg c_1] at e
    try simp (disch := omega) only [↓i_in, ↓i_isCouple, ↓i_isBridge, ↓i_isTheme, ↓i_isBarge, i_lt, i_le, i_eq, i_clamp, i_upd, i_m1, Int32.toInt_toInt64, Int32.toInt_add, Int32.toInt_sub, Int32.toInt_mul, bm32, Int32.reduceToInt, Int64.reduceToInt, Nat.reduceLT, Nat.reduceEqDiff, reduceIte] at c_1
    cases e
    exact h_0
set_option maxHeartbeats 4000000 in
theorem p_tear {G : Nat → Int32} (h_0 : GI G) : ∀ (r : Int32) (u1 : (Nat → Int32)), f_m_tear G = (r, u1) → GI u1 ∧ ((u1 14) = (G 14)) := by
  have h_0_g := h_0
  obtain ⟨⟨h_0_2a, h_0_2b⟩, ⟨h_0_3a, h_0_3b⟩, ⟨h_0_4a, h_0_4b⟩, ⟨h_0_5a, h_0_5b⟩, ⟨h_0_6a, h_0_6b⟩, ⟨h_0_14a, h_0_14b⟩, ⟨h_0_42a, h_0_42b⟩⟩ := h_0_g
  intro r u1 e
  unfold f_m_tear at e
  cases e
  exact ⟨(GI_u42 h_0 (by first | omega | (simp (disch := omega) only [↓i_in, ↓i_isCouple, ↓i_isBridge, ↓i_isTheme, ↓i_isBarge, i_lt, i_le, i_eq, i_clamp, i_upd, i_m1, Int32.toInt_toInt64, Int32.toInt_add, Int32.toInt_sub, Int32.toInt_mul, bm32, Int32.reduceToInt, Int64.reduceToInt, Nat.reduceLT, Nat.reduceEqDiff, reduceIte] <;> omega)) (by first | omega | (simp (disch := omega) only [↓i_in, ↓i_isCouple, ↓i_isBridge, ↓i_isTheme, ↓i_isBarge, i_lt, i_le, i_eq, i_clamp, i_upd, i_m1, Int32.toInt_toInt64, Int32.toInt_add, Int32.toInt_sub, Int32.toInt_mul, bm32, Int32.reduceToInt, Int64.reduceToInt, Nat.reduceLT, Nat.reduceEqDiff, reduceIte] <;> omega))), (by first | omega | (simp (disch := omega) only [↓i_in, ↓i_isCouple, ↓i_isBridge, ↓i_isTheme, ↓i_isBarge, i_lt, i_le, i_eq, i_clamp, i_upd, i_m1, Int32.toInt_toInt64, Int32.toInt_add, Int32.toInt_sub, Int32.toInt_mul, bm32, Int32.reduceToInt, Int64.reduceToInt, Nat.reduceLT, Nat.reduceEqDiff, reduceIte] <;> omega))⟩
set_option maxHeartbeats 4000000 in
theorem p_write {G : Nat → Int32} {f43 : Nat → Int32} {f44 : Nat → Int32} {c_ : Int32} {g_ : Int32} (h_0 : GI G) (h_1 : RI f43) : ∀ (r : Int32) (u1 : (Nat → Int32)) (u2 : (Nat → Int32)) (u3 : (Nat → Int32)), f_m_write G f43 f44 c_ g_ = (r, u1, u2, u3) → GI u1 ∧ RI u2 ∧ ((u1 14) = (G 14)) := by
  have h_0_g := h_0
  obtain ⟨⟨h_0_2a, h_0_2b⟩, ⟨h_0_3a, h_0_3b⟩, ⟨h_0_4a, h_0_4b⟩, ⟨h_0_5a, h_0_5b⟩, ⟨h_0_6a, h_0_6b⟩, ⟨h_0_14a, h_0_14b⟩, ⟨h_0_42a, h_0_42b⟩⟩ := h_0_g
  intro r u1 u2 u3 e
  unfold f_m_write at e
  by_cases c_1 : (f_m_isCouple G c_) = 0
  · rw [if_pos c_1] at e
    try simp (disch := omega) only [↓i_in, ↓i_isCouple, ↓i_isBridge, ↓i_isTheme, ↓i_isBarge, i_lt, i_le, i_eq, i_clamp, i_upd, i_m1, Int32.toInt_toInt64, Int32.toInt_add, Int32.toInt_sub, Int32.toInt_mul, bm32, Int32.reduceToInt, Int64.reduceToInt, Nat.reduceLT, Nat.reduceEqDiff, reduceIte] at c_1
    cases e
    exact ⟨h_0, h_1, (by first | omega | (simp (disch := omega) only [↓i_in, ↓i_isCouple, ↓i_isBridge, ↓i_isTheme, ↓i_isBarge, i_lt, i_le, i_eq, i_clamp, i_upd, i_m1, Int32.toInt_toInt64, Int32.toInt_add, Int32.toInt_sub, Int32.toInt_mul, bm32, Int32.reduceToInt, Int64.reduceToInt, Nat.reduceLT, Nat.reduceEqDiff, reduceIte] <;> omega))⟩
  · rw [if_neg c_1] at e
    try simp (disch := omega) only [↓i_in, ↓i_isCouple, ↓i_isBridge, ↓i_isTheme, ↓i_isBarge, i_lt, i_le, i_eq, i_clamp, i_upd, i_m1, Int32.toInt_toInt64, Int32.toInt_add, Int32.toInt_sub, Int32.toInt_mul, bm32, Int32.reduceToInt, Int64.reduceToInt, Nat.reduceLT, Nat.reduceEqDiff, reduceIte] at c_1
    by_cases c_2 : (f_m_in g_.toInt64 0 99) = 0
    · rw [if_pos c_2] at e
      try simp (disch := omega) only [↓i_in, ↓i_isCouple, ↓i_isBridge, ↓i_isTheme, ↓i_isBarge, i_lt, i_le, i_eq, i_clamp, i_upd, i_m1, Int32.toInt_toInt64, Int32.toInt_add, Int32.toInt_sub, Int32.toInt_mul, bm32, Int32.reduceToInt, Int64.reduceToInt, Nat.reduceLT, Nat.reduceEqDiff, reduceIte] at c_2
      cases e
      exact ⟨h_0, h_1, (by first | omega | (simp (disch := omega) only [↓i_in, ↓i_isCouple, ↓i_isBridge, ↓i_isTheme, ↓i_isBarge, i_lt, i_le, i_eq, i_clamp, i_upd, i_m1, Int32.toInt_toInt64, Int32.toInt_add, Int32.toInt_sub, Int32.toInt_mul, bm32, Int32.reduceToInt, Int64.reduceToInt, Nat.reduceLT, Nat.reduceEqDiff, reduceIte] <;> omega))⟩
    · rw [if_neg c_2] at e
      try simp (disch := omega) only [↓i_in, ↓i_isCouple, ↓i_isBridge, ↓i_isTheme, ↓i_isBarge, i_lt, i_le, i_eq, i_clamp, i_upd, i_m1, Int32.toInt_toInt64, Int32.toInt_add, Int32.toInt_sub, Int32.toInt_mul, bm32, Int32.reduceToInt, Int64.reduceToInt, Nat.reduceLT, Nat.reduceEqDiff, reduceIte] at c_2
      by_cases c_3 : (G 42) = 15
      · rw [if_pos c_3] at e
        try simp (disch := omega) only [↓i_in, ↓i_isCouple, ↓i_isBridge, ↓i_isTheme, ↓i_isBarge, i_lt, i_le, i_eq, i_clamp, i_upd, i_m1, Int32.toInt_toInt64, Int32.toInt_add, Int32.toInt_sub, Int32.toInt_mul, bm32, Int32.reduceToInt, Int64.reduceToInt, Nat.reduceLT, Nat.reduceEqDiff, reduceIte] at c_3
        cases e
        exact ⟨h_0, h_1, (by first | omega | (simp (disch := omega) only [↓i_in, ↓i_isCouple, ↓i_isBridge, ↓i_isTheme, ↓i_isBarge, i_lt, i_le, i_eq, i_clamp, i_upd, i_m1, Int32.toInt_toInt64, Int32.toInt_add, Int32.toInt_sub, Int32.toInt_mul, bm32, Int32.reduceToInt, Int64.reduceToInt, Nat.reduceLT, Nat.reduceEqDiff, reduceIte] <;> omega))⟩
      · rw [if_neg c_3] at e
        try simp (disch := omega) only [↓i_in, ↓i_isCouple, ↓i_isBridge, ↓i_isTheme, ↓i_isBarge, i_lt, i_le, i_eq, i_clamp, i_upd, i_m1, Int32.toInt_toInt64, Int32.toInt_add, Int32.toInt_sub, Int32.toInt_mul, bm32, Int32.reduceToInt, Int64.reduceToInt, Nat.reduceLT, Nat.reduceEqDiff, reduceIte] at c_3
        cases e
        exact ⟨(GI_u42 h_0 (by first | omega | (simp (disch := omega) only [↓i_in, ↓i_isCouple, ↓i_isBridge, ↓i_isTheme, ↓i_isBarge, i_lt, i_le, i_eq, i_clamp, i_upd, i_m1, Int32.toInt_toInt64, Int32.toInt_add, Int32.toInt_sub, Int32.toInt_mul, bm32, Int32.reduceToInt, Int64.reduceToInt, Nat.reduceLT, Nat.reduceEqDiff, reduceIte] <;> omega)) (by first | omega | (simp (disch := omega) only [↓i_in, ↓i_isCouple, ↓i_isBridge, ↓i_isTheme, ↓i_isBarge, i_lt, i_le, i_eq, i_clamp, i_upd, i_m1, Int32.toInt_toInt64, Int32.toInt_add, Int32.toInt_sub, Int32.toInt_mul, bm32, Int32.reduceToInt, Int64.reduceToInt, Nat.reduceLT, Nat.reduceEqDiff, reduceIte] <;> omega))), (RI_upd h_1 (by first | omega | (simp (disch := omega) only [↓i_in, ↓i_isCouple, ↓i_isBridge, ↓i_isTheme, ↓i_isBarge, i_lt, i_le, i_eq, i_clamp, i_upd, i_m1, Int32.toInt_toInt64, Int32.toInt_add, Int32.toInt_sub, Int32.toInt_mul, bm32, Int32.reduceToInt, Int64.reduceToInt, Nat.reduceLT, Nat.reduceEqDiff, reduceIte] <;> omega)) (by first | omega | (simp (disch := omega) only [↓i_in, ↓i_isCouple, ↓i_isBridge, ↓i_isTheme, ↓i_isBarge, i_lt, i_le, i_eq, i_clamp, i_upd, i_m1, Int32.toInt_toInt64, Int32.toInt_add, Int32.toInt_sub, Int32.toInt_mul, bm32, Int32.reduceToInt, Int64.reduceToInt, Nat.reduceLT, Nat.reduceEqDiff, reduceIte] <;> omega))), (by first | omega | (simp (disch := omega) only [↓i_in, ↓i_isCouple, ↓i_isBridge, ↓i_isTheme, ↓i_isBarge, i_lt, i_le, i_eq, i_clamp, i_upd, i_m1, Int32.toInt_toInt64, Int32.toInt_add, Int32.toInt_sub, Int32.toInt_mul, bm32, Int32.reduceToInt, Int64.reduceToInt, Nat.reduceLT, Nat.reduceEqDiff, reduceIte] <;> omega))⟩
set_option maxHeartbeats 4000000 in
theorem p_feed {G : Nat → Int32} {f13 : Nat → Int32} {c_ : Int32} (h_0 : GI G) : ∀ (r : Int32) (u1 : (Nat → Int32)) (u2 : (Nat → Int32)), f_m_feed G f13 c_ = (r, u1, u2) → GI u1 := by
  have h_0_g := h_0
  obtain ⟨⟨h_0_2a, h_0_2b⟩, ⟨h_0_3a, h_0_3b⟩, ⟨h_0_4a, h_0_4b⟩, ⟨h_0_5a, h_0_5b⟩, ⟨h_0_6a, h_0_6b⟩, ⟨h_0_14a, h_0_14b⟩, ⟨h_0_42a, h_0_42b⟩⟩ := h_0_g
  intro r u1 u2 e
  unfold f_m_feed at e
  by_cases c_1 : (f_m_in c_.toInt64 0 255) = 0
  · rw [if_pos c_1] at e
    try simp (disch := omega) only [↓i_in, ↓i_isCouple, ↓i_isBridge, ↓i_isTheme, ↓i_isBarge, i_lt, i_le, i_eq, i_clamp, i_upd, i_m1, Int32.toInt_toInt64, Int32.toInt_add, Int32.toInt_sub, Int32.toInt_mul, bm32, Int32.reduceToInt, Int64.reduceToInt, Nat.reduceLT, Nat.reduceEqDiff, reduceIte] at c_1
    cases e
    exact h_0
  · rw [if_neg c_1] at e
    try simp (disch := omega) only [↓i_in, ↓i_isCouple, ↓i_isBridge, ↓i_isTheme, ↓i_isBarge, i_lt, i_le, i_eq, i_clamp, i_upd, i_m1, Int32.toInt_toInt64, Int32.toInt_add, Int32.toInt_sub, Int32.toInt_mul, bm32, Int32.reduceToInt, Int64.reduceToInt, Nat.reduceLT, Nat.reduceEqDiff, reduceIte] at c_1
    by_cases c_2 : (G 14) = 240
    · rw [if_pos c_2] at e
      try simp (disch := omega) only [↓i_in, ↓i_isCouple, ↓i_isBridge, ↓i_isTheme, ↓i_isBarge, i_lt, i_le, i_eq, i_clamp, i_upd, i_m1, Int32.toInt_toInt64, Int32.toInt_add, Int32.toInt_sub, Int32.toInt_mul, bm32, Int32.reduceToInt, Int64.reduceToInt, Nat.reduceLT, Nat.reduceEqDiff, reduceIte] at c_2
      cases e
      exact h_0
    · rw [if_neg c_2] at e
      try simp (disch := omega) only [↓i_in, ↓i_isCouple, ↓i_isBridge, ↓i_isTheme, ↓i_isBarge, i_lt, i_le, i_eq, i_clamp, i_upd, i_m1, Int32.toInt_toInt64, Int32.toInt_add, Int32.toInt_sub, Int32.toInt_mul, bm32, Int32.reduceToInt, Int64.reduceToInt, Nat.reduceLT, Nat.reduceEqDiff, reduceIte] at c_2
      cases e
      exact (GI_u14 h_0 (by first | omega | (simp (disch := omega) only [↓i_in, ↓i_isCouple, ↓i_isBridge, ↓i_isTheme, ↓i_isBarge, i_lt, i_le, i_eq, i_clamp, i_upd, i_m1, Int32.toInt_toInt64, Int32.toInt_add, Int32.toInt_sub, Int32.toInt_mul, bm32, Int32.reduceToInt, Int64.reduceToInt, Nat.reduceLT, Nat.reduceEqDiff, reduceIte] <;> omega)) (by first | omega | (simp (disch := omega) only [↓i_in, ↓i_isCouple, ↓i_isBridge, ↓i_isTheme, ↓i_isBarge, i_lt, i_le, i_eq, i_clamp, i_upd, i_m1, Int32.toInt_toInt64, Int32.toInt_add, Int32.toInt_sub, Int32.toInt_mul, bm32, Int32.reduceToInt, Int64.reduceToInt, Nat.reduceLT, Nat.reduceEqDiff, reduceIte] <;> omega)))
set_option maxHeartbeats 4000000 in
theorem sl_carried_63 {G : Nat → Int32} {f0 : Nat → Int32} {b_ : Int32} {K : Int32 → Int32 → Int32 → Int32 → Prop} (h_0 : GI G) (hK : ∀ w_11l6 w_11l5 w_11l4 w_11l3, ((0 ≤ w_11l6.toInt) ∧ (w_11l6.toInt ≤ 6)) → K w_11l6 w_11l5 w_11l4 w_11l3) : ∀ (n : Nat) w_11l6 w_11l5 w_11l4 w_11l3, ((0 ≤ w_11l6.toInt) ∧ (w_11l6.toInt ≤ 6)) → S_m_carried_63 G f0 b_ K n w_11l6 w_11l5 w_11l4 w_11l3 := by
  have h_0_g := h_0
  obtain ⟨⟨h_0_2a, h_0_2b⟩, ⟨h_0_3a, h_0_3b⟩, ⟨h_0_4a, h_0_4b⟩, ⟨h_0_5a, h_0_5b⟩, ⟨h_0_6a, h_0_6b⟩, ⟨h_0_14a, h_0_14b⟩, ⟨h_0_42a, h_0_42b⟩⟩ := h_0_g
  intro n
  induction n with
  | zero => intro w_11l6 w_11l5 w_11l4 w_11l3 hI; exact trivial
  | succ n ih =>
    intro w_11l6 w_11l5 w_11l4 w_11l3 hI
    rw [S_m_carried_63_s]
    have hI0 := hI
    obtain ⟨i_1, i_2⟩ := hI0
    refine ⟨fun c_3 => ?_, fun c_3 => ?_⟩
    · skip
      try simp (disch := omega) only [↓i_in, ↓i_isCouple, ↓i_isBridge, ↓i_isTheme, ↓i_isBarge, i_lt, i_le, i_eq, i_clamp, i_upd, i_m1, Int32.toInt_toInt64, Int32.toInt_add, Int32.toInt_sub, Int32.toInt_mul, bm32, Int32.reduceToInt, Int64.reduceToInt, Nat.reduceLT, Nat.reduceEqDiff, reduceIte] at c_3
      exact hK w_11l6 w_11l5 w_11l4 w_11l3 hI
    · skip
      try simp (disch := omega) only [↓i_in, ↓i_isCouple, ↓i_isBridge, ↓i_isTheme, ↓i_isBarge, i_lt, i_le, i_eq, i_clamp, i_upd, i_m1, Int32.toInt_toInt64, Int32.toInt_add, Int32.toInt_sub, Int32.toInt_mul, bm32, Int32.reduceToInt, Int64.reduceToInt, Nat.reduceLT, Nat.reduceEqDiff, reduceIte] at c_3
      refine ⟨fun c_4 => ?_, fun c_4 => ?_⟩
      · skip
        try simp (disch := omega) only [↓i_in, ↓i_isCouple, ↓i_isBridge, ↓i_isTheme, ↓i_isBarge, i_lt, i_le, i_eq, i_clamp, i_upd, i_m1, Int32.toInt_toInt64, Int32.toInt_add, Int32.toInt_sub, Int32.toInt_mul, bm32, Int32.reduceToInt, Int64.reduceToInt, Nat.reduceLT, Nat.reduceEqDiff, reduceIte] at c_4
        refine ⟨fun c_5 => ?_, fun c_5 => ?_⟩
        · skip
          try simp (disch := omega) only [↓i_in, ↓i_isCouple, ↓i_isBridge, ↓i_isTheme, ↓i_isBarge, i_lt, i_le, i_eq, i_clamp, i_upd, i_m1, Int32.toInt_toInt64, Int32.toInt_add, Int32.toInt_sub, Int32.toInt_mul, bm32, Int32.reduceToInt, Int64.reduceToInt, Nat.reduceLT, Nat.reduceEqDiff, reduceIte] at c_5
          refine ⟨fun c_6 => ?_, fun c_6 => ?_⟩
          · skip
            try simp (disch := omega) only [↓i_in, ↓i_isCouple, ↓i_isBridge, ↓i_isTheme, ↓i_isBarge, i_lt, i_le, i_eq, i_clamp, i_upd, i_m1, Int32.toInt_toInt64, Int32.toInt_add, Int32.toInt_sub, Int32.toInt_mul, bm32, Int32.reduceToInt, Int64.reduceToInt, Nat.reduceLT, Nat.reduceEqDiff, reduceIte] at c_6
            refine ⟨(s_whoIsAt h_0 (by first | omega | (simp (disch := omega) only [↓i_in, ↓i_isCouple, ↓i_isBridge, ↓i_isTheme, ↓i_isBarge, i_lt, i_le, i_eq, i_clamp, i_upd, i_m1, Int32.toInt_toInt64, Int32.toInt_add, Int32.toInt_sub, Int32.toInt_mul, bm32, Int32.reduceToInt, Int64.reduceToInt, Nat.reduceLT, Nat.reduceEqDiff, reduceIte] <;> omega)) (by first | omega | (simp (disch := omega) only [↓i_in, ↓i_isCouple, ↓i_isBridge, ↓i_isTheme, ↓i_isBarge, i_lt, i_le, i_eq, i_clamp, i_upd, i_m1, Int32.toInt_toInt64, Int32.toInt_add, Int32.toInt_sub, Int32.toInt_mul, bm32, Int32.reduceToInt, Int64.reduceToInt, Nat.reduceLT, Nat.reduceEqDiff, reduceIte] <;> omega))), ?_⟩
            have v_7 := p_whoIsAt (G := G) (f0 := f0) (h_ := 0) (b_ := w_11l6) h_0 (by first | omega | (simp (disch := omega) only [↓i_in, ↓i_isCouple, ↓i_isBridge, ↓i_isTheme, ↓i_isBarge, i_lt, i_le, i_eq, i_clamp, i_upd, i_m1, Int32.toInt_toInt64, Int32.toInt_add, Int32.toInt_sub, Int32.toInt_mul, bm32, Int32.reduceToInt, Int64.reduceToInt, Nat.reduceLT, Nat.reduceEqDiff, reduceIte] <;> omega)) (by first | omega | (simp (disch := omega) only [↓i_in, ↓i_isCouple, ↓i_isBridge, ↓i_isTheme, ↓i_isBarge, i_lt, i_le, i_eq, i_clamp, i_upd, i_m1, Int32.toInt_toInt64, Int32.toInt_add, Int32.toInt_sub, Int32.toInt_mul, bm32, Int32.reduceToInt, Int64.reduceToInt, Nat.reduceLT, Nat.reduceEqDiff, reduceIte] <;> omega))
            try simp (disch := omega) only [↓i_in, ↓i_isCouple, ↓i_isBridge, ↓i_isTheme, ↓i_isBarge, i_lt, i_le, i_eq, i_clamp, i_upd, i_m1, Int32.toInt_toInt64, Int32.toInt_add, Int32.toInt_sub, Int32.toInt_mul, bm32, Int32.reduceToInt, Int64.reduceToInt, Nat.reduceLT, Nat.reduceEqDiff, reduceIte] at v_7
            refine ⟨fun c_8 => ?_, fun c_8 => ?_⟩
            · skip
              try simp (disch := omega) only [↓i_in, ↓i_isCouple, ↓i_isBridge, ↓i_isTheme, ↓i_isBarge, i_lt, i_le, i_eq, i_clamp, i_upd, i_m1, Int32.toInt_toInt64, Int32.toInt_add, Int32.toInt_sub, Int32.toInt_mul, bm32, Int32.reduceToInt, Int64.reduceToInt, Nat.reduceLT, Nat.reduceEqDiff, reduceIte] at c_8
              exact ih (w_11l6 + 1) w_11l3 w_11l6 w_11l3 (⟨(by first | omega | (simp (disch := omega) only [↓i_in, ↓i_isCouple, ↓i_isBridge, ↓i_isTheme, ↓i_isBarge, i_lt, i_le, i_eq, i_clamp, i_upd, i_m1, Int32.toInt_toInt64, Int32.toInt_add, Int32.toInt_sub, Int32.toInt_mul, bm32, Int32.reduceToInt, Int64.reduceToInt, Nat.reduceLT, Nat.reduceEqDiff, reduceIte] <;> omega)), (by first | omega | (simp (disch := omega) only [↓i_in, ↓i_isCouple, ↓i_isBridge, ↓i_isTheme, ↓i_isBarge, i_lt, i_le, i_eq, i_clamp, i_upd, i_m1, Int32.toInt_toInt64, Int32.toInt_add, Int32.toInt_sub, Int32.toInt_mul, bm32, Int32.reduceToInt, Int64.reduceToInt, Nat.reduceLT, Nat.reduceEqDiff, reduceIte] <;> omega))⟩)
            · skip
              try simp (disch := omega) only [↓i_in, ↓i_isCouple, ↓i_isBridge, ↓i_isTheme, ↓i_isBarge, i_lt, i_le, i_eq, i_clamp, i_upd, i_m1, Int32.toInt_toInt64, Int32.toInt_add, Int32.toInt_sub, Int32.toInt_mul, bm32, Int32.reduceToInt, Int64.reduceToInt, Nat.reduceLT, Nat.reduceEqDiff, reduceIte] at c_8
              exact ih (w_11l6 + 1) w_11l3 w_11l6 (w_11l3 / 2) (⟨(by first | omega | (simp (disch := omega) only [↓i_in, ↓i_isCouple, ↓i_isBridge, ↓i_isTheme, ↓i_isBarge, i_lt, i_le, i_eq, i_clamp, i_upd, i_m1, Int32.toInt_toInt64, Int32.toInt_add, Int32.toInt_sub, Int32.toInt_mul, bm32, Int32.reduceToInt, Int64.reduceToInt, Nat.reduceLT, Nat.reduceEqDiff, reduceIte] <;> omega)), (by first | omega | (simp (disch := omega) only [↓i_in, ↓i_isCouple, ↓i_isBridge, ↓i_isTheme, ↓i_isBarge, i_lt, i_le, i_eq, i_clamp, i_upd, i_m1, Int32.toInt_toInt64, Int32.toInt_add, Int32.toInt_sub, Int32.toInt_mul, bm32, Int32.reduceToInt, Int64.reduceToInt, Nat.reduceLT, Nat.reduceEqDiff, reduceIte] <;> omega))⟩)
          · skip
            try simp (disch := omega) only [↓i_in, ↓i_isCouple, ↓i_isBridge, ↓i_isTheme, ↓i_isBarge, i_lt, i_le, i_eq, i_clamp, i_upd, i_m1, Int32.toInt_toInt64, Int32.toInt_add, Int32.toInt_sub, Int32.toInt_mul, bm32, Int32.reduceToInt, Int64.reduceToInt, Nat.reduceLT, Nat.reduceEqDiff, reduceIte] at c_6
            refine ⟨(s_whoIsAt h_0 (by first | omega | (simp (disch := omega) only [↓i_in, ↓i_isCouple, ↓i_isBridge, ↓i_isTheme, ↓i_isBarge, i_lt, i_le, i_eq, i_clamp, i_upd, i_m1, Int32.toInt_toInt64, Int32.toInt_add, Int32.toInt_sub, Int32.toInt_mul, bm32, Int32.reduceToInt, Int64.reduceToInt, Nat.reduceLT, Nat.reduceEqDiff, reduceIte] <;> omega)) (by first | omega | (simp (disch := omega) only [↓i_in, ↓i_isCouple, ↓i_isBridge, ↓i_isTheme, ↓i_isBarge, i_lt, i_le, i_eq, i_clamp, i_upd, i_m1, Int32.toInt_toInt64, Int32.toInt_add, Int32.toInt_sub, Int32.toInt_mul, bm32, Int32.reduceToInt, Int64.reduceToInt, Nat.reduceLT, Nat.reduceEqDiff, reduceIte] <;> omega))), ?_⟩
            have v_9 := p_whoIsAt (G := G) (f0 := f0) (h_ := 0) (b_ := w_11l6) h_0 (by first | omega | (simp (disch := omega) only [↓i_in, ↓i_isCouple, ↓i_isBridge, ↓i_isTheme, ↓i_isBarge, i_lt, i_le, i_eq, i_clamp, i_upd, i_m1, Int32.toInt_toInt64, Int32.toInt_add, Int32.toInt_sub, Int32.toInt_mul, bm32, Int32.reduceToInt, Int64.reduceToInt, Nat.reduceLT, Nat.reduceEqDiff, reduceIte] <;> omega)) (by first | omega | (simp (disch := omega) only [↓i_in, ↓i_isCouple, ↓i_isBridge, ↓i_isTheme, ↓i_isBarge, i_lt, i_le, i_eq, i_clamp, i_upd, i_m1, Int32.toInt_toInt64, Int32.toInt_add, Int32.toInt_sub, Int32.toInt_mul, bm32, Int32.reduceToInt, Int64.reduceToInt, Nat.reduceLT, Nat.reduceEqDiff, reduceIte] <;> omega))
            try simp (disch := omega) only [↓i_in, ↓i_isCouple, ↓i_isBridge, ↓i_isTheme, ↓i_isBarge, i_lt, i_le, i_eq, i_clamp, i_upd, i_m1, Int32.toInt_toInt64, Int32.toInt_add, Int32.toInt_sub, Int32.toInt_mul, bm32, Int32.reduceToInt, Int64.reduceToInt, Nat.reduceLT, Nat.reduceEqDiff, reduceIte] at v_9
            refine ⟨fun c_10 => ?_, fun c_10 => ?_⟩
            · skip
              try simp (disch := omega) only [↓i_in, ↓i_isCouple, ↓i_isBridge, ↓i_isTheme, ↓i_isBarge, i_lt, i_le, i_eq, i_clamp, i_upd, i_m1, Int32.toInt_toInt64, Int32.toInt_add, Int32.toInt_sub, Int32.toInt_mul, bm32, Int32.reduceToInt, Int64.reduceToInt, Nat.reduceLT, Nat.reduceEqDiff, reduceIte] at c_10
              exact ih (w_11l6 + 1) w_11l5 w_11l6 w_11l3 (⟨(by first | omega | (simp (disch := omega) only [↓i_in, ↓i_isCouple, ↓i_isBridge, ↓i_isTheme, ↓i_isBarge, i_lt, i_le, i_eq, i_clamp, i_upd, i_m1, Int32.toInt_toInt64, Int32.toInt_add, Int32.toInt_sub, Int32.toInt_mul, bm32, Int32.reduceToInt, Int64.reduceToInt, Nat.reduceLT, Nat.reduceEqDiff, reduceIte] <;> omega)), (by first | omega | (simp (disch := omega) only [↓i_in, ↓i_isCouple, ↓i_isBridge, ↓i_isTheme, ↓i_isBarge, i_lt, i_le, i_eq, i_clamp, i_upd, i_m1, Int32.toInt_toInt64, Int32.toInt_add, Int32.toInt_sub, Int32.toInt_mul, bm32, Int32.reduceToInt, Int64.reduceToInt, Nat.reduceLT, Nat.reduceEqDiff, reduceIte] <;> omega))⟩)
            · skip
              try simp (disch := omega) only [↓i_in, ↓i_isCouple, ↓i_isBridge, ↓i_isTheme, ↓i_isBarge, i_lt, i_le, i_eq, i_clamp, i_upd, i_m1, Int32.toInt_toInt64, Int32.toInt_add, Int32.toInt_sub, Int32.toInt_mul, bm32, Int32.reduceToInt, Int64.reduceToInt, Nat.reduceLT, Nat.reduceEqDiff, reduceIte] at c_10
              exact ih (w_11l6 + 1) w_11l5 w_11l6 (w_11l3 / 2) (⟨(by first | omega | (simp (disch := omega) only [↓i_in, ↓i_isCouple, ↓i_isBridge, ↓i_isTheme, ↓i_isBarge, i_lt, i_le, i_eq, i_clamp, i_upd, i_m1, Int32.toInt_toInt64, Int32.toInt_add, Int32.toInt_sub, Int32.toInt_mul, bm32, Int32.reduceToInt, Int64.reduceToInt, Nat.reduceLT, Nat.reduceEqDiff, reduceIte] <;> omega)), (by first | omega | (simp (disch := omega) only [↓i_in, ↓i_isCouple, ↓i_isBridge, ↓i_isTheme, ↓i_isBarge, i_lt, i_le, i_eq, i_clamp, i_upd, i_m1, Int32.toInt_toInt64, Int32.toInt_add, Int32.toInt_sub, Int32.toInt_mul, bm32, Int32.reduceToInt, Int64.reduceToInt, Nat.reduceLT, Nat.reduceEqDiff, reduceIte] <;> omega))⟩)
        · skip
          try simp (disch := omega) only [↓i_in, ↓i_isCouple, ↓i_isBridge, ↓i_isTheme, ↓i_isBarge, i_lt, i_le, i_eq, i_clamp, i_upd, i_m1, Int32.toInt_toInt64, Int32.toInt_add, Int32.toInt_sub, Int32.toInt_mul, bm32, Int32.reduceToInt, Int64.reduceToInt, Nat.reduceLT, Nat.reduceEqDiff, reduceIte] at c_5
          refine ⟨fun c_11 => ?_, fun c_11 => ?_⟩
          · skip
            try simp (disch := omega) only [↓i_in, ↓i_isCouple, ↓i_isBridge, ↓i_isTheme, ↓i_isBarge, i_lt, i_le, i_eq, i_clamp, i_upd, i_m1, Int32.toInt_toInt64, Int32.toInt_add, Int32.toInt_sub, Int32.toInt_mul, bm32, Int32.reduceToInt, Int64.reduceToInt, Nat.reduceLT, Nat.reduceEqDiff, reduceIte] at c_11
            refine ⟨(s_whoIsAt h_0 (by first | omega | (simp (disch := omega) only [↓i_in, ↓i_isCouple, ↓i_isBridge, ↓i_isTheme, ↓i_isBarge, i_lt, i_le, i_eq, i_clamp, i_upd, i_m1, Int32.toInt_toInt64, Int32.toInt_add, Int32.toInt_sub, Int32.toInt_mul, bm32, Int32.reduceToInt, Int64.reduceToInt, Nat.reduceLT, Nat.reduceEqDiff, reduceIte] <;> omega)) (by first | omega | (simp (disch := omega) only [↓i_in, ↓i_isCouple, ↓i_isBridge, ↓i_isTheme, ↓i_isBarge, i_lt, i_le, i_eq, i_clamp, i_upd, i_m1, Int32.toInt_toInt64, Int32.toInt_add, Int32.toInt_sub, Int32.toInt_mul, bm32, Int32.reduceToInt, Int64.reduceToInt, Nat.reduceLT, Nat.reduceEqDiff, reduceIte] <;> omega))), ?_⟩
            have v_12 := p_whoIsAt (G := G) (f0 := f0) (h_ := 0) (b_ := w_11l6) h_0 (by first | omega | (simp (disch := omega) only [↓i_in, ↓i_isCouple, ↓i_isBridge, ↓i_isTheme, ↓i_isBarge, i_lt, i_le, i_eq, i_clamp, i_upd, i_m1, Int32.toInt_toInt64, Int32.toInt_add, Int32.toInt_sub, Int32.toInt_mul, bm32, Int32.reduceToInt, Int64.reduceToInt, Nat.reduceLT, Nat.reduceEqDiff, reduceIte] <;> omega)) (by first | omega | (simp (disch := omega) only [↓i_in, ↓i_isCouple, ↓i_isBridge, ↓i_isTheme, ↓i_isBarge, i_lt, i_le, i_eq, i_clamp, i_upd, i_m1, Int32.toInt_toInt64, Int32.toInt_add, Int32.toInt_sub, Int32.toInt_mul, bm32, Int32.reduceToInt, Int64.reduceToInt, Nat.reduceLT, Nat.reduceEqDiff, reduceIte] <;> omega))
            try simp (disch := omega) only [↓i_in, ↓i_isCouple, ↓i_isBridge, ↓i_isTheme, ↓i_isBarge, i_lt, i_le, i_eq, i_clamp, i_upd, i_m1, Int32.toInt_toInt64, Int32.toInt_add, Int32.toInt_sub, Int32.toInt_mul, bm32, Int32.reduceToInt, Int64.reduceToInt, Nat.reduceLT, Nat.reduceEqDiff, reduceIte] at v_12
            refine ⟨fun c_13 => ?_, fun c_13 => ?_⟩
            · skip
              try simp (disch := omega) only [↓i_in, ↓i_isCouple, ↓i_isBridge, ↓i_isTheme, ↓i_isBarge, i_lt, i_le, i_eq, i_clamp, i_upd, i_m1, Int32.toInt_toInt64, Int32.toInt_add, Int32.toInt_sub, Int32.toInt_mul, bm32, Int32.reduceToInt, Int64.reduceToInt, Nat.reduceLT, Nat.reduceEqDiff, reduceIte] at c_13
              exact ih (w_11l6 + 1) w_11l3 w_11l4 w_11l3 (⟨(by first | omega | (simp (disch := omega) only [↓i_in, ↓i_isCouple, ↓i_isBridge, ↓i_isTheme, ↓i_isBarge, i_lt, i_le, i_eq, i_clamp, i_upd, i_m1, Int32.toInt_toInt64, Int32.toInt_add, Int32.toInt_sub, Int32.toInt_mul, bm32, Int32.reduceToInt, Int64.reduceToInt, Nat.reduceLT, Nat.reduceEqDiff, reduceIte] <;> omega)), (by first | omega | (simp (disch := omega) only [↓i_in, ↓i_isCouple, ↓i_isBridge, ↓i_isTheme, ↓i_isBarge, i_lt, i_le, i_eq, i_clamp, i_upd, i_m1, Int32.toInt_toInt64, Int32.toInt_add, Int32.toInt_sub, Int32.toInt_mul, bm32, Int32.reduceToInt, Int64.reduceToInt, Nat.reduceLT, Nat.reduceEqDiff, reduceIte] <;> omega))⟩)
            · skip
              try simp (disch := omega) only [↓i_in, ↓i_isCouple, ↓i_isBridge, ↓i_isTheme, ↓i_isBarge, i_lt, i_le, i_eq, i_clamp, i_upd, i_m1, Int32.toInt_toInt64, Int32.toInt_add, Int32.toInt_sub, Int32.toInt_mul, bm32, Int32.reduceToInt, Int64.reduceToInt, Nat.reduceLT, Nat.reduceEqDiff, reduceIte] at c_13
              exact ih (w_11l6 + 1) w_11l3 w_11l4 (w_11l3 / 2) (⟨(by first | omega | (simp (disch := omega) only [↓i_in, ↓i_isCouple, ↓i_isBridge, ↓i_isTheme, ↓i_isBarge, i_lt, i_le, i_eq, i_clamp, i_upd, i_m1, Int32.toInt_toInt64, Int32.toInt_add, Int32.toInt_sub, Int32.toInt_mul, bm32, Int32.reduceToInt, Int64.reduceToInt, Nat.reduceLT, Nat.reduceEqDiff, reduceIte] <;> omega)), (by first | omega | (simp (disch := omega) only [↓i_in, ↓i_isCouple, ↓i_isBridge, ↓i_isTheme, ↓i_isBarge, i_lt, i_le, i_eq, i_clamp, i_upd, i_m1, Int32.toInt_toInt64, Int32.toInt_add, Int32.toInt_sub, Int32.toInt_mul, bm32, Int32.reduceToInt, Int64.reduceToInt, Nat.reduceLT, Nat.reduceEqDiff, reduceIte] <;> omega))⟩)
          · skip
            try simp (disch := omega) only [↓i_in, ↓i_isCouple, ↓i_isBridge, ↓i_isTheme, ↓i_isBarge, i_lt, i_le, i_eq, i_clamp, i_upd, i_m1, Int32.toInt_toInt64, Int32.toInt_add, Int32.toInt_sub, Int32.toInt_mul, bm32, Int32.reduceToInt, Int64.reduceToInt, Nat.reduceLT, Nat.reduceEqDiff, reduceIte] at c_11
            refine ⟨(s_whoIsAt h_0 (by first | omega | (simp (disch := omega) only [↓i_in, ↓i_isCouple, ↓i_isBridge, ↓i_isTheme, ↓i_isBarge, i_lt, i_le, i_eq, i_clamp, i_upd, i_m1, Int32.toInt_toInt64, Int32.toInt_add, Int32.toInt_sub, Int32.toInt_mul, bm32, Int32.reduceToInt, Int64.reduceToInt, Nat.reduceLT, Nat.reduceEqDiff, reduceIte] <;> omega)) (by first | omega | (simp (disch := omega) only [↓i_in, ↓i_isCouple, ↓i_isBridge, ↓i_isTheme, ↓i_isBarge, i_lt, i_le, i_eq, i_clamp, i_upd, i_m1, Int32.toInt_toInt64, Int32.toInt_add, Int32.toInt_sub, Int32.toInt_mul, bm32, Int32.reduceToInt, Int64.reduceToInt, Nat.reduceLT, Nat.reduceEqDiff, reduceIte] <;> omega))), ?_⟩
            have v_14 := p_whoIsAt (G := G) (f0 := f0) (h_ := 0) (b_ := w_11l6) h_0 (by first | omega | (simp (disch := omega) only [↓i_in, ↓i_isCouple, ↓i_isBridge, ↓i_isTheme, ↓i_isBarge, i_lt, i_le, i_eq, i_clamp, i_upd, i_m1, Int32.toInt_toInt64, Int32.toInt_add, Int32.toInt_sub, Int32.toInt_mul, bm32, Int32.reduceToInt, Int64.reduceToInt, Nat.reduceLT, Nat.reduceEqDiff, reduceIte] <;> omega)) (by first | omega | (simp (disch := omega) only [↓i_in, ↓i_isCouple, ↓i_isBridge, ↓i_isTheme, ↓i_isBarge, i_lt, i_le, i_eq, i_clamp, i_upd, i_m1, Int32.toInt_toInt64, Int32.toInt_add, Int32.toInt_sub, Int32.toInt_mul, bm32, Int32.reduceToInt, Int64.reduceToInt, Nat.reduceLT, Nat.reduceEqDiff, reduceIte] <;> omega))
            try simp (disch := omega) only [↓i_in, ↓i_isCouple, ↓i_isBridge, ↓i_isTheme, ↓i_isBarge, i_lt, i_le, i_eq, i_clamp, i_upd, i_m1, Int32.toInt_toInt64, Int32.toInt_add, Int32.toInt_sub, Int32.toInt_mul, bm32, Int32.reduceToInt, Int64.reduceToInt, Nat.reduceLT, Nat.reduceEqDiff, reduceIte] at v_14
            refine ⟨fun c_15 => ?_, fun c_15 => ?_⟩
            · skip
              try simp (disch := omega) only [↓i_in, ↓i_isCouple, ↓i_isBridge, ↓i_isTheme, ↓i_isBarge, i_lt, i_le, i_eq, i_clamp, i_upd, i_m1, Int32.toInt_toInt64, Int32.toInt_add, Int32.toInt_sub, Int32.toInt_mul, bm32, Int32.reduceToInt, Int64.reduceToInt, Nat.reduceLT, Nat.reduceEqDiff, reduceIte] at c_15
              exact ih (w_11l6 + 1) w_11l5 w_11l4 w_11l3 (⟨(by first | omega | (simp (disch := omega) only [↓i_in, ↓i_isCouple, ↓i_isBridge, ↓i_isTheme, ↓i_isBarge, i_lt, i_le, i_eq, i_clamp, i_upd, i_m1, Int32.toInt_toInt64, Int32.toInt_add, Int32.toInt_sub, Int32.toInt_mul, bm32, Int32.reduceToInt, Int64.reduceToInt, Nat.reduceLT, Nat.reduceEqDiff, reduceIte] <;> omega)), (by first | omega | (simp (disch := omega) only [↓i_in, ↓i_isCouple, ↓i_isBridge, ↓i_isTheme, ↓i_isBarge, i_lt, i_le, i_eq, i_clamp, i_upd, i_m1, Int32.toInt_toInt64, Int32.toInt_add, Int32.toInt_sub, Int32.toInt_mul, bm32, Int32.reduceToInt, Int64.reduceToInt, Nat.reduceLT, Nat.reduceEqDiff, reduceIte] <;> omega))⟩)
            · skip
              try simp (disch := omega) only [↓i_in, ↓i_isCouple, ↓i_isBridge, ↓i_isTheme, ↓i_isBarge, i_lt, i_le, i_eq, i_clamp, i_upd, i_m1, Int32.toInt_toInt64, Int32.toInt_add, Int32.toInt_sub, Int32.toInt_mul, bm32, Int32.reduceToInt, Int64.reduceToInt, Nat.reduceLT, Nat.reduceEqDiff, reduceIte] at c_15
              exact ih (w_11l6 + 1) w_11l5 w_11l4 (w_11l3 / 2) (⟨(by first | omega | (simp (disch := omega) only [↓i_in, ↓i_isCouple, ↓i_isBridge, ↓i_isTheme, ↓i_isBarge, i_lt, i_le, i_eq, i_clamp, i_upd, i_m1, Int32.toInt_toInt64, Int32.toInt_add, Int32.toInt_sub, Int32.toInt_mul, bm32, Int32.reduceToInt, Int64.reduceToInt, Nat.reduceLT, Nat.reduceEqDiff, reduceIte] <;> omega)), (by first | omega | (simp (disch := omega) only [↓i_in, ↓i_isCouple, ↓i_isBridge, ↓i_isTheme, ↓i_isBarge, i_lt, i_le, i_eq, i_clamp, i_upd, i_m1, Int32.toInt_toInt64, Int32.toInt_add, Int32.toInt_sub, Int32.toInt_mul, bm32, Int32.reduceToInt, Int64.reduceToInt, Nat.reduceLT, Nat.reduceEqDiff, reduceIte] <;> omega))⟩)
      · skip
        try simp (disch := omega) only [↓i_in, ↓i_isCouple, ↓i_isBridge, ↓i_isTheme, ↓i_isBarge, i_lt, i_le, i_eq, i_clamp, i_upd, i_m1, Int32.toInt_toInt64, Int32.toInt_add, Int32.toInt_sub, Int32.toInt_mul, bm32, Int32.reduceToInt, Int64.reduceToInt, Nat.reduceLT, Nat.reduceEqDiff, reduceIte] at c_4
        refine ⟨fun c_16 => ?_, fun c_16 => ?_⟩
        · skip
          try simp (disch := omega) only [↓i_in, ↓i_isCouple, ↓i_isBridge, ↓i_isTheme, ↓i_isBarge, i_lt, i_le, i_eq, i_clamp, i_upd, i_m1, Int32.toInt_toInt64, Int32.toInt_add, Int32.toInt_sub, Int32.toInt_mul, bm32, Int32.reduceToInt, Int64.reduceToInt, Nat.reduceLT, Nat.reduceEqDiff, reduceIte] at c_16
          refine ⟨(s_whoIsAt h_0 (by first | omega | (simp (disch := omega) only [↓i_in, ↓i_isCouple, ↓i_isBridge, ↓i_isTheme, ↓i_isBarge, i_lt, i_le, i_eq, i_clamp, i_upd, i_m1, Int32.toInt_toInt64, Int32.toInt_add, Int32.toInt_sub, Int32.toInt_mul, bm32, Int32.reduceToInt, Int64.reduceToInt, Nat.reduceLT, Nat.reduceEqDiff, reduceIte] <;> omega)) (by first | omega | (simp (disch := omega) only [↓i_in, ↓i_isCouple, ↓i_isBridge, ↓i_isTheme, ↓i_isBarge, i_lt, i_le, i_eq, i_clamp, i_upd, i_m1, Int32.toInt_toInt64, Int32.toInt_add, Int32.toInt_sub, Int32.toInt_mul, bm32, Int32.reduceToInt, Int64.reduceToInt, Nat.reduceLT, Nat.reduceEqDiff, reduceIte] <;> omega))), ?_⟩
          have v_17 := p_whoIsAt (G := G) (f0 := f0) (h_ := 0) (b_ := w_11l6) h_0 (by first | omega | (simp (disch := omega) only [↓i_in, ↓i_isCouple, ↓i_isBridge, ↓i_isTheme, ↓i_isBarge, i_lt, i_le, i_eq, i_clamp, i_upd, i_m1, Int32.toInt_toInt64, Int32.toInt_add, Int32.toInt_sub, Int32.toInt_mul, bm32, Int32.reduceToInt, Int64.reduceToInt, Nat.reduceLT, Nat.reduceEqDiff, reduceIte] <;> omega)) (by first | omega | (simp (disch := omega) only [↓i_in, ↓i_isCouple, ↓i_isBridge, ↓i_isTheme, ↓i_isBarge, i_lt, i_le, i_eq, i_clamp, i_upd, i_m1, Int32.toInt_toInt64, Int32.toInt_add, Int32.toInt_sub, Int32.toInt_mul, bm32, Int32.reduceToInt, Int64.reduceToInt, Nat.reduceLT, Nat.reduceEqDiff, reduceIte] <;> omega))
          try simp (disch := omega) only [↓i_in, ↓i_isCouple, ↓i_isBridge, ↓i_isTheme, ↓i_isBarge, i_lt, i_le, i_eq, i_clamp, i_upd, i_m1, Int32.toInt_toInt64, Int32.toInt_add, Int32.toInt_sub, Int32.toInt_mul, bm32, Int32.reduceToInt, Int64.reduceToInt, Nat.reduceLT, Nat.reduceEqDiff, reduceIte] at v_17
          refine ⟨fun c_18 => ?_, fun c_18 => ?_⟩
          · skip
            try simp (disch := omega) only [↓i_in, ↓i_isCouple, ↓i_isBridge, ↓i_isTheme, ↓i_isBarge, i_lt, i_le, i_eq, i_clamp, i_upd, i_m1, Int32.toInt_toInt64, Int32.toInt_add, Int32.toInt_sub, Int32.toInt_mul, bm32, Int32.reduceToInt, Int64.reduceToInt, Nat.reduceLT, Nat.reduceEqDiff, reduceIte] at c_18
            exact ih (w_11l6 + 1) w_11l3 w_11l4 w_11l3 (⟨(by first | omega | (simp (disch := omega) only [↓i_in, ↓i_isCouple, ↓i_isBridge, ↓i_isTheme, ↓i_isBarge, i_lt, i_le, i_eq, i_clamp, i_upd, i_m1, Int32.toInt_toInt64, Int32.toInt_add, Int32.toInt_sub, Int32.toInt_mul, bm32, Int32.reduceToInt, Int64.reduceToInt, Nat.reduceLT, Nat.reduceEqDiff, reduceIte] <;> omega)), (by first | omega | (simp (disch := omega) only [↓i_in, ↓i_isCouple, ↓i_isBridge, ↓i_isTheme, ↓i_isBarge, i_lt, i_le, i_eq, i_clamp, i_upd, i_m1, Int32.toInt_toInt64, Int32.toInt_add, Int32.toInt_sub, Int32.toInt_mul, bm32, Int32.reduceToInt, Int64.reduceToInt, Nat.reduceLT, Nat.reduceEqDiff, reduceIte] <;> omega))⟩)
          · skip
            try simp (disch := omega) only [↓i_in, ↓i_isCouple, ↓i_isBridge, ↓i_isTheme, ↓i_isBarge, i_lt, i_le, i_eq, i_clamp, i_upd, i_m1, Int32.toInt_toInt64, Int32.toInt_add, Int32.toInt_sub, Int32.toInt_mul, bm32, Int32.reduceToInt, Int64.reduceToInt, Nat.reduceLT, Nat.reduceEqDiff, reduceIte] at c_18
            exact ih (w_11l6 + 1) w_11l3 w_11l4 (w_11l3 / 2) (⟨(by first | omega | (simp (disch := omega) only [↓i_in, ↓i_isCouple, ↓i_isBridge, ↓i_isTheme, ↓i_isBarge, i_lt, i_le, i_eq, i_clamp, i_upd, i_m1, Int32.toInt_toInt64, Int32.toInt_add, Int32.toInt_sub, Int32.toInt_mul, bm32, Int32.reduceToInt, Int64.reduceToInt, Nat.reduceLT, Nat.reduceEqDiff, reduceIte] <;> omega)), (by first | omega | (simp (disch := omega) only [↓i_in, ↓i_isCouple, ↓i_isBridge, ↓i_isTheme, ↓i_isBarge, i_lt, i_le, i_eq, i_clamp, i_upd, i_m1, Int32.toInt_toInt64, Int32.toInt_add, Int32.toInt_sub, Int32.toInt_mul, bm32, Int32.reduceToInt, Int64.reduceToInt, Nat.reduceLT, Nat.reduceEqDiff, reduceIte] <;> omega))⟩)
        · skip
          try simp (disch := omega) only [↓i_in, ↓i_isCouple, ↓i_isBridge, ↓i_isTheme, ↓i_isBarge, i_lt, i_le, i_eq, i_clamp, i_upd, i_m1, Int32.toInt_toInt64, Int32.toInt_add, Int32.toInt_sub, Int32.toInt_mul, bm32, Int32.reduceToInt, Int64.reduceToInt, Nat.reduceLT, Nat.reduceEqDiff, reduceIte] at c_16
          refine ⟨(s_whoIsAt h_0 (by first | omega | (simp (disch := omega) only [↓i_in, ↓i_isCouple, ↓i_isBridge, ↓i_isTheme, ↓i_isBarge, i_lt, i_le, i_eq, i_clamp, i_upd, i_m1, Int32.toInt_toInt64, Int32.toInt_add, Int32.toInt_sub, Int32.toInt_mul, bm32, Int32.reduceToInt, Int64.reduceToInt, Nat.reduceLT, Nat.reduceEqDiff, reduceIte] <;> omega)) (by first | omega | (simp (disch := omega) only [↓i_in, ↓i_isCouple, ↓i_isBridge, ↓i_isTheme, ↓i_isBarge, i_lt, i_le, i_eq, i_clamp, i_upd, i_m1, Int32.toInt_toInt64, Int32.toInt_add, Int32.toInt_sub, Int32.toInt_mul, bm32, Int32.reduceToInt, Int64.reduceToInt, Nat.reduceLT, Nat.reduceEqDiff, reduceIte] <;> omega))), ?_⟩
          have v_19 := p_whoIsAt (G := G) (f0 := f0) (h_ := 0) (b_ := w_11l6) h_0 (by first | omega | (simp (disch := omega) only [↓i_in, ↓i_isCouple, ↓i_isBridge, ↓i_isTheme, ↓i_isBarge, i_lt, i_le, i_eq, i_clamp, i_upd, i_m1, Int32.toInt_toInt64, Int32.toInt_add, Int32.toInt_sub, Int32.toInt_mul, bm32, Int32.reduceToInt, Int64.reduceToInt, Nat.reduceLT, Nat.reduceEqDiff, reduceIte] <;> omega)) (by first | omega | (simp (disch := omega) only [↓i_in, ↓i_isCouple, ↓i_isBridge, ↓i_isTheme, ↓i_isBarge, i_lt, i_le, i_eq, i_clamp, i_upd, i_m1, Int32.toInt_toInt64, Int32.toInt_add, Int32.toInt_sub, Int32.toInt_mul, bm32, Int32.reduceToInt, Int64.reduceToInt, Nat.reduceLT, Nat.reduceEqDiff, reduceIte] <;> omega))
          try simp (disch := omega) only [↓i_in, ↓i_isCouple, ↓i_isBridge, ↓i_isTheme, ↓i_isBarge, i_lt, i_le, i_eq, i_clamp, i_upd, i_m1, Int32.toInt_toInt64, Int32.toInt_add, Int32.toInt_sub, Int32.toInt_mul, bm32, Int32.reduceToInt, Int64.reduceToInt, Nat.reduceLT, Nat.reduceEqDiff, reduceIte] at v_19
          refine ⟨fun c_20 => ?_, fun c_20 => ?_⟩
          · skip
            try simp (disch := omega) only [↓i_in, ↓i_isCouple, ↓i_isBridge, ↓i_isTheme, ↓i_isBarge, i_lt, i_le, i_eq, i_clamp, i_upd, i_m1, Int32.toInt_toInt64, Int32.toInt_add, Int32.toInt_sub, Int32.toInt_mul, bm32, Int32.reduceToInt, Int64.reduceToInt, Nat.reduceLT, Nat.reduceEqDiff, reduceIte] at c_20
            exact ih (w_11l6 + 1) w_11l5 w_11l4 w_11l3 (⟨(by first | omega | (simp (disch := omega) only [↓i_in, ↓i_isCouple, ↓i_isBridge, ↓i_isTheme, ↓i_isBarge, i_lt, i_le, i_eq, i_clamp, i_upd, i_m1, Int32.toInt_toInt64, Int32.toInt_add, Int32.toInt_sub, Int32.toInt_mul, bm32, Int32.reduceToInt, Int64.reduceToInt, Nat.reduceLT, Nat.reduceEqDiff, reduceIte] <;> omega)), (by first | omega | (simp (disch := omega) only [↓i_in, ↓i_isCouple, ↓i_isBridge, ↓i_isTheme, ↓i_isBarge, i_lt, i_le, i_eq, i_clamp, i_upd, i_m1, Int32.toInt_toInt64, Int32.toInt_add, Int32.toInt_sub, Int32.toInt_mul, bm32, Int32.reduceToInt, Int64.reduceToInt, Nat.reduceLT, Nat.reduceEqDiff, reduceIte] <;> omega))⟩)
          · skip
            try simp (disch := omega) only [↓i_in, ↓i_isCouple, ↓i_isBridge, ↓i_isTheme, ↓i_isBarge, i_lt, i_le, i_eq, i_clamp, i_upd, i_m1, Int32.toInt_toInt64, Int32.toInt_add, Int32.toInt_sub, Int32.toInt_mul, bm32, Int32.reduceToInt, Int64.reduceToInt, Nat.reduceLT, Nat.reduceEqDiff, reduceIte] at c_20
            exact ih (w_11l6 + 1) w_11l5 w_11l4 (w_11l3 / 2) (⟨(by first | omega | (simp (disch := omega) only [↓i_in, ↓i_isCouple, ↓i_isBridge, ↓i_isTheme, ↓i_isBarge, i_lt, i_le, i_eq, i_clamp, i_upd, i_m1, Int32.toInt_toInt64, Int32.toInt_add, Int32.toInt_sub, Int32.toInt_mul, bm32, Int32.reduceToInt, Int64.reduceToInt, Nat.reduceLT, Nat.reduceEqDiff, reduceIte] <;> omega)), (by first | omega | (simp (disch := omega) only [↓i_in, ↓i_isCouple, ↓i_isBridge, ↓i_isTheme, ↓i_isBarge, i_lt, i_le, i_eq, i_clamp, i_upd, i_m1, Int32.toInt_toInt64, Int32.toInt_add, Int32.toInt_sub, Int32.toInt_mul, bm32, Int32.reduceToInt, Int64.reduceToInt, Nat.reduceLT, Nat.reduceEqDiff, reduceIte] <;> omega))⟩)
set_option maxHeartbeats 4000000 in
theorem s_carried {G : Nat → Int32} {f0 : Nat → Int32} {f10 : Nat → Int32} {b_ : Int32} (h_0 : GI G) (h_1 : WI f0) : S_m_carried G f0 f10 b_ := by
  unfold S_m_carried
  have h_0_g := h_0
  obtain ⟨⟨h_0_2a, h_0_2b⟩, ⟨h_0_3a, h_0_3b⟩, ⟨h_0_4a, h_0_4b⟩, ⟨h_0_5a, h_0_5b⟩, ⟨h_0_6a, h_0_6b⟩, ⟨h_0_14a, h_0_14b⟩, ⟨h_0_42a, h_0_42b⟩⟩ := h_0_g
  refine ⟨fun c_1 => ?_, fun c_1 => ?_⟩
  · skip
    try simp (disch := omega) only [↓i_in, ↓i_isCouple, ↓i_isBridge, ↓i_isTheme, ↓i_isBarge, i_lt, i_le, i_eq, i_clamp, i_upd, i_m1, Int32.toInt_toInt64, Int32.toInt_add, Int32.toInt_sub, Int32.toInt_mul, bm32, Int32.reduceToInt, Int64.reduceToInt, Nat.reduceLT, Nat.reduceEqDiff, reduceIte] at c_1
    refine ⟨(s_whoIsAt h_0 (by first | omega | (simp (disch := omega) only [↓i_in, ↓i_isCouple, ↓i_isBridge, ↓i_isTheme, ↓i_isBarge, i_lt, i_le, i_eq, i_clamp, i_upd, i_m1, Int32.toInt_toInt64, Int32.toInt_add, Int32.toInt_sub, Int32.toInt_mul, bm32, Int32.reduceToInt, Int64.reduceToInt, Nat.reduceLT, Nat.reduceEqDiff, reduceIte] <;> omega)) (by first | omega | (simp (disch := omega) only [↓i_in, ↓i_isCouple, ↓i_isBridge, ↓i_isTheme, ↓i_isBarge, i_lt, i_le, i_eq, i_clamp, i_upd, i_m1, Int32.toInt_toInt64, Int32.toInt_add, Int32.toInt_sub, Int32.toInt_mul, bm32, Int32.reduceToInt, Int64.reduceToInt, Nat.reduceLT, Nat.reduceEqDiff, reduceIte] <;> omega))), ?_⟩
    have v_2 := p_whoIsAt (G := G) (f0 := f0) (h_ := 0) (b_ := 0) h_0 (by first | omega | (simp (disch := omega) only [↓i_in, ↓i_isCouple, ↓i_isBridge, ↓i_isTheme, ↓i_isBarge, i_lt, i_le, i_eq, i_clamp, i_upd, i_m1, Int32.toInt_toInt64, Int32.toInt_add, Int32.toInt_sub, Int32.toInt_mul, bm32, Int32.reduceToInt, Int64.reduceToInt, Nat.reduceLT, Nat.reduceEqDiff, reduceIte] <;> omega)) (by first | omega | (simp (disch := omega) only [↓i_in, ↓i_isCouple, ↓i_isBridge, ↓i_isTheme, ↓i_isBarge, i_lt, i_le, i_eq, i_clamp, i_upd, i_m1, Int32.toInt_toInt64, Int32.toInt_add, Int32.toInt_sub, Int32.toInt_mul, bm32, Int32.reduceToInt, Int64.reduceToInt, Nat.reduceLT, Nat.reduceEqDiff, reduceIte] <;> omega))
    try simp (disch := omega) only [↓i_in, ↓i_isCouple, ↓i_isBridge, ↓i_isTheme, ↓i_isBarge, i_lt, i_le, i_eq, i_clamp, i_upd, i_m1, Int32.toInt_toInt64, Int32.toInt_add, Int32.toInt_sub, Int32.toInt_mul, bm32, Int32.reduceToInt, Int64.reduceToInt, Nat.reduceLT, Nat.reduceEqDiff, reduceIte] at v_2
    refine ⟨fun c_3 => ?_, fun c_3 => ?_⟩
    · exact trivial
    · skip
      try simp (disch := omega) only [↓i_in, ↓i_isCouple, ↓i_isBridge, ↓i_isTheme, ↓i_isBarge, i_lt, i_le, i_eq, i_clamp, i_upd, i_m1, Int32.toInt_toInt64, Int32.toInt_add, Int32.toInt_sub, Int32.toInt_mul, bm32, Int32.reduceToInt, Int64.reduceToInt, Nat.reduceLT, Nat.reduceEqDiff, reduceIte] at c_3
      refine ⟨vp_in_iff.mpr (by first | omega | (simp (disch := omega) only [↓i_in, ↓i_isCouple, ↓i_isBridge, ↓i_isTheme, ↓i_isBarge, i_lt, i_le, i_eq, i_clamp, i_upd, i_m1, Int32.toInt_toInt64, Int32.toInt_add, Int32.toInt_sub, Int32.toInt_mul, bm32, Int32.reduceToInt, Int64.reduceToInt, Nat.reduceLT, Nat.reduceEqDiff, reduceIte] <;> omega)), ?_⟩
      refine ⟨vp_in_iff.mpr (by first | omega | (simp (disch := omega) only [↓i_in, ↓i_isCouple, ↓i_isBridge, ↓i_isTheme, ↓i_isBarge, i_lt, i_le, i_eq, i_clamp, i_upd, i_m1, Int32.toInt_toInt64, Int32.toInt_add, Int32.toInt_sub, Int32.toInt_mul, bm32, Int32.reduceToInt, Int64.reduceToInt, Nat.reduceLT, Nat.reduceEqDiff, reduceIte] <;> omega)), ?_⟩
      have th_4 := (h_1 ((12 + (f_m_whoIsAt G f0 0 0)) : Int32).toNatClampNeg).1 (by first | omega | (simp (disch := omega) only [↓i_in, ↓i_isCouple, ↓i_isBridge, ↓i_isTheme, ↓i_isBarge, i_lt, i_le, i_eq, i_clamp, i_upd, i_m1, Int32.toInt_toInt64, Int32.toInt_add, Int32.toInt_sub, Int32.toInt_mul, bm32, Int32.reduceToInt, Int64.reduceToInt, Nat.reduceLT, Nat.reduceEqDiff, reduceIte] <;> omega))
      try simp (disch := omega) only [↓i_in, ↓i_isCouple, ↓i_isBridge, ↓i_isTheme, ↓i_isBarge, i_lt, i_le, i_eq, i_clamp, i_upd, i_m1, Int32.toInt_toInt64, Int32.toInt_add, Int32.toInt_sub, Int32.toInt_mul, bm32, Int32.reduceToInt, Int64.reduceToInt, Nat.reduceLT, Nat.reduceEqDiff, reduceIte] at th_4
      refine ⟨(s_stampOf (by first | omega | (simp (disch := omega) only [↓i_in, ↓i_isCouple, ↓i_isBridge, ↓i_isTheme, ↓i_isBarge, i_lt, i_le, i_eq, i_clamp, i_upd, i_m1, Int32.toInt_toInt64, Int32.toInt_add, Int32.toInt_sub, Int32.toInt_mul, bm32, Int32.reduceToInt, Int64.reduceToInt, Nat.reduceLT, Nat.reduceEqDiff, reduceIte] <;> omega)) (by first | omega | (simp (disch := omega) only [↓i_in, ↓i_isCouple, ↓i_isBridge, ↓i_isTheme, ↓i_isBarge, i_lt, i_le, i_eq, i_clamp, i_upd, i_m1, Int32.toInt_toInt64, Int32.toInt_add, Int32.toInt_sub, Int32.toInt_mul, bm32, Int32.reduceToInt, Int64.reduceToInt, Nat.reduceLT, Nat.reduceEqDiff, reduceIte] <;> omega)) (by first | omega | (simp (disch := omega) only [↓i_in, ↓i_isCouple, ↓i_isBridge, ↓i_isTheme, ↓i_isBarge, i_lt, i_le, i_eq, i_clamp, i_upd, i_m1, Int32.toInt_toInt64, Int32.toInt_add, Int32.toInt_sub, Int32.toInt_mul, bm32, Int32.reduceToInt, Int64.reduceToInt, Nat.reduceLT, Nat.reduceEqDiff, reduceIte] <;> omega)) (by first | omega | (simp (disch := omega) only [↓i_in, ↓i_isCouple, ↓i_isBridge, ↓i_isTheme, ↓i_isBarge, i_lt, i_le, i_eq, i_clamp, i_upd, i_m1, Int32.toInt_toInt64, Int32.toInt_add, Int32.toInt_sub, Int32.toInt_mul, bm32, Int32.reduceToInt, Int64.reduceToInt, Nat.reduceLT, Nat.reduceEqDiff, reduceIte] <;> omega))), ?_⟩
      have v_5 := p_stampOf (G := G) (f10 := f10) (c_ := (f_m_whoIsAt G f0 0 0)) (t_ := (f0 ((12 + (f_m_whoIsAt G f0 0 0)) : Int32).toNatClampNeg)) (from_ := (f0 ((0 + (f_m_whoIsAt G f0 0 0)) : Int32).toNatClampNeg))
      try simp (disch := omega) only [↓i_in, ↓i_isCouple, ↓i_isBridge, ↓i_isTheme, ↓i_isBarge, i_lt, i_le, i_eq, i_clamp, i_upd, i_m1, Int32.toInt_toInt64, Int32.toInt_add, Int32.toInt_sub, Int32.toInt_mul, bm32, Int32.reduceToInt, Int64.reduceToInt, Nat.reduceLT, Nat.reduceEqDiff, reduceIte] at v_5
      refine sl_carried_63 h_0 ?_ ((((G 3) : Int32).toInt - (1 : Int32).toInt).toNat + 1) 1 0 (-1) (f_m_stampOf G f10 (f_m_whoIsAt G f0 0 0) (f0 ((12 + (f_m_whoIsAt G f0 0 0)) : Int32).toNatClampNeg) (f0 ((0 + (f_m_whoIsAt G f0 0 0)) : Int32).toNatClampNeg)) (⟨(by first | omega | (simp (disch := omega) only [↓i_in, ↓i_isCouple, ↓i_isBridge, ↓i_isTheme, ↓i_isBarge, i_lt, i_le, i_eq, i_clamp, i_upd, i_m1, Int32.toInt_toInt64, Int32.toInt_add, Int32.toInt_sub, Int32.toInt_mul, bm32, Int32.reduceToInt, Int64.reduceToInt, Nat.reduceLT, Nat.reduceEqDiff, reduceIte] <;> omega)), (by first | omega | (simp (disch := omega) only [↓i_in, ↓i_isCouple, ↓i_isBridge, ↓i_isTheme, ↓i_isBarge, i_lt, i_le, i_eq, i_clamp, i_upd, i_m1, Int32.toInt_toInt64, Int32.toInt_add, Int32.toInt_sub, Int32.toInt_mul, bm32, Int32.reduceToInt, Int64.reduceToInt, Nat.reduceLT, Nat.reduceEqDiff, reduceIte] <;> omega))⟩)
      intro w_11l6 w_11l5 w_11l4 w_11l3 i_6
      obtain ⟨i_7, i_8⟩ := i_6
      refine ⟨fun c_9 => ?_, fun c_9 => ?_⟩
      · exact trivial
      · exact trivial
  · skip
    try simp (disch := omega) only [↓i_in, ↓i_isCouple, ↓i_isBridge, ↓i_isTheme, ↓i_isBarge, i_lt, i_le, i_eq, i_clamp, i_upd, i_m1, Int32.toInt_toInt64, Int32.toInt_add, Int32.toInt_sub, Int32.toInt_mul, bm32, Int32.reduceToInt, Int64.reduceToInt, Nat.reduceLT, Nat.reduceEqDiff, reduceIte] at c_1
    refine ⟨s_isBridge, ?_⟩
    refine ⟨fun c_10 => ?_, fun c_10 => ?_⟩
    · exact trivial
    · skip
      try simp (disch := omega) only [↓i_in, ↓i_isCouple, ↓i_isBridge, ↓i_isTheme, ↓i_isBarge, i_lt, i_le, i_eq, i_clamp, i_upd, i_m1, Int32.toInt_toInt64, Int32.toInt_add, Int32.toInt_sub, Int32.toInt_mul, bm32, Int32.reduceToInt, Int64.reduceToInt, Nat.reduceLT, Nat.reduceEqDiff, reduceIte] at c_10
      refine ⟨(s_whoIsAt h_0 (by first | omega | (simp (disch := omega) only [↓i_in, ↓i_isCouple, ↓i_isBridge, ↓i_isTheme, ↓i_isBarge, i_lt, i_le, i_eq, i_clamp, i_upd, i_m1, Int32.toInt_toInt64, Int32.toInt_add, Int32.toInt_sub, Int32.toInt_mul, bm32, Int32.reduceToInt, Int64.reduceToInt, Nat.reduceLT, Nat.reduceEqDiff, reduceIte] <;> omega)) (by first | omega | (simp (disch := omega) only [↓i_in, ↓i_isCouple, ↓i_isBridge, ↓i_isTheme, ↓i_isBarge, i_lt, i_le, i_eq, i_clamp, i_upd, i_m1, Int32.toInt_toInt64, Int32.toInt_add, Int32.toInt_sub, Int32.toInt_mul, bm32, Int32.reduceToInt, Int64.reduceToInt, Nat.reduceLT, Nat.reduceEqDiff, reduceIte] <;> omega))), ?_⟩
      have v_11 := p_whoIsAt (G := G) (f0 := f0) (h_ := 0) (b_ := 0) h_0 (by first | omega | (simp (disch := omega) only [↓i_in, ↓i_isCouple, ↓i_isBridge, ↓i_isTheme, ↓i_isBarge, i_lt, i_le, i_eq, i_clamp, i_upd, i_m1, Int32.toInt_toInt64, Int32.toInt_add, Int32.toInt_sub, Int32.toInt_mul, bm32, Int32.reduceToInt, Int64.reduceToInt, Nat.reduceLT, Nat.reduceEqDiff, reduceIte] <;> omega)) (by first | omega | (simp (disch := omega) only [↓i_in, ↓i_isCouple, ↓i_isBridge, ↓i_isTheme, ↓i_isBarge, i_lt, i_le, i_eq, i_clamp, i_upd, i_m1, Int32.toInt_toInt64, Int32.toInt_add, Int32.toInt_sub, Int32.toInt_mul, bm32, Int32.reduceToInt, Int64.reduceToInt, Nat.reduceLT, Nat.reduceEqDiff, reduceIte] <;> omega))
      try simp (disch := omega) only [↓i_in, ↓i_isCouple, ↓i_isBridge, ↓i_isTheme, ↓i_isBarge, i_lt, i_le, i_eq, i_clamp, i_upd, i_m1, Int32.toInt_toInt64, Int32.toInt_add, Int32.toInt_sub, Int32.toInt_mul, bm32, Int32.reduceToInt, Int64.reduceToInt, Nat.reduceLT, Nat.reduceEqDiff, reduceIte] at v_11
      refine ⟨fun c_12 => ?_, fun c_12 => ?_⟩
      · exact trivial
      · skip
        try simp (disch := omega) only [↓i_in, ↓i_isCouple, ↓i_isBridge, ↓i_isTheme, ↓i_isBarge, i_lt, i_le, i_eq, i_clamp, i_upd, i_m1, Int32.toInt_toInt64, Int32.toInt_add, Int32.toInt_sub, Int32.toInt_mul, bm32, Int32.reduceToInt, Int64.reduceToInt, Nat.reduceLT, Nat.reduceEqDiff, reduceIte] at c_12
        refine ⟨vp_in_iff.mpr (by first | omega | (simp (disch := omega) only [↓i_in, ↓i_isCouple, ↓i_isBridge, ↓i_isTheme, ↓i_isBarge, i_lt, i_le, i_eq, i_clamp, i_upd, i_m1, Int32.toInt_toInt64, Int32.toInt_add, Int32.toInt_sub, Int32.toInt_mul, bm32, Int32.reduceToInt, Int64.reduceToInt, Nat.reduceLT, Nat.reduceEqDiff, reduceIte] <;> omega)), ?_⟩
        refine ⟨vp_in_iff.mpr (by first | omega | (simp (disch := omega) only [↓i_in, ↓i_isCouple, ↓i_isBridge, ↓i_isTheme, ↓i_isBarge, i_lt, i_le, i_eq, i_clamp, i_upd, i_m1, Int32.toInt_toInt64, Int32.toInt_add, Int32.toInt_sub, Int32.toInt_mul, bm32, Int32.reduceToInt, Int64.reduceToInt, Nat.reduceLT, Nat.reduceEqDiff, reduceIte] <;> omega)), ?_⟩
        have th_13 := (h_1 ((12 + (f_m_whoIsAt G f0 0 0)) : Int32).toNatClampNeg).1 (by first | omega | (simp (disch := omega) only [↓i_in, ↓i_isCouple, ↓i_isBridge, ↓i_isTheme, ↓i_isBarge, i_lt, i_le, i_eq, i_clamp, i_upd, i_m1, Int32.toInt_toInt64, Int32.toInt_add, Int32.toInt_sub, Int32.toInt_mul, bm32, Int32.reduceToInt, Int64.reduceToInt, Nat.reduceLT, Nat.reduceEqDiff, reduceIte] <;> omega))
        try simp (disch := omega) only [↓i_in, ↓i_isCouple, ↓i_isBridge, ↓i_isTheme, ↓i_isBarge, i_lt, i_le, i_eq, i_clamp, i_upd, i_m1, Int32.toInt_toInt64, Int32.toInt_add, Int32.toInt_sub, Int32.toInt_mul, bm32, Int32.reduceToInt, Int64.reduceToInt, Nat.reduceLT, Nat.reduceEqDiff, reduceIte] at th_13
        refine ⟨(s_stampOf (by first | omega | (simp (disch := omega) only [↓i_in, ↓i_isCouple, ↓i_isBridge, ↓i_isTheme, ↓i_isBarge, i_lt, i_le, i_eq, i_clamp, i_upd, i_m1, Int32.toInt_toInt64, Int32.toInt_add, Int32.toInt_sub, Int32.toInt_mul, bm32, Int32.reduceToInt, Int64.reduceToInt, Nat.reduceLT, Nat.reduceEqDiff, reduceIte] <;> omega)) (by first | omega | (simp (disch := omega) only [↓i_in, ↓i_isCouple, ↓i_isBridge, ↓i_isTheme, ↓i_isBarge, i_lt, i_le, i_eq, i_clamp, i_upd, i_m1, Int32.toInt_toInt64, Int32.toInt_add, Int32.toInt_sub, Int32.toInt_mul, bm32, Int32.reduceToInt, Int64.reduceToInt, Nat.reduceLT, Nat.reduceEqDiff, reduceIte] <;> omega)) (by first | omega | (simp (disch := omega) only [↓i_in, ↓i_isCouple, ↓i_isBridge, ↓i_isTheme, ↓i_isBarge, i_lt, i_le, i_eq, i_clamp, i_upd, i_m1, Int32.toInt_toInt64, Int32.toInt_add, Int32.toInt_sub, Int32.toInt_mul, bm32, Int32.reduceToInt, Int64.reduceToInt, Nat.reduceLT, Nat.reduceEqDiff, reduceIte] <;> omega)) (by first | omega | (simp (disch := omega) only [↓i_in, ↓i_isCouple, ↓i_isBridge, ↓i_isTheme, ↓i_isBarge, i_lt, i_le, i_eq, i_clamp, i_upd, i_m1, Int32.toInt_toInt64, Int32.toInt_add, Int32.toInt_sub, Int32.toInt_mul, bm32, Int32.reduceToInt, Int64.reduceToInt, Nat.reduceLT, Nat.reduceEqDiff, reduceIte] <;> omega))), ?_⟩
        have v_14 := p_stampOf (G := G) (f10 := f10) (c_ := (f_m_whoIsAt G f0 0 0)) (t_ := (f0 ((12 + (f_m_whoIsAt G f0 0 0)) : Int32).toNatClampNeg)) (from_ := (f0 ((0 + (f_m_whoIsAt G f0 0 0)) : Int32).toNatClampNeg))
        try simp (disch := omega) only [↓i_in, ↓i_isCouple, ↓i_isBridge, ↓i_isTheme, ↓i_isBarge, i_lt, i_le, i_eq, i_clamp, i_upd, i_m1, Int32.toInt_toInt64, Int32.toInt_add, Int32.toInt_sub, Int32.toInt_mul, bm32, Int32.reduceToInt, Int64.reduceToInt, Nat.reduceLT, Nat.reduceEqDiff, reduceIte] at v_14
        refine sl_carried_63 h_0 ?_ ((((G 3) : Int32).toInt - (1 : Int32).toInt).toNat + 1) 1 0 (-1) (f_m_stampOf G f10 (f_m_whoIsAt G f0 0 0) (f0 ((12 + (f_m_whoIsAt G f0 0 0)) : Int32).toNatClampNeg) (f0 ((0 + (f_m_whoIsAt G f0 0 0)) : Int32).toNatClampNeg)) (⟨(by first | omega | (simp (disch := omega) only [↓i_in, ↓i_isCouple, ↓i_isBridge, ↓i_isTheme, ↓i_isBarge, i_lt, i_le, i_eq, i_clamp, i_upd, i_m1, Int32.toInt_toInt64, Int32.toInt_add, Int32.toInt_sub, Int32.toInt_mul, bm32, Int32.reduceToInt, Int64.reduceToInt, Nat.reduceLT, Nat.reduceEqDiff, reduceIte] <;> omega)), (by first | omega | (simp (disch := omega) only [↓i_in, ↓i_isCouple, ↓i_isBridge, ↓i_isTheme, ↓i_isBarge, i_lt, i_le, i_eq, i_clamp, i_upd, i_m1, Int32.toInt_toInt64, Int32.toInt_add, Int32.toInt_sub, Int32.toInt_mul, bm32, Int32.reduceToInt, Int64.reduceToInt, Nat.reduceLT, Nat.reduceEqDiff, reduceIte] <;> omega))⟩)
        intro w_56l6 w_56l5 w_56l4 w_56l3 i_15
        obtain ⟨i_16, i_17⟩ := i_15
        refine ⟨fun c_18 => ?_, fun c_18 => ?_⟩
        · exact trivial
        · exact trivial
set_option maxHeartbeats 4000000 in
theorem sl_midstream_74 {n_ : Int32} {K : Int32 → Int64 → Int32 → Prop} (hK : ∀ w_15l7 w_15l5 w_15l4, True → K w_15l7 w_15l5 w_15l4) : ∀ (n : Nat) w_15l7 w_15l5 w_15l4, True → S_m_midstream_74 n_ K n w_15l7 w_15l5 w_15l4 := by
  intro n
  induction n with
  | zero => intro w_15l7 w_15l5 w_15l4 hI; exact trivial
  | succ n ih =>
    intro w_15l7 w_15l5 w_15l4 hI
    rw [S_m_midstream_74_s]
    have hI0 := hI
    refine ⟨fun c_1 => ?_, fun c_1 => ?_⟩
    · skip
      try simp (disch := omega) only [↓i_in, ↓i_isCouple, ↓i_isBridge, ↓i_isTheme, ↓i_isBarge, i_lt, i_le, i_eq, i_clamp, i_upd, i_m1, Int32.toInt_toInt64, Int32.toInt_add, Int32.toInt_sub, Int32.toInt_mul, bm32, Int32.reduceToInt, Int64.reduceToInt, Nat.reduceLT, Nat.reduceEqDiff, reduceIte] at c_1
      exact hK w_15l7 w_15l5 w_15l4 hI
    · skip
      try simp (disch := omega) only [↓i_in, ↓i_isCouple, ↓i_isBridge, ↓i_isTheme, ↓i_isBarge, i_lt, i_le, i_eq, i_clamp, i_upd, i_m1, Int32.toInt_toInt64, Int32.toInt_add, Int32.toInt_sub, Int32.toInt_mul, bm32, Int32.reduceToInt, Int64.reduceToInt, Nat.reduceLT, Nat.reduceEqDiff, reduceIte] at c_1
      exact ih (w_15l7 + 1) ((w_15l5 * ((1000 - w_15l4)).toInt64) / 1000) w_15l4 trivial
set_option maxHeartbeats 4000000 in
theorem s_midstream {G : Nat → Int32} {f0 : Nat → Int32} {c_ : Int32} {n_ : Int32} {q_ : Int32} (h_0 : GI G) : S_m_midstream G f0 c_ n_ q_ := by
  unfold S_m_midstream
  have h_0_g := h_0
  obtain ⟨⟨h_0_2a, h_0_2b⟩, ⟨h_0_3a, h_0_3b⟩, ⟨h_0_4a, h_0_4b⟩, ⟨h_0_5a, h_0_5b⟩, ⟨h_0_6a, h_0_6b⟩, ⟨h_0_14a, h_0_14b⟩, ⟨h_0_42a, h_0_42b⟩⟩ := h_0_g
  refine ⟨s_isCouple, ?_⟩
  refine ⟨fun c_1 => ?_, fun c_1 => ?_⟩
  · exact trivial
  · skip
    try simp (disch := omega) only [↓i_in, ↓i_isCouple, ↓i_isBridge, ↓i_isTheme, ↓i_isBarge, i_lt, i_le, i_eq, i_clamp, i_upd, i_m1, Int32.toInt_toInt64, Int32.toInt_add, Int32.toInt_sub, Int32.toInt_mul, bm32, Int32.reduceToInt, Int64.reduceToInt, Nat.reduceLT, Nat.reduceEqDiff, reduceIte] at c_1
    refine ⟨s_in, ?_⟩
    refine ⟨fun c_2 => ?_, fun c_2 => ?_⟩
    · exact trivial
    · skip
      try simp (disch := omega) only [↓i_in, ↓i_isCouple, ↓i_isBridge, ↓i_isTheme, ↓i_isBarge, i_lt, i_le, i_eq, i_clamp, i_upd, i_m1, Int32.toInt_toInt64, Int32.toInt_add, Int32.toInt_sub, Int32.toInt_mul, bm32, Int32.reduceToInt, Int64.reduceToInt, Nat.reduceLT, Nat.reduceEqDiff, reduceIte] at c_2
      refine ⟨s_in, ?_⟩
      refine ⟨fun c_3 => ?_, fun c_3 => ?_⟩
      · exact trivial
      · skip
        try simp (disch := omega) only [↓i_in, ↓i_isCouple, ↓i_isBridge, ↓i_isTheme, ↓i_isBarge, i_lt, i_le, i_eq, i_clamp, i_upd, i_m1, Int32.toInt_toInt64, Int32.toInt_add, Int32.toInt_sub, Int32.toInt_mul, bm32, Int32.reduceToInt, Int64.reduceToInt, Nat.reduceLT, Nat.reduceEqDiff, reduceIte] at c_3
        refine ⟨vp_in_iff.mpr (by first | omega | (simp (disch := omega) only [↓i_in, ↓i_isCouple, ↓i_isBridge, ↓i_isTheme, ↓i_isBarge, i_lt, i_le, i_eq, i_clamp, i_upd, i_m1, Int32.toInt_toInt64, Int32.toInt_add, Int32.toInt_sub, Int32.toInt_mul, bm32, Int32.reduceToInt, Int64.reduceToInt, Nat.reduceLT, Nat.reduceEqDiff, reduceIte] <;> omega)), ?_⟩
        refine ⟨fun c_4 => ?_, fun c_4 => ?_⟩
        · skip
          try simp (disch := omega) only [↓i_in, ↓i_isCouple, ↓i_isBridge, ↓i_isTheme, ↓i_isBarge, i_lt, i_le, i_eq, i_clamp, i_upd, i_m1, Int32.toInt_toInt64, Int32.toInt_add, Int32.toInt_sub, Int32.toInt_mul, bm32, Int32.reduceToInt, Int64.reduceToInt, Nat.reduceLT, Nat.reduceEqDiff, reduceIte] at c_4
          refine sl_midstream_74 ?_ (((n_ : Int32).toInt - (0 : Int32).toInt).toNat + 1) 0 1000000000 0 trivial
          intro w_15l7 w_15l5 w_15l4 i_5
          exact trivial
        · skip
          try simp (disch := omega) only [↓i_in, ↓i_isCouple, ↓i_isBridge, ↓i_isTheme, ↓i_isBarge, i_lt, i_le, i_eq, i_clamp, i_upd, i_m1, Int32.toInt_toInt64, Int32.toInt_add, Int32.toInt_sub, Int32.toInt_mul, bm32, Int32.reduceToInt, Int64.reduceToInt, Nat.reduceLT, Nat.reduceEqDiff, reduceIte] at c_4
          refine ⟨vp_in_iff.mpr (by first | omega | (simp (disch := omega) only [↓i_in, ↓i_isCouple, ↓i_isBridge, ↓i_isTheme, ↓i_isBarge, i_lt, i_le, i_eq, i_clamp, i_upd, i_m1, Int32.toInt_toInt64, Int32.toInt_add, Int32.toInt_sub, Int32.toInt_mul, bm32, Int32.reduceToInt, Int64.reduceToInt, Nat.reduceLT, Nat.reduceEqDiff, reduceIte] <;> omega)), ?_⟩
          refine sl_midstream_74 ?_ (((n_ : Int32).toInt - (0 : Int32).toInt).toNat + 1) 0 1000000000 (q_ - (f0 ((0 + c_) : Int32).toNatClampNeg)) trivial
          intro w_18l7 w_18l5 w_18l4 i_6
          exact trivial
set_option maxHeartbeats 4000000 in
theorem sl_judge_2 {G : Nat → Int32} {f0 : Nat → Int32} {f43 : Nat → Int32} {f44 : Nat → Int32} {K : Int32 → Prop} (h_0 : GI G) (h_1 : RI f43) (hK : ∀ w_1l1, ((0 ≤ w_1l1.toInt) ∧ (w_1l1.toInt ≤ 15)) → K w_1l1) : ∀ (n : Nat) w_1l1, ((0 ≤ w_1l1.toInt) ∧ (w_1l1.toInt ≤ 15)) → S_m_judge_2 G f0 f43 f44 K n w_1l1 := by
  have h_0_g := h_0
  obtain ⟨⟨h_0_2a, h_0_2b⟩, ⟨h_0_3a, h_0_3b⟩, ⟨h_0_4a, h_0_4b⟩, ⟨h_0_5a, h_0_5b⟩, ⟨h_0_6a, h_0_6b⟩, ⟨h_0_14a, h_0_14b⟩, ⟨h_0_42a, h_0_42b⟩⟩ := h_0_g
  intro n
  induction n with
  | zero => intro w_1l1 hI; exact trivial
  | succ n ih =>
    intro w_1l1 hI
    rw [S_m_judge_2_s]
    have hI0 := hI
    obtain ⟨i_1, i_2⟩ := hI0
    have rf := h_1 w_1l1.toInt.toNat
    refine ⟨fun c_3 => ?_, fun c_3 => ?_⟩
    · skip
      try simp (disch := omega) only [↓i_in, ↓i_isCouple, ↓i_isBridge, ↓i_isTheme, ↓i_isBarge, i_lt, i_le, i_eq, i_clamp, i_upd, i_m1, Int32.toInt_toInt64, Int32.toInt_add, Int32.toInt_sub, Int32.toInt_mul, bm32, Int32.reduceToInt, Int64.reduceToInt, Nat.reduceLT, Nat.reduceEqDiff, reduceIte] at c_3
      exact hK w_1l1 hI
    · skip
      try simp (disch := omega) only [↓i_in, ↓i_isCouple, ↓i_isBridge, ↓i_isTheme, ↓i_isBarge, i_lt, i_le, i_eq, i_clamp, i_upd, i_m1, Int32.toInt_toInt64, Int32.toInt_add, Int32.toInt_sub, Int32.toInt_mul, bm32, Int32.reduceToInt, Int64.reduceToInt, Nat.reduceLT, Nat.reduceEqDiff, reduceIte] at c_3
      refine ⟨vp_in_iff.mpr (by first | omega | (simp (disch := omega) only [↓i_in, ↓i_isCouple, ↓i_isBridge, ↓i_isTheme, ↓i_isBarge, i_lt, i_le, i_eq, i_clamp, i_upd, i_m1, Int32.toInt_toInt64, Int32.toInt_add, Int32.toInt_sub, Int32.toInt_mul, bm32, Int32.reduceToInt, Int64.reduceToInt, Nat.reduceLT, Nat.reduceEqDiff, reduceIte] <;> omega)), ?_⟩
      refine ⟨vp_in_iff.mpr (by first | omega | (simp (disch := omega) only [↓i_in, ↓i_isCouple, ↓i_isBridge, ↓i_isTheme, ↓i_isBarge, i_lt, i_le, i_eq, i_clamp, i_upd, i_m1, Int32.toInt_toInt64, Int32.toInt_add, Int32.toInt_sub, Int32.toInt_mul, bm32, Int32.reduceToInt, Int64.reduceToInt, Nat.reduceLT, Nat.reduceEqDiff, reduceIte] <;> omega)), ?_⟩
      refine ⟨vp_in_iff.mpr (by first | omega | (simp (disch := omega) only [↓i_in, ↓i_isCouple, ↓i_isBridge, ↓i_isTheme, ↓i_isBarge, i_lt, i_le, i_eq, i_clamp, i_upd, i_m1, Int32.toInt_toInt64, Int32.toInt_add, Int32.toInt_sub, Int32.toInt_mul, bm32, Int32.reduceToInt, Int64.reduceToInt, Nat.reduceLT, Nat.reduceEqDiff, reduceIte] <;> omega)), ?_⟩
      refine ⟨fun c_4 => ?_, fun c_4 => ?_⟩
      · skip
        try simp (disch := omega) only [↓i_in, ↓i_isCouple, ↓i_isBridge, ↓i_isTheme, ↓i_isBarge, i_lt, i_le, i_eq, i_clamp, i_upd, i_m1, Int32.toInt_toInt64, Int32.toInt_add, Int32.toInt_sub, Int32.toInt_mul, bm32, Int32.reduceToInt, Int64.reduceToInt, Nat.reduceLT, Nat.reduceEqDiff, reduceIte] at c_4
        exact ih (w_1l1 + 1) (⟨(by first | omega | (simp (disch := omega) only [↓i_in, ↓i_isCouple, ↓i_isBridge, ↓i_isTheme, ↓i_isBarge, i_lt, i_le, i_eq, i_clamp, i_upd, i_m1, Int32.toInt_toInt64, Int32.toInt_add, Int32.toInt_sub, Int32.toInt_mul, bm32, Int32.reduceToInt, Int64.reduceToInt, Nat.reduceLT, Nat.reduceEqDiff, reduceIte] <;> omega)), (by first | omega | (simp (disch := omega) only [↓i_in, ↓i_isCouple, ↓i_isBridge, ↓i_isTheme, ↓i_isBarge, i_lt, i_le, i_eq, i_clamp, i_upd, i_m1, Int32.toInt_toInt64, Int32.toInt_add, Int32.toInt_sub, Int32.toInt_mul, bm32, Int32.reduceToInt, Int64.reduceToInt, Nat.reduceLT, Nat.reduceEqDiff, reduceIte] <;> omega))⟩)
      · exact trivial
set_option maxHeartbeats 4000000 in
theorem s_judge {G : Nat → Int32} {f0 : Nat → Int32} {f43 : Nat → Int32} {f44 : Nat → Int32} (h_0 : GI G) (h_1 : RI f43) : S_m_judge G f0 f43 f44 := by
  unfold S_m_judge
  have h_0_g := h_0
  obtain ⟨⟨h_0_2a, h_0_2b⟩, ⟨h_0_3a, h_0_3b⟩, ⟨h_0_4a, h_0_4b⟩, ⟨h_0_5a, h_0_5b⟩, ⟨h_0_6a, h_0_6b⟩, ⟨h_0_14a, h_0_14b⟩, ⟨h_0_42a, h_0_42b⟩⟩ := h_0_g
  refine sl_judge_2 h_0 h_1 ?_ ((((G 42) : Int32).toInt - (0 : Int32).toInt).toNat + 1) 0 (⟨(by first | omega | (simp (disch := omega) only [↓i_in, ↓i_isCouple, ↓i_isBridge, ↓i_isTheme, ↓i_isBarge, i_lt, i_le, i_eq, i_clamp, i_upd, i_m1, Int32.toInt_toInt64, Int32.toInt_add, Int32.toInt_sub, Int32.toInt_mul, bm32, Int32.reduceToInt, Int64.reduceToInt, Nat.reduceLT, Nat.reduceEqDiff, reduceIte] <;> omega)), (by first | omega | (simp (disch := omega) only [↓i_in, ↓i_isCouple, ↓i_isBridge, ↓i_isTheme, ↓i_isBarge, i_lt, i_le, i_eq, i_clamp, i_upd, i_m1, Int32.toInt_toInt64, Int32.toInt_add, Int32.toInt_sub, Int32.toInt_mul, bm32, Int32.reduceToInt, Int64.reduceToInt, Nat.reduceLT, Nat.reduceEqDiff, reduceIte] <;> omega))⟩)
  intro w_1l1 i_1
  obtain ⟨i_2, i_3⟩ := i_1
  exact trivial
set_option maxHeartbeats 4000000 in
theorem sl_fleet_19 {G : Nat → Int32} {f8 : Nat → Int32} {n_ : Int32} {K : Int32 → Int32 → Prop} (h_0 : GI G) (hK : ∀ w_5l3 w_5l2, ((0 ≤ w_5l3.toInt) ∧ (w_5l3.toInt ≤ 6)) → K w_5l3 w_5l2) : ∀ (n : Nat) w_5l3 w_5l2, ((0 ≤ w_5l3.toInt) ∧ (w_5l3.toInt ≤ 6)) → S_m_fleet_19 G f8 n_ K n w_5l3 w_5l2 := by
  have h_0_g := h_0
  obtain ⟨⟨h_0_2a, h_0_2b⟩, ⟨h_0_3a, h_0_3b⟩, ⟨h_0_4a, h_0_4b⟩, ⟨h_0_5a, h_0_5b⟩, ⟨h_0_6a, h_0_6b⟩, ⟨h_0_14a, h_0_14b⟩, ⟨h_0_42a, h_0_42b⟩⟩ := h_0_g
  intro n
  induction n with
  | zero => intro w_5l3 w_5l2 hI; exact trivial
  | succ n ih =>
    intro w_5l3 w_5l2 hI
    rw [S_m_fleet_19_s]
    have hI0 := hI
    obtain ⟨i_1, i_2⟩ := hI0
    refine ⟨fun c_3 => ?_, fun c_3 => ?_⟩
    · skip
      try simp (disch := omega) only [↓i_in, ↓i_isCouple, ↓i_isBridge, ↓i_isTheme, ↓i_isBarge, i_lt, i_le, i_eq, i_clamp, i_upd, i_m1, Int32.toInt_toInt64, Int32.toInt_add, Int32.toInt_sub, Int32.toInt_mul, bm32, Int32.reduceToInt, Int64.reduceToInt, Nat.reduceLT, Nat.reduceEqDiff, reduceIte] at c_3
      exact hK w_5l3 w_5l2 hI
    · skip
      try simp (disch := omega) only [↓i_in, ↓i_isCouple, ↓i_isBridge, ↓i_isTheme, ↓i_isBarge, i_lt, i_le, i_eq, i_clamp, i_upd, i_m1, Int32.toInt_toInt64, Int32.toInt_add, Int32.toInt_sub, Int32.toInt_mul, bm32, Int32.reduceToInt, Int64.reduceToInt, Nat.reduceLT, Nat.reduceEqDiff, reduceIte] at c_3
      refine ⟨vp_in_iff.mpr (by first | omega | (simp (disch := omega) only [↓i_in, ↓i_isCouple, ↓i_isBridge, ↓i_isTheme, ↓i_isBarge, i_lt, i_le, i_eq, i_clamp, i_upd, i_m1, Int32.toInt_toInt64, Int32.toInt_add, Int32.toInt_sub, Int32.toInt_mul, bm32, Int32.reduceToInt, Int64.reduceToInt, Nat.reduceLT, Nat.reduceEqDiff, reduceIte] <;> omega)), ?_⟩
      exact ih (w_5l3 + 1) (w_5l2 + (n_ * (f8 (w_5l3 : Int32).toNatClampNeg))) (⟨(by first | omega | (simp (disch := omega) only [↓i_in, ↓i_isCouple, ↓i_isBridge, ↓i_isTheme, ↓i_isBarge, i_lt, i_le, i_eq, i_clamp, i_upd, i_m1, Int32.toInt_toInt64, Int32.toInt_add, Int32.toInt_sub, Int32.toInt_mul, bm32, Int32.reduceToInt, Int64.reduceToInt, Nat.reduceLT, Nat.reduceEqDiff, reduceIte] <;> omega)), (by first | omega | (simp (disch := omega) only [↓i_in, ↓i_isCouple, ↓i_isBridge, ↓i_isTheme, ↓i_isBarge, i_lt, i_le, i_eq, i_clamp, i_upd, i_m1, Int32.toInt_toInt64, Int32.toInt_add, Int32.toInt_sub, Int32.toInt_mul, bm32, Int32.reduceToInt, Int64.reduceToInt, Nat.reduceLT, Nat.reduceEqDiff, reduceIte] <;> omega))⟩)
set_option maxHeartbeats 4000000 in
theorem sl_fleet_49 {G : Nat → Int32} {f0 : Nat → Int32} {w_5l2 : Int32} {K : Int32 → Int32 → Prop} (h_0 : GI G) (hK : ∀ w_6l4 w_6l3, True → K w_6l4 w_6l3) : ∀ (n : Nat) w_6l4 w_6l3, True → S_m_fleet_49 G f0 w_5l2 K n w_6l4 w_6l3 := by
  have h_0_g := h_0
  obtain ⟨⟨h_0_2a, h_0_2b⟩, ⟨h_0_3a, h_0_3b⟩, ⟨h_0_4a, h_0_4b⟩, ⟨h_0_5a, h_0_5b⟩, ⟨h_0_6a, h_0_6b⟩, ⟨h_0_14a, h_0_14b⟩, ⟨h_0_42a, h_0_42b⟩⟩ := h_0_g
  intro n
  induction n with
  | zero => intro w_6l4 w_6l3 hI; exact trivial
  | succ n ih =>
    intro w_6l4 w_6l3 hI
    rw [S_m_fleet_49_s]
    have hI0 := hI
    refine ⟨fun c_1 => ?_, fun c_1 => ?_⟩
    · skip
      try simp (disch := omega) only [↓i_in, ↓i_isCouple, ↓i_isBridge, ↓i_isTheme, ↓i_isBarge, i_lt, i_le, i_eq, i_clamp, i_upd, i_m1, Int32.toInt_toInt64, Int32.toInt_add, Int32.toInt_sub, Int32.toInt_mul, bm32, Int32.reduceToInt, Int64.reduceToInt, Nat.reduceLT, Nat.reduceEqDiff, reduceIte] at c_1
      exact hK w_6l4 w_6l3 hI
    · skip
      try simp (disch := omega) only [↓i_in, ↓i_isCouple, ↓i_isBridge, ↓i_isTheme, ↓i_isBarge, i_lt, i_le, i_eq, i_clamp, i_upd, i_m1, Int32.toInt_toInt64, Int32.toInt_add, Int32.toInt_sub, Int32.toInt_mul, bm32, Int32.reduceToInt, Int64.reduceToInt, Nat.reduceLT, Nat.reduceEqDiff, reduceIte] at c_1
      refine ⟨fun c_2 => ?_, fun c_2 => ?_⟩
      · skip
        try simp (disch := omega) only [↓i_in, ↓i_isCouple, ↓i_isBridge, ↓i_isTheme, ↓i_isBarge, i_lt, i_le, i_eq, i_clamp, i_upd, i_m1, Int32.toInt_toInt64, Int32.toInt_add, Int32.toInt_sub, Int32.toInt_mul, bm32, Int32.reduceToInt, Int64.reduceToInt, Nat.reduceLT, Nat.reduceEqDiff, reduceIte] at c_2
        refine ⟨(s_griefOf h_0), ?_⟩
        refine ⟨fun c_3 => ?_, fun c_3 => ?_⟩
        · skip
          try simp (disch := omega) only [↓i_in, ↓i_isCouple, ↓i_isBridge, ↓i_isTheme, ↓i_isBarge, i_lt, i_le, i_eq, i_clamp, i_upd, i_m1, Int32.toInt_toInt64, Int32.toInt_add, Int32.toInt_sub, Int32.toInt_mul, bm32, Int32.reduceToInt, Int64.reduceToInt, Nat.reduceLT, Nat.reduceEqDiff, reduceIte] at c_3
          exact ih (w_6l4 + 1) w_6l3 trivial
        · skip
          try simp (disch := omega) only [↓i_in, ↓i_isCouple, ↓i_isBridge, ↓i_isTheme, ↓i_isBarge, i_lt, i_le, i_eq, i_clamp, i_upd, i_m1, Int32.toInt_toInt64, Int32.toInt_add, Int32.toInt_sub, Int32.toInt_mul, bm32, Int32.reduceToInt, Int64.reduceToInt, Nat.reduceLT, Nat.reduceEqDiff, reduceIte] at c_3
          refine ⟨fun c_4 => ?_, fun c_4 => ?_⟩
          · skip
            try simp (disch := omega) only [↓i_in, ↓i_isCouple, ↓i_isBridge, ↓i_isTheme, ↓i_isBarge, i_lt, i_le, i_eq, i_clamp, i_upd, i_m1, Int32.toInt_toInt64, Int32.toInt_add, Int32.toInt_sub, Int32.toInt_mul, bm32, Int32.reduceToInt, Int64.reduceToInt, Nat.reduceLT, Nat.reduceEqDiff, reduceIte] at c_4
            exact ih (w_6l4 + 1) w_6l4 trivial
          · skip
            try simp (disch := omega) only [↓i_in, ↓i_isCouple, ↓i_isBridge, ↓i_isTheme, ↓i_isBarge, i_lt, i_le, i_eq, i_clamp, i_upd, i_m1, Int32.toInt_toInt64, Int32.toInt_add, Int32.toInt_sub, Int32.toInt_mul, bm32, Int32.reduceToInt, Int64.reduceToInt, Nat.reduceLT, Nat.reduceEqDiff, reduceIte] at c_4
            refine ⟨s_ones, ?_⟩
            refine ⟨s_ones, ?_⟩
            refine ⟨fun c_5 => ?_, fun c_5 => ?_⟩
            · skip
              try simp (disch := omega) only [↓i_in, ↓i_isCouple, ↓i_isBridge, ↓i_isTheme, ↓i_isBarge, i_lt, i_le, i_eq, i_clamp, i_upd, i_m1, Int32.toInt_toInt64, Int32.toInt_add, Int32.toInt_sub, Int32.toInt_mul, bm32, Int32.reduceToInt, Int64.reduceToInt, Nat.reduceLT, Nat.reduceEqDiff, reduceIte] at c_5
              exact ih (w_6l4 + 1) w_6l3 trivial
            · skip
              try simp (disch := omega) only [↓i_in, ↓i_isCouple, ↓i_isBridge, ↓i_isTheme, ↓i_isBarge, i_lt, i_le, i_eq, i_clamp, i_upd, i_m1, Int32.toInt_toInt64, Int32.toInt_add, Int32.toInt_sub, Int32.toInt_mul, bm32, Int32.reduceToInt, Int64.reduceToInt, Nat.reduceLT, Nat.reduceEqDiff, reduceIte] at c_5
              exact ih (w_6l4 + 1) w_6l4 trivial
      · skip
        try simp (disch := omega) only [↓i_in, ↓i_isCouple, ↓i_isBridge, ↓i_isTheme, ↓i_isBarge, i_lt, i_le, i_eq, i_clamp, i_upd, i_m1, Int32.toInt_toInt64, Int32.toInt_add, Int32.toInt_sub, Int32.toInt_mul, bm32, Int32.reduceToInt, Int64.reduceToInt, Nat.reduceLT, Nat.reduceEqDiff, reduceIte] at c_2
        exact ih (w_6l4 + 1) w_6l3 trivial
set_option maxHeartbeats 4000000 in
theorem s_fleet {G : Nat → Int32} {f0 : Nat → Int32} {f8 : Nat → Int32} {n_ : Int32} (h_0 : GI G) : S_m_fleet G f0 f8 n_ := by
  unfold S_m_fleet
  have h_0_g := h_0
  obtain ⟨⟨h_0_2a, h_0_2b⟩, ⟨h_0_3a, h_0_3b⟩, ⟨h_0_4a, h_0_4b⟩, ⟨h_0_5a, h_0_5b⟩, ⟨h_0_6a, h_0_6b⟩, ⟨h_0_14a, h_0_14b⟩, ⟨h_0_42a, h_0_42b⟩⟩ := h_0_g
  refine ⟨s_in, ?_⟩
  refine ⟨fun c_1 => ?_, fun c_1 => ?_⟩
  · exact trivial
  · skip
    try simp (disch := omega) only [↓i_in, ↓i_isCouple, ↓i_isBridge, ↓i_isTheme, ↓i_isBarge, i_lt, i_le, i_eq, i_clamp, i_upd, i_m1, Int32.toInt_toInt64, Int32.toInt_add, Int32.toInt_sub, Int32.toInt_mul, bm32, Int32.reduceToInt, Int64.reduceToInt, Nat.reduceLT, Nat.reduceEqDiff, reduceIte] at c_1
    refine sl_fleet_19 h_0 ?_ ((((G 3) : Int32).toInt - (0 : Int32).toInt).toNat + 1) 0 0 (⟨(by first | omega | (simp (disch := omega) only [↓i_in, ↓i_isCouple, ↓i_isBridge, ↓i_isTheme, ↓i_isBarge, i_lt, i_le, i_eq, i_clamp, i_upd, i_m1, Int32.toInt_toInt64, Int32.toInt_add, Int32.toInt_sub, Int32.toInt_mul, bm32, Int32.reduceToInt, Int64.reduceToInt, Nat.reduceLT, Nat.reduceEqDiff, reduceIte] <;> omega)), (by first | omega | (simp (disch := omega) only [↓i_in, ↓i_isCouple, ↓i_isBridge, ↓i_isTheme, ↓i_isBarge, i_lt, i_le, i_eq, i_clamp, i_upd, i_m1, Int32.toInt_toInt64, Int32.toInt_add, Int32.toInt_sub, Int32.toInt_mul, bm32, Int32.reduceToInt, Int64.reduceToInt, Nat.reduceLT, Nat.reduceEqDiff, reduceIte] <;> omega))⟩)
    intro w_5l3 w_5l2 i_2
    obtain ⟨i_3, i_4⟩ := i_2
    refine sl_fleet_49 h_0 ?_ ((((1 <<< ((G 5) &&& 31)) : Int32).toInt - (0 : Int32).toInt).toNat + 1) 0 (-1) trivial
    intro w_6l4 w_6l3 i_5
    exact trivial
end
section
theorem u_eq {f : Nat → Int32} {k j : Nat} {x : Int32} (h : j = k) : upd f k x j = x := by rw [h, pk_us]
theorem u_ne {f : Nat → Int32} {k j : Nat} {x : Int32} (h : ¬ j = k) : upd f k x j = f j := pk_un h
def FR (B d : Int) (f : Nat → Int32) : Prop := ∀ j : Nat, (j : Int) ≤ d → -1 ≤ (f j).toInt ∧ (f j).toInt < B ∧ ((j : Int) < d → 0 ≤ (f j).toInt)
def fm (f : Nat → Int32) (k : Nat) : Int := Nat.rec (motive := fun _ => Int) 0 (fun k ih => ih + (8 - (f k).toInt) * 10 ^ (7 - k)) k
theorem fm_s (f : Nat → Int32) (k : Nat) : fm f (k + 1) = fm f k + (8 - (f k).toInt) * 10 ^ (7 - k) := rfl
theorem fm_upd (f : Nat → Int32) (x : Int32) (j k : Nat) (h : k ≤ j) : fm (upd f j x) k = fm f k := by
  induction k with
  | zero => rfl
  | succ k ih => rw [fm_s, fm_s, ih (by omega), u_ne (by omega)]
theorem ten_pos (k : Nat) : (0 : Int) < 10 ^ k := by
  induction k with
  | zero => decide
  | succ k ih => rw [Int.pow_succ]; omega
theorem fm_pos (f : Nat → Int32) (k : Nat) (h : ∀ j, j < k → (f j).toInt < 8) : 0 ≤ fm f k := by
  induction k with
  | zero => exact Int.le_refl _
  | succ k ih =>
    rw [fm_s]
    have h1 := ih (fun j hj => h j (by omega))
    have h2 : 0 < (8 - (f k).toInt) * 10 ^ (7 - k) := Int.mul_pos (by have := h k (by omega); omega) (ten_pos _)
    omega
theorem fm_pos1 (f : Nat → Int32) (k : Nat) (h : ∀ j, j < k + 1 → (f j).toInt < 8) : fm f k < fm f (k + 1) ∧ 0 < fm f (k + 1) := by
  rw [fm_s]
  have h1 := fm_pos f k (fun j hj => h j (by omega))
  have h2 : 0 < (8 - (f k).toInt) * 10 ^ (7 - k) := Int.mul_pos (by have := h k (by omega); omega) (ten_pos _)
  omega
def MS (x : Int) (n : Nat) : Prop := x.toNat < n
def MD (x y : Int) : Prop := x < y ∧ 0 < y
theorem MS0 {x : Int} : ¬ MS x 0 := Nat.not_lt_zero _
theorem MS.step {x y : Int} {n : Nat} (h : MD x y) (hm : MS y (n + 1)) : MS x n := by
  unfold MS at hm ⊢
  obtain ⟨h1, h2⟩ := h
  omega
theorem FR_stay {B : Int} {l : Int32} {f : Nat → Int32} (hB : B ≤ 7) (h0 : 0 ≤ l.toInt) (h : FR B l.toInt f) (hne : ¬ (f l.toInt.toNat).toInt + 1 = B) : FR B l.toInt (upd f l.toNatClampNeg ((f l.toNatClampNeg) + 1)) ∧ MD (fm (upd f l.toNatClampNeg ((f l.toNatClampNeg) + 1)) (l.toInt + 1).toNat) (fm f (l.toInt + 1).toNat) := by
  obtain ⟨k, hk⟩ : ∃ k : Nat, l.toInt.toNat = k := ⟨_, rfl⟩
  have hk2 : (l.toInt + 1).toNat = k + 1 := by omega
  have hk3 : l.toInt = (k : Int) := by omega
  rw [hk2, i_clamp, hk]
  rw [hk] at hne
  rw [hk3] at h ⊢
  obtain ⟨a, b, _⟩ := h k (Int.le_refl _)
  have hx : ((f k) + 1).toInt = (f k).toInt + 1 := by
    simp (disch := omega) only [Int32.toInt_add, bm32, Int32.reduceToInt]
  refine ⟨fun j hj => ?_, ?_, (fm_pos1 f k (fun j hj => by have := (h j (by omega)).2.1; omega)).2⟩
  · by_cases q : j = k
    · subst q
      rw [pk_us, hx]
      refine ⟨by omega, by omega, fun z => absurd z (Int.lt_irrefl _)⟩
    · rw [pk_un q]
      exact h j hj
  · rw [fm_s, fm_s, fm_upd f _ k k (Nat.le_refl _), pk_us, hx]
    have e : (8 - ((f k).toInt + 1)) * 10 ^ (7 - k) = (8 - (f k).toInt) * 10 ^ (7 - k) - 10 ^ (7 - k) := by
      rw [show (8 - ((f k).toInt + 1)) = (8 - (f k).toInt) - 1 by omega, Int.sub_mul, Int.one_mul]
    have := ten_pos (7 - k)
    omega
theorem FR_back {B : Int} {l : Int32} {f : Nat → Int32} (hB : B ≤ 7) (h0 : 0 ≤ l.toInt) (h7 : l.toInt ≤ 7) (h : FR B l.toInt f) : FR B (l + (-1)).toInt (upd f l.toNatClampNeg ((f l.toNatClampNeg) + 1)) ∧ MD (fm (upd f l.toNatClampNeg ((f l.toNatClampNeg) + 1)) ((l + (-1)).toInt + 1).toNat) (fm f (l.toInt + 1).toNat) := by
  obtain ⟨k, hk⟩ : ∃ k : Nat, l.toInt.toNat = k := ⟨_, rfl⟩
  have hl : (l + (-1)).toInt = l.toInt - 1 := by
    simp (disch := omega) only [Int32.toInt_add, bm32, i_m1]
    omega
  have hk2 : (l.toInt + 1).toNat = k + 1 := by omega
  have hk3 : l.toInt = (k : Int) := by omega
  have hk4 : ((l + (-1)).toInt + 1).toNat = k := by omega
  rw [hk4, hk2, i_clamp, hk, hl, hk3]
  rw [hk3] at h
  have hp := fm_pos1 f k (fun j hj => by have := (h j (by omega)).2.1; omega)
  refine ⟨fun j hj => ?_, ?_, hp.2⟩
  · rw [pk_un (by omega)]
    have q := h j (by omega)
    exact ⟨q.1, q.2.1, fun z => q.2.2 (by omega)⟩
  · rw [fm_upd f _ k k (Nat.le_refl _)]
    exact hp.1
theorem FR_fwd {B : Int} {l : Int32} {f : Nat → Int32} (hB : B ≤ 7) (hB0 : 0 ≤ B) (h0 : 0 ≤ l.toInt) (h7 : l.toInt ≤ 6) (h : FR B l.toInt f) (hne : ¬ (f l.toInt.toNat).toInt + 1 = B) : FR B (l + 1).toInt (upd (upd f l.toNatClampNeg ((f l.toNatClampNeg) + 1)) ((l + 1) : Int32).toNatClampNeg (-1)) ∧ MD (fm (upd (upd f l.toNatClampNeg ((f l.toNatClampNeg) + 1)) ((l + 1) : Int32).toNatClampNeg (-1)) ((l + 1).toInt + 1).toNat) (fm f (l.toInt + 1).toNat) := by
  obtain ⟨k, hk⟩ : ∃ k : Nat, l.toInt.toNat = k := ⟨_, rfl⟩
  have hl : (l + 1).toInt = l.toInt + 1 := by
    simp (disch := omega) only [Int32.toInt_add, bm32, Int32.reduceToInt]
  have hk2 : (l.toInt + 1).toNat = k + 1 := by omega
  have hk3 : l.toInt = (k : Int) := by omega
  have hk4 : ((l + 1).toInt + 1).toNat = k + 1 + 1 := by omega
  rw [hk4, hk2, i_clamp, hk, i_clamp, hl, hk2, hk3]
  rw [hk] at hne
  rw [hk3] at h
  obtain ⟨a, b, _⟩ := h k (Int.le_refl _)
  have hx : ((f k) + 1).toInt = (f k).toInt + 1 := by
    simp (disch := omega) only [Int32.toInt_add, bm32, Int32.reduceToInt]
  have hp := fm_pos1 f k (fun j hj => by have := (h j (by omega)).2.1; omega)
  refine ⟨fun j hj => ?_, ?_, hp.2⟩
  · by_cases q : j = k + 1
    · subst q
      rw [pk_us, i_m1]
      exact ⟨by omega, by omega, fun z => absurd z (by omega)⟩
    · rw [pk_un q]
      by_cases q2 : j = k
      · subst q2
        rw [pk_us, hx]
        exact ⟨by omega, by omega, fun _ => by omega⟩
      · rw [pk_un q2]
        have z := h j (by omega)
        exact ⟨z.1, z.2.1, fun _ => z.2.2 (by omega)⟩
  · rw [fm_s, fm_s, fm_s, fm_upd _ _ (k + 1) k (by omega), fm_upd f _ k k (Nat.le_refl _), pk_us, u_ne (by omega), pk_us, hx, i_m1]
    have e : (8 - ((f k).toInt + 1)) * 10 ^ (7 - k) = (8 - (f k).toInt) * 10 ^ (7 - k) - 10 ^ (7 - k) := by
      rw [show (8 - ((f k).toInt + 1)) = (8 - (f k).toInt) - 1 by omega, Int.sub_mul, Int.one_mul]
    have e2 : (10 : Int) ^ (7 - k) = 10 ^ (7 - (k + 1)) * 10 := by
      rw [show 7 - k = 7 - (k + 1) + 1 by omega, Int.pow_succ]
    have := ten_pos (7 - (k + 1))
    omega
set_option maxHeartbeats 4000000 in
theorem sl_findOrder_253 {G : Nat → Int32} {X2 : Nat → Int32} {w_4l1 : Int32} {K : Int32 → (Nat → Int32) → (Nat → Int32) → (Nat → Int32) → (Nat → Int32) → Prop} (h_0 : 0 ≤ w_4l1.toInt) (h_1 : w_4l1.toInt ≤ 6) (hK : ∀ w_37l5 w_37m0 w_37m1 w_37m2 w_37m3, (QF G w_37m0 ∧ WI w_37m1 ∧ (w_37m2 = X2) ∧ (0 ≤ w_37l5.toInt) ∧ (w_37l5.toInt ≤ 8) ∧ (0 ≤ (w_37m0 40).toInt) ∧ ((w_37m0 40).toInt ≤ 7)) → K w_37l5 w_37m0 w_37m1 w_37m2 w_37m3) : ∀ (n : Nat) w_37l5 w_37m0 w_37m1 w_37m2 w_37m3, (QF G w_37m0 ∧ WI w_37m1 ∧ (w_37m2 = X2) ∧ (0 ≤ w_37l5.toInt) ∧ (w_37l5.toInt ≤ 8) ∧ (0 ≤ (w_37m0 40).toInt) ∧ ((w_37m0 40).toInt ≤ 7)) → (8 - w_37l5.toInt).toNat < n → S_m_findOrder_253 w_4l1 K n w_37l5 w_37m0 w_37m1 w_37m2 w_37m3 := by
  intro n
  induction n with
  | zero => intro w_37l5 w_37m0 w_37m1 w_37m2 w_37m3 hI hm; exact absurd hm (Nat.not_lt_zero _)
  | succ n ih =>
    intro w_37l5 w_37m0 w_37m1 w_37m2 w_37m3 hI hm
    rw [S_m_findOrder_253_s]
    have hI0 := hI
    obtain ⟨i_1, i_2, i_3, i_4, i_5, i_6, i_7⟩ := hI0
    obtain ⟨w_37m0_2, w_37m0_3, w_37m0_4, w_37m0_5, w_37m0_6, w_37m0_14, w_37m0_42⟩ := QFs i_1
    refine ⟨fun c_8 => ?_, fun c_8 => ?_⟩
    · skip
      try simp (disch := omega) only [↓i_in, ↓i_isCouple, ↓i_isBridge, ↓i_isTheme, ↓i_isBarge, i_lt, i_le, i_eq, i_clamp, i_m1, Int32.toInt_toInt64, Int32.toInt_add, Int32.toInt_sub, Int32.toInt_mul, bm32, Int32.reduceToInt, Int64.reduceToInt, Nat.reduceLT, Nat.reduceEqDiff, reduceIte, u_eq, u_ne, w_37m0_2, w_37m0_3, w_37m0_4, w_37m0_5, w_37m0_6, w_37m0_14, w_37m0_42] at c_8
      exact hK w_37l5 w_37m0 w_37m1 w_37m2 w_37m3 hI
    · skip
      try simp (disch := omega) only [↓i_in, ↓i_isCouple, ↓i_isBridge, ↓i_isTheme, ↓i_isBarge, i_lt, i_le, i_eq, i_clamp, i_m1, Int32.toInt_toInt64, Int32.toInt_add, Int32.toInt_sub, Int32.toInt_mul, bm32, Int32.reduceToInt, Int64.reduceToInt, Nat.reduceLT, Nat.reduceEqDiff, reduceIte, u_eq, u_ne, w_37m0_2, w_37m0_3, w_37m0_4, w_37m0_5, w_37m0_6, w_37m0_14, w_37m0_42] at c_8
      refine ⟨vp_in_iff.mpr (by first | omega | (simp (disch := omega) only [↓i_in, ↓i_isCouple, ↓i_isBridge, ↓i_isTheme, ↓i_isBarge, i_lt, i_le, i_eq, i_clamp, i_m1, Int32.toInt_toInt64, Int32.toInt_add, Int32.toInt_sub, Int32.toInt_mul, bm32, Int32.reduceToInt, Int64.reduceToInt, Nat.reduceLT, Nat.reduceEqDiff, reduceIte, u_eq, u_ne, w_37m0_2, w_37m0_3, w_37m0_4, w_37m0_5, w_37m0_6, w_37m0_14, w_37m0_42] <;> omega)), ?_⟩
      refine ⟨vp_in_iff.mpr (by first | omega | (simp (disch := omega) only [↓i_in, ↓i_isCouple, ↓i_isBridge, ↓i_isTheme, ↓i_isBarge, i_lt, i_le, i_eq, i_clamp, i_m1, Int32.toInt_toInt64, Int32.toInt_add, Int32.toInt_sub, Int32.toInt_mul, bm32, Int32.reduceToInt, Int64.reduceToInt, Nat.reduceLT, Nat.reduceEqDiff, reduceIte, u_eq, u_ne, w_37m0_2, w_37m0_3, w_37m0_4, w_37m0_5, w_37m0_6, w_37m0_14, w_37m0_42] <;> omega)), ?_⟩
      exact ih (w_37l5 + 1) w_37m0 w_37m1 w_37m2 (upd w_37m3 (w_37l5 : Int32).toNatClampNeg (w_37m2 (w_37l5 : Int32).toNatClampNeg)) (⟨i_1, i_2, i_3, (by first | omega | (simp (disch := omega) only [↓i_in, ↓i_isCouple, ↓i_isBridge, ↓i_isTheme, ↓i_isBarge, i_lt, i_le, i_eq, i_clamp, i_m1, Int32.toInt_toInt64, Int32.toInt_add, Int32.toInt_sub, Int32.toInt_mul, bm32, Int32.reduceToInt, Int64.reduceToInt, Nat.reduceLT, Nat.reduceEqDiff, reduceIte, u_eq, u_ne, w_37m0_2, w_37m0_3, w_37m0_4, w_37m0_5, w_37m0_6, w_37m0_14, w_37m0_42] <;> omega)), (by first | omega | (simp (disch := omega) only [↓i_in, ↓i_isCouple, ↓i_isBridge, ↓i_isTheme, ↓i_isBarge, i_lt, i_le, i_eq, i_clamp, i_m1, Int32.toInt_toInt64, Int32.toInt_add, Int32.toInt_sub, Int32.toInt_mul, bm32, Int32.reduceToInt, Int64.reduceToInt, Nat.reduceLT, Nat.reduceEqDiff, reduceIte, u_eq, u_ne, w_37m0_2, w_37m0_3, w_37m0_4, w_37m0_5, w_37m0_6, w_37m0_14, w_37m0_42] <;> omega)), (by first | omega | (simp (disch := omega) only [↓i_in, ↓i_isCouple, ↓i_isBridge, ↓i_isTheme, ↓i_isBarge, i_lt, i_le, i_eq, i_clamp, i_m1, Int32.toInt_toInt64, Int32.toInt_add, Int32.toInt_sub, Int32.toInt_mul, bm32, Int32.reduceToInt, Int64.reduceToInt, Nat.reduceLT, Nat.reduceEqDiff, reduceIte, u_eq, u_ne, w_37m0_2, w_37m0_3, w_37m0_4, w_37m0_5, w_37m0_6, w_37m0_14, w_37m0_42] <;> omega)), (by first | omega | (simp (disch := omega) only [↓i_in, ↓i_isCouple, ↓i_isBridge, ↓i_isTheme, ↓i_isBarge, i_lt, i_le, i_eq, i_clamp, i_m1, Int32.toInt_toInt64, Int32.toInt_add, Int32.toInt_sub, Int32.toInt_mul, bm32, Int32.reduceToInt, Int64.reduceToInt, Nat.reduceLT, Nat.reduceEqDiff, reduceIte, u_eq, u_ne, w_37m0_2, w_37m0_3, w_37m0_4, w_37m0_5, w_37m0_6, w_37m0_14, w_37m0_42] <;> omega))⟩) (by first | omega | (simp (disch := omega) only [↓i_in, ↓i_isCouple, ↓i_isBridge, ↓i_isTheme, ↓i_isBarge, i_lt, i_le, i_eq, i_clamp, i_m1, Int32.toInt_toInt64, Int32.toInt_add, Int32.toInt_sub, Int32.toInt_mul, bm32, Int32.reduceToInt, Int64.reduceToInt, Nat.reduceLT, Nat.reduceEqDiff, reduceIte, u_eq, u_ne, w_37m0_2, w_37m0_3, w_37m0_4, w_37m0_5, w_37m0_6, w_37m0_14, w_37m0_42] <;> omega))
set_option maxHeartbeats 4000000 in
theorem pl_findOrder_253 {G : Nat → Int32} {X2 : Nat → Int32} {w_4l1 : Int32} (h_0 : 0 ≤ w_4l1.toInt) (h_1 : w_4l1.toInt ≤ 6) : ∀ (n : Nat) w_37l5 w_37m0 w_37m1 w_37m2 w_37m3, (QF G w_37m0 ∧ WI w_37m1 ∧ (w_37m2 = X2) ∧ (0 ≤ w_37l5.toInt) ∧ (w_37l5.toInt ≤ 8) ∧ (0 ≤ (w_37m0 40).toInt) ∧ ((w_37m0 40).toInt ≤ 7)) → ∀ r0 r1 r2 r3 r4, f_m_findOrder_253 w_4l1 n w_37l5 w_37m0 w_37m1 w_37m2 w_37m3 = (r0, r1, r2, r3, r4) → QF G r1 ∧ WI r2 ∧ (r3 = X2) ∧ (0 ≤ r0.toInt) ∧ (r0.toInt ≤ 8) ∧ (0 ≤ (r1 40).toInt) ∧ ((r1 40).toInt ≤ 7) := by
  intro n
  induction n with
  | zero =>
    intro w_37l5 w_37m0 w_37m1 w_37m2 w_37m3 hI r0 r1 r2 r3 r4 e
    replace e : (w_37l5, w_37m0, w_37m1, w_37m2, w_37m3) = (r0, r1, r2, r3, r4) := e
    cases e
    exact hI
  | succ n ih =>
    intro w_37l5 w_37m0 w_37m1 w_37m2 w_37m3 hI r0 r1 r2 r3 r4 e
    rw [f_m_findOrder_253_s] at e
    have hI0 := hI
    obtain ⟨i_1, i_2, i_3, i_4, i_5, i_6, i_7⟩ := hI0
    obtain ⟨w_37m0_2, w_37m0_3, w_37m0_4, w_37m0_5, w_37m0_6, w_37m0_14, w_37m0_42⟩ := QFs i_1
    by_cases c_8 : (w_4l1 + 1) ≤ w_37l5
    · rw [if_pos c_8] at e
      try simp (disch := omega) only [↓i_in, ↓i_isCouple, ↓i_isBridge, ↓i_isTheme, ↓i_isBarge, i_lt, i_le, i_eq, i_clamp, i_m1, Int32.toInt_toInt64, Int32.toInt_add, Int32.toInt_sub, Int32.toInt_mul, bm32, Int32.reduceToInt, Int64.reduceToInt, Nat.reduceLT, Nat.reduceEqDiff, reduceIte, u_eq, u_ne, w_37m0_2, w_37m0_3, w_37m0_4, w_37m0_5, w_37m0_6, w_37m0_14, w_37m0_42] at c_8
      cases e
      exact hI
    · rw [if_neg c_8] at e
      try simp (disch := omega) only [↓i_in, ↓i_isCouple, ↓i_isBridge, ↓i_isTheme, ↓i_isBarge, i_lt, i_le, i_eq, i_clamp, i_m1, Int32.toInt_toInt64, Int32.toInt_add, Int32.toInt_sub, Int32.toInt_mul, bm32, Int32.reduceToInt, Int64.reduceToInt, Nat.reduceLT, Nat.reduceEqDiff, reduceIte, u_eq, u_ne, w_37m0_2, w_37m0_3, w_37m0_4, w_37m0_5, w_37m0_6, w_37m0_14, w_37m0_42] at c_8
      exact ih (w_37l5 + 1) w_37m0 w_37m1 w_37m2 (upd w_37m3 (w_37l5 : Int32).toNatClampNeg (w_37m2 (w_37l5 : Int32).toNatClampNeg)) (⟨i_1, i_2, i_3, (by first | omega | (simp (disch := omega) only [↓i_in, ↓i_isCouple, ↓i_isBridge, ↓i_isTheme, ↓i_isBarge, i_lt, i_le, i_eq, i_clamp, i_m1, Int32.toInt_toInt64, Int32.toInt_add, Int32.toInt_sub, Int32.toInt_mul, bm32, Int32.reduceToInt, Int64.reduceToInt, Nat.reduceLT, Nat.reduceEqDiff, reduceIte, u_eq, u_ne, w_37m0_2, w_37m0_3, w_37m0_4, w_37m0_5, w_37m0_6, w_37m0_14, w_37m0_42] <;> omega)), (by first | omega | (simp (disch := omega) only [↓i_in, ↓i_isCouple, ↓i_isBridge, ↓i_isTheme, ↓i_isBarge, i_lt, i_le, i_eq, i_clamp, i_m1, Int32.toInt_toInt64, Int32.toInt_add, Int32.toInt_sub, Int32.toInt_mul, bm32, Int32.reduceToInt, Int64.reduceToInt, Nat.reduceLT, Nat.reduceEqDiff, reduceIte, u_eq, u_ne, w_37m0_2, w_37m0_3, w_37m0_4, w_37m0_5, w_37m0_6, w_37m0_14, w_37m0_42] <;> omega)), (by first | omega | (simp (disch := omega) only [↓i_in, ↓i_isCouple, ↓i_isBridge, ↓i_isTheme, ↓i_isBarge, i_lt, i_le, i_eq, i_clamp, i_m1, Int32.toInt_toInt64, Int32.toInt_add, Int32.toInt_sub, Int32.toInt_mul, bm32, Int32.reduceToInt, Int64.reduceToInt, Nat.reduceLT, Nat.reduceEqDiff, reduceIte, u_eq, u_ne, w_37m0_2, w_37m0_3, w_37m0_4, w_37m0_5, w_37m0_6, w_37m0_14, w_37m0_42] <;> omega)), (by first | omega | (simp (disch := omega) only [↓i_in, ↓i_isCouple, ↓i_isBridge, ↓i_isTheme, ↓i_isBarge, i_lt, i_le, i_eq, i_clamp, i_m1, Int32.toInt_toInt64, Int32.toInt_add, Int32.toInt_sub, Int32.toInt_mul, bm32, Int32.reduceToInt, Int64.reduceToInt, Nat.reduceLT, Nat.reduceEqDiff, reduceIte, u_eq, u_ne, w_37m0_2, w_37m0_3, w_37m0_4, w_37m0_5, w_37m0_6, w_37m0_14, w_37m0_42] <;> omega))⟩) _ _ _ _ _ e
set_option maxHeartbeats 4000000 in
theorem sl_findOrder_28 {G : Nat → Int32} {f10 : Nat → Int32} {f8 : Nat → Int32} {f11 : Nat → Int32} {f12 : Nat → Int32} {K : Int32 → Int32 → (Nat → Int32) → (Nat → Int32) → (Nat → Int32) → (Nat → Int32) → Prop} (h_0 : GI G) (h_1 : RI f11) (hK : ∀ w_4l2 w_4l1 w_4m0 w_4m1 w_4m2 w_4m3, (QF G w_4m0 ∧ WI w_4m1 ∧ (-1 ≤ w_4l1.toInt) ∧ (w_4l1.toInt ≤ 7) ∧ FR (G 6).toInt w_4l1.toInt w_4m2 ∧ (0 ≤ (w_4m0 40).toInt) ∧ ((w_4m0 40).toInt ≤ 7)) → K w_4l2 w_4l1 w_4m0 w_4m1 w_4m2 w_4m3) : ∀ (n : Nat) w_4l2 w_4l1 w_4m0 w_4m1 w_4m2 w_4m3, (QF G w_4m0 ∧ WI w_4m1 ∧ (-1 ≤ w_4l1.toInt) ∧ (w_4l1.toInt ≤ 7) ∧ FR (G 6).toInt w_4l1.toInt w_4m2 ∧ (0 ≤ (w_4m0 40).toInt) ∧ ((w_4m0 40).toInt ≤ 7)) → MS (fm w_4m2 (w_4l1.toInt + 1).toNat) n → S_m_findOrder_28 f10 f8 f11 f12 K n w_4l2 w_4l1 w_4m0 w_4m1 w_4m2 w_4m3 := by
  have h_0_g := h_0
  obtain ⟨⟨h_0_2a, h_0_2b⟩, ⟨h_0_3a, h_0_3b⟩, ⟨h_0_4a, h_0_4b⟩, ⟨h_0_5a, h_0_5b⟩, ⟨h_0_6a, h_0_6b⟩, ⟨h_0_14a, h_0_14b⟩, ⟨h_0_42a, h_0_42b⟩⟩ := h_0_g
  intro n
  induction n with
  | zero => intro w_4l2 w_4l1 w_4m0 w_4m1 w_4m2 w_4m3 hI hm; exact absurd hm MS0
  | succ n ih =>
    intro w_4l2 w_4l1 w_4m0 w_4m1 w_4m2 w_4m3 hI hm
    rw [S_m_findOrder_28_s]
    have hI0 := hI
    obtain ⟨i_1, i_2, i_3, i_4, i_5, i_6, i_7⟩ := hI0
    obtain ⟨w_4m0_2, w_4m0_3, w_4m0_4, w_4m0_5, w_4m0_6, w_4m0_14, w_4m0_42⟩ := QFs i_1
    refine ⟨fun c_8 => ?_, fun c_8 => ?_⟩
    · skip
      try simp (disch := omega) only [↓i_in, ↓i_isCouple, ↓i_isBridge, ↓i_isTheme, ↓i_isBarge, i_lt, i_le, i_eq, i_clamp, i_m1, Int32.toInt_toInt64, Int32.toInt_add, Int32.toInt_sub, Int32.toInt_mul, bm32, Int32.reduceToInt, Int64.reduceToInt, Nat.reduceLT, Nat.reduceEqDiff, reduceIte, u_eq, u_ne, w_4m0_2, w_4m0_3, w_4m0_4, w_4m0_5, w_4m0_6, w_4m0_14, w_4m0_42] at c_8
      exact hK w_4l2 w_4l1 w_4m0 w_4m1 w_4m2 w_4m3 hI
    · skip
      try simp (disch := omega) only [↓i_in, ↓i_isCouple, ↓i_isBridge, ↓i_isTheme, ↓i_isBarge, i_lt, i_le, i_eq, i_clamp, i_m1, Int32.toInt_toInt64, Int32.toInt_add, Int32.toInt_sub, Int32.toInt_mul, bm32, Int32.reduceToInt, Int64.reduceToInt, Nat.reduceLT, Nat.reduceEqDiff, reduceIte, u_eq, u_ne, w_4m0_2, w_4m0_3, w_4m0_4, w_4m0_5, w_4m0_6, w_4m0_14, w_4m0_42] at c_8
      have fr0 := i_5 w_4l1.toInt.toNat (by omega)
      refine ⟨vp_in_iff.mpr (by first | omega | (simp (disch := omega) only [↓i_in, ↓i_isCouple, ↓i_isBridge, ↓i_isTheme, ↓i_isBarge, i_lt, i_le, i_eq, i_clamp, i_m1, Int32.toInt_toInt64, Int32.toInt_add, Int32.toInt_sub, Int32.toInt_mul, bm32, Int32.reduceToInt, Int64.reduceToInt, Nat.reduceLT, Nat.reduceEqDiff, reduceIte, u_eq, u_ne, w_4m0_2, w_4m0_3, w_4m0_4, w_4m0_5, w_4m0_6, w_4m0_14, w_4m0_42] <;> omega)), ?_⟩
      refine ⟨vp_in_iff.mpr (by first | omega | (simp (disch := omega) only [↓i_in, ↓i_isCouple, ↓i_isBridge, ↓i_isTheme, ↓i_isBarge, i_lt, i_le, i_eq, i_clamp, i_m1, Int32.toInt_toInt64, Int32.toInt_add, Int32.toInt_sub, Int32.toInt_mul, bm32, Int32.reduceToInt, Int64.reduceToInt, Nat.reduceLT, Nat.reduceEqDiff, reduceIte, u_eq, u_ne, w_4m0_2, w_4m0_3, w_4m0_4, w_4m0_5, w_4m0_6, w_4m0_14, w_4m0_42] <;> omega)), ?_⟩
      refine ⟨vp_in_iff.mpr (by first | omega | (simp (disch := omega) only [↓i_in, ↓i_isCouple, ↓i_isBridge, ↓i_isTheme, ↓i_isBarge, i_lt, i_le, i_eq, i_clamp, i_m1, Int32.toInt_toInt64, Int32.toInt_add, Int32.toInt_sub, Int32.toInt_mul, bm32, Int32.reduceToInt, Int64.reduceToInt, Nat.reduceLT, Nat.reduceEqDiff, reduceIte, u_eq, u_ne, w_4m0_2, w_4m0_3, w_4m0_4, w_4m0_5, w_4m0_6, w_4m0_14, w_4m0_42] <;> omega)), ?_⟩
      refine ⟨fun c_9 => ?_, fun c_9 => ?_⟩
      · skip
        try simp (disch := omega) only [↓i_in, ↓i_isCouple, ↓i_isBridge, ↓i_isTheme, ↓i_isBarge, i_lt, i_le, i_eq, i_clamp, i_m1, Int32.toInt_toInt64, Int32.toInt_add, Int32.toInt_sub, Int32.toInt_mul, bm32, Int32.reduceToInt, Int64.reduceToInt, Nat.reduceLT, Nat.reduceEqDiff, reduceIte, u_eq, u_ne, w_4m0_2, w_4m0_3, w_4m0_4, w_4m0_5, w_4m0_6, w_4m0_14, w_4m0_42] at c_9
        refine ⟨fun c_10 => ?_, fun c_10 => ?_⟩
        · skip
          try simp (disch := omega) only [↓i_in, ↓i_isCouple, ↓i_isBridge, ↓i_isTheme, ↓i_isBarge, i_lt, i_le, i_eq, i_clamp, i_m1, Int32.toInt_toInt64, Int32.toInt_add, Int32.toInt_sub, Int32.toInt_mul, bm32, Int32.reduceToInt, Int64.reduceToInt, Nat.reduceLT, Nat.reduceEqDiff, reduceIte, u_eq, u_ne, w_4m0_2, w_4m0_3, w_4m0_4, w_4m0_5, w_4m0_6, w_4m0_14, w_4m0_42] at c_10
          have q_11 := FR_back (B := (G 6).toInt) (by first | omega | (simp (disch := omega) only [↓i_in, ↓i_isCouple, ↓i_isBridge, ↓i_isTheme, ↓i_isBarge, i_lt, i_le, i_eq, i_clamp, i_m1, Int32.toInt_toInt64, Int32.toInt_add, Int32.toInt_sub, Int32.toInt_mul, bm32, Int32.reduceToInt, Int64.reduceToInt, Nat.reduceLT, Nat.reduceEqDiff, reduceIte, u_eq, u_ne, w_4m0_2, w_4m0_3, w_4m0_4, w_4m0_5, w_4m0_6, w_4m0_14, w_4m0_42] <;> omega)) (by omega) (by omega) i_5
          obtain ⟨q_11a, q_11b⟩ := q_11
          exact ih (w_4l2 - 0) (w_4l1 + (-1)) w_4m0 w_4m1 (upd w_4m2 (w_4l1 : Int32).toNatClampNeg ((w_4m2 (w_4l1 : Int32).toNatClampNeg) + 1)) w_4m3 (⟨i_1, i_2, (by first | omega | (simp (disch := omega) only [↓i_in, ↓i_isCouple, ↓i_isBridge, ↓i_isTheme, ↓i_isBarge, i_lt, i_le, i_eq, i_clamp, i_m1, Int32.toInt_toInt64, Int32.toInt_add, Int32.toInt_sub, Int32.toInt_mul, bm32, Int32.reduceToInt, Int64.reduceToInt, Nat.reduceLT, Nat.reduceEqDiff, reduceIte, u_eq, u_ne, w_4m0_2, w_4m0_3, w_4m0_4, w_4m0_5, w_4m0_6, w_4m0_14, w_4m0_42] <;> omega)), (by first | omega | (simp (disch := omega) only [↓i_in, ↓i_isCouple, ↓i_isBridge, ↓i_isTheme, ↓i_isBarge, i_lt, i_le, i_eq, i_clamp, i_m1, Int32.toInt_toInt64, Int32.toInt_add, Int32.toInt_sub, Int32.toInt_mul, bm32, Int32.reduceToInt, Int64.reduceToInt, Nat.reduceLT, Nat.reduceEqDiff, reduceIte, u_eq, u_ne, w_4m0_2, w_4m0_3, w_4m0_4, w_4m0_5, w_4m0_6, w_4m0_14, w_4m0_42] <;> omega)), q_11a, (by first | omega | (simp (disch := omega) only [↓i_in, ↓i_isCouple, ↓i_isBridge, ↓i_isTheme, ↓i_isBarge, i_lt, i_le, i_eq, i_clamp, i_m1, Int32.toInt_toInt64, Int32.toInt_add, Int32.toInt_sub, Int32.toInt_mul, bm32, Int32.reduceToInt, Int64.reduceToInt, Nat.reduceLT, Nat.reduceEqDiff, reduceIte, u_eq, u_ne, w_4m0_2, w_4m0_3, w_4m0_4, w_4m0_5, w_4m0_6, w_4m0_14, w_4m0_42] <;> omega)), (by first | omega | (simp (disch := omega) only [↓i_in, ↓i_isCouple, ↓i_isBridge, ↓i_isTheme, ↓i_isBarge, i_lt, i_le, i_eq, i_clamp, i_m1, Int32.toInt_toInt64, Int32.toInt_add, Int32.toInt_sub, Int32.toInt_mul, bm32, Int32.reduceToInt, Int64.reduceToInt, Nat.reduceLT, Nat.reduceEqDiff, reduceIte, u_eq, u_ne, w_4m0_2, w_4m0_3, w_4m0_4, w_4m0_5, w_4m0_6, w_4m0_14, w_4m0_42] <;> omega))⟩) (MS.step q_11b hm)
        · skip
          try simp (disch := omega) only [↓i_in, ↓i_isCouple, ↓i_isBridge, ↓i_isTheme, ↓i_isBarge, i_lt, i_le, i_eq, i_clamp, i_m1, Int32.toInt_toInt64, Int32.toInt_add, Int32.toInt_sub, Int32.toInt_mul, bm32, Int32.reduceToInt, Int64.reduceToInt, Nat.reduceLT, Nat.reduceEqDiff, reduceIte, u_eq, u_ne, w_4m0_2, w_4m0_3, w_4m0_4, w_4m0_5, w_4m0_6, w_4m0_14, w_4m0_42] at c_10
          have fr1 := i_5 (w_4l1.toInt + -1).toNat (by omega)
          refine ⟨vp_in_iff.mpr (by first | omega | (simp (disch := omega) only [↓i_in, ↓i_isCouple, ↓i_isBridge, ↓i_isTheme, ↓i_isBarge, i_lt, i_le, i_eq, i_clamp, i_m1, Int32.toInt_toInt64, Int32.toInt_add, Int32.toInt_sub, Int32.toInt_mul, bm32, Int32.reduceToInt, Int64.reduceToInt, Nat.reduceLT, Nat.reduceEqDiff, reduceIte, u_eq, u_ne, w_4m0_2, w_4m0_3, w_4m0_4, w_4m0_5, w_4m0_6, w_4m0_14, w_4m0_42] <;> omega)), ?_⟩
          refine ⟨vp_in_iff.mpr (by first | omega | (simp (disch := omega) only [↓i_in, ↓i_isCouple, ↓i_isBridge, ↓i_isTheme, ↓i_isBarge, i_lt, i_le, i_eq, i_clamp, i_m1, Int32.toInt_toInt64, Int32.toInt_add, Int32.toInt_sub, Int32.toInt_mul, bm32, Int32.reduceToInt, Int64.reduceToInt, Nat.reduceLT, Nat.reduceEqDiff, reduceIte, u_eq, u_ne, w_4m0_2, w_4m0_3, w_4m0_4, w_4m0_5, w_4m0_6, w_4m0_14, w_4m0_42] <;> omega)), ?_⟩
          refine ⟨fun c_12 => ?_, fun c_12 => ?_⟩
          · skip
            try simp (disch := omega) only [↓i_in, ↓i_isCouple, ↓i_isBridge, ↓i_isTheme, ↓i_isBarge, i_lt, i_le, i_eq, i_clamp, i_m1, Int32.toInt_toInt64, Int32.toInt_add, Int32.toInt_sub, Int32.toInt_mul, bm32, Int32.reduceToInt, Int64.reduceToInt, Nat.reduceLT, Nat.reduceEqDiff, reduceIte, u_eq, u_ne, w_4m0_2, w_4m0_3, w_4m0_4, w_4m0_5, w_4m0_6, w_4m0_14, w_4m0_42] at c_12
            have q_13 := FR_back (B := (G 6).toInt) (by first | omega | (simp (disch := omega) only [↓i_in, ↓i_isCouple, ↓i_isBridge, ↓i_isTheme, ↓i_isBarge, i_lt, i_le, i_eq, i_clamp, i_m1, Int32.toInt_toInt64, Int32.toInt_add, Int32.toInt_sub, Int32.toInt_mul, bm32, Int32.reduceToInt, Int64.reduceToInt, Nat.reduceLT, Nat.reduceEqDiff, reduceIte, u_eq, u_ne, w_4m0_2, w_4m0_3, w_4m0_4, w_4m0_5, w_4m0_6, w_4m0_14, w_4m0_42] <;> omega)) (by omega) (by omega) i_5
            obtain ⟨q_13a, q_13b⟩ := q_13
            exact ih (w_4l2 - 1) (w_4l1 + (-1)) w_4m0 w_4m1 (upd w_4m2 (w_4l1 : Int32).toNatClampNeg ((w_4m2 (w_4l1 : Int32).toNatClampNeg) + 1)) w_4m3 (⟨i_1, i_2, (by first | omega | (simp (disch := omega) only [↓i_in, ↓i_isCouple, ↓i_isBridge, ↓i_isTheme, ↓i_isBarge, i_lt, i_le, i_eq, i_clamp, i_m1, Int32.toInt_toInt64, Int32.toInt_add, Int32.toInt_sub, Int32.toInt_mul, bm32, Int32.reduceToInt, Int64.reduceToInt, Nat.reduceLT, Nat.reduceEqDiff, reduceIte, u_eq, u_ne, w_4m0_2, w_4m0_3, w_4m0_4, w_4m0_5, w_4m0_6, w_4m0_14, w_4m0_42] <;> omega)), (by first | omega | (simp (disch := omega) only [↓i_in, ↓i_isCouple, ↓i_isBridge, ↓i_isTheme, ↓i_isBarge, i_lt, i_le, i_eq, i_clamp, i_m1, Int32.toInt_toInt64, Int32.toInt_add, Int32.toInt_sub, Int32.toInt_mul, bm32, Int32.reduceToInt, Int64.reduceToInt, Nat.reduceLT, Nat.reduceEqDiff, reduceIte, u_eq, u_ne, w_4m0_2, w_4m0_3, w_4m0_4, w_4m0_5, w_4m0_6, w_4m0_14, w_4m0_42] <;> omega)), q_13a, (by first | omega | (simp (disch := omega) only [↓i_in, ↓i_isCouple, ↓i_isBridge, ↓i_isTheme, ↓i_isBarge, i_lt, i_le, i_eq, i_clamp, i_m1, Int32.toInt_toInt64, Int32.toInt_add, Int32.toInt_sub, Int32.toInt_mul, bm32, Int32.reduceToInt, Int64.reduceToInt, Nat.reduceLT, Nat.reduceEqDiff, reduceIte, u_eq, u_ne, w_4m0_2, w_4m0_3, w_4m0_4, w_4m0_5, w_4m0_6, w_4m0_14, w_4m0_42] <;> omega)), (by first | omega | (simp (disch := omega) only [↓i_in, ↓i_isCouple, ↓i_isBridge, ↓i_isTheme, ↓i_isBarge, i_lt, i_le, i_eq, i_clamp, i_m1, Int32.toInt_toInt64, Int32.toInt_add, Int32.toInt_sub, Int32.toInt_mul, bm32, Int32.reduceToInt, Int64.reduceToInt, Nat.reduceLT, Nat.reduceEqDiff, reduceIte, u_eq, u_ne, w_4m0_2, w_4m0_3, w_4m0_4, w_4m0_5, w_4m0_6, w_4m0_14, w_4m0_42] <;> omega))⟩) (MS.step q_13b hm)
          · skip
            try simp (disch := omega) only [↓i_in, ↓i_isCouple, ↓i_isBridge, ↓i_isTheme, ↓i_isBarge, i_lt, i_le, i_eq, i_clamp, i_m1, Int32.toInt_toInt64, Int32.toInt_add, Int32.toInt_sub, Int32.toInt_mul, bm32, Int32.reduceToInt, Int64.reduceToInt, Nat.reduceLT, Nat.reduceEqDiff, reduceIte, u_eq, u_ne, w_4m0_2, w_4m0_3, w_4m0_4, w_4m0_5, w_4m0_6, w_4m0_14, w_4m0_42] at c_12
            have q_14 := FR_back (B := (G 6).toInt) (by first | omega | (simp (disch := omega) only [↓i_in, ↓i_isCouple, ↓i_isBridge, ↓i_isTheme, ↓i_isBarge, i_lt, i_le, i_eq, i_clamp, i_m1, Int32.toInt_toInt64, Int32.toInt_add, Int32.toInt_sub, Int32.toInt_mul, bm32, Int32.reduceToInt, Int64.reduceToInt, Nat.reduceLT, Nat.reduceEqDiff, reduceIte, u_eq, u_ne, w_4m0_2, w_4m0_3, w_4m0_4, w_4m0_5, w_4m0_6, w_4m0_14, w_4m0_42] <;> omega)) (by omega) (by omega) i_5
            obtain ⟨q_14a, q_14b⟩ := q_14
            exact ih (w_4l2 - 0) (w_4l1 + (-1)) w_4m0 w_4m1 (upd w_4m2 (w_4l1 : Int32).toNatClampNeg ((w_4m2 (w_4l1 : Int32).toNatClampNeg) + 1)) w_4m3 (⟨i_1, i_2, (by first | omega | (simp (disch := omega) only [↓i_in, ↓i_isCouple, ↓i_isBridge, ↓i_isTheme, ↓i_isBarge, i_lt, i_le, i_eq, i_clamp, i_m1, Int32.toInt_toInt64, Int32.toInt_add, Int32.toInt_sub, Int32.toInt_mul, bm32, Int32.reduceToInt, Int64.reduceToInt, Nat.reduceLT, Nat.reduceEqDiff, reduceIte, u_eq, u_ne, w_4m0_2, w_4m0_3, w_4m0_4, w_4m0_5, w_4m0_6, w_4m0_14, w_4m0_42] <;> omega)), (by first | omega | (simp (disch := omega) only [↓i_in, ↓i_isCouple, ↓i_isBridge, ↓i_isTheme, ↓i_isBarge, i_lt, i_le, i_eq, i_clamp, i_m1, Int32.toInt_toInt64, Int32.toInt_add, Int32.toInt_sub, Int32.toInt_mul, bm32, Int32.reduceToInt, Int64.reduceToInt, Nat.reduceLT, Nat.reduceEqDiff, reduceIte, u_eq, u_ne, w_4m0_2, w_4m0_3, w_4m0_4, w_4m0_5, w_4m0_6, w_4m0_14, w_4m0_42] <;> omega)), q_14a, (by first | omega | (simp (disch := omega) only [↓i_in, ↓i_isCouple, ↓i_isBridge, ↓i_isTheme, ↓i_isBarge, i_lt, i_le, i_eq, i_clamp, i_m1, Int32.toInt_toInt64, Int32.toInt_add, Int32.toInt_sub, Int32.toInt_mul, bm32, Int32.reduceToInt, Int64.reduceToInt, Nat.reduceLT, Nat.reduceEqDiff, reduceIte, u_eq, u_ne, w_4m0_2, w_4m0_3, w_4m0_4, w_4m0_5, w_4m0_6, w_4m0_14, w_4m0_42] <;> omega)), (by first | omega | (simp (disch := omega) only [↓i_in, ↓i_isCouple, ↓i_isBridge, ↓i_isTheme, ↓i_isBarge, i_lt, i_le, i_eq, i_clamp, i_m1, Int32.toInt_toInt64, Int32.toInt_add, Int32.toInt_sub, Int32.toInt_mul, bm32, Int32.reduceToInt, Int64.reduceToInt, Nat.reduceLT, Nat.reduceEqDiff, reduceIte, u_eq, u_ne, w_4m0_2, w_4m0_3, w_4m0_4, w_4m0_5, w_4m0_6, w_4m0_14, w_4m0_42] <;> omega))⟩) (MS.step q_14b hm)
      · skip
        try simp (disch := omega) only [↓i_in, ↓i_isCouple, ↓i_isBridge, ↓i_isTheme, ↓i_isBarge, i_lt, i_le, i_eq, i_clamp, i_m1, Int32.toInt_toInt64, Int32.toInt_add, Int32.toInt_sub, Int32.toInt_mul, bm32, Int32.reduceToInt, Int64.reduceToInt, Nat.reduceLT, Nat.reduceEqDiff, reduceIte, u_eq, u_ne, w_4m0_2, w_4m0_3, w_4m0_4, w_4m0_5, w_4m0_6, w_4m0_14, w_4m0_42] at c_9
        refine ⟨fun c_15 => ?_, fun c_15 => ?_⟩
        · skip
          try simp (disch := omega) only [↓i_in, ↓i_isCouple, ↓i_isBridge, ↓i_isTheme, ↓i_isBarge, i_lt, i_le, i_eq, i_clamp, i_m1, Int32.toInt_toInt64, Int32.toInt_add, Int32.toInt_sub, Int32.toInt_mul, bm32, Int32.reduceToInt, Int64.reduceToInt, Nat.reduceLT, Nat.reduceEqDiff, reduceIte, u_eq, u_ne, w_4m0_2, w_4m0_3, w_4m0_4, w_4m0_5, w_4m0_6, w_4m0_14, w_4m0_42] at c_15
          refine ⟨fun c_16 => ?_, fun c_16 => ?_⟩
          · skip
            try simp (disch := omega) only [↓i_in, ↓i_isCouple, ↓i_isBridge, ↓i_isTheme, ↓i_isBarge, i_lt, i_le, i_eq, i_clamp, i_m1, Int32.toInt_toInt64, Int32.toInt_add, Int32.toInt_sub, Int32.toInt_mul, bm32, Int32.reduceToInt, Int64.reduceToInt, Nat.reduceLT, Nat.reduceEqDiff, reduceIte, u_eq, u_ne, w_4m0_2, w_4m0_3, w_4m0_4, w_4m0_5, w_4m0_6, w_4m0_14, w_4m0_42] at c_16
            have q_17 := FR_back (B := (G 6).toInt) (by first | omega | (simp (disch := omega) only [↓i_in, ↓i_isCouple, ↓i_isBridge, ↓i_isTheme, ↓i_isBarge, i_lt, i_le, i_eq, i_clamp, i_m1, Int32.toInt_toInt64, Int32.toInt_add, Int32.toInt_sub, Int32.toInt_mul, bm32, Int32.reduceToInt, Int64.reduceToInt, Nat.reduceLT, Nat.reduceEqDiff, reduceIte, u_eq, u_ne, w_4m0_2, w_4m0_3, w_4m0_4, w_4m0_5, w_4m0_6, w_4m0_14, w_4m0_42] <;> omega)) (by omega) (by omega) i_5
            obtain ⟨q_17a, q_17b⟩ := q_17
            exact ih (w_4l2 - 0) (w_4l1 + (-1)) w_4m0 w_4m1 (upd w_4m2 (w_4l1 : Int32).toNatClampNeg ((w_4m2 (w_4l1 : Int32).toNatClampNeg) + 1)) w_4m3 (⟨i_1, i_2, (by first | omega | (simp (disch := omega) only [↓i_in, ↓i_isCouple, ↓i_isBridge, ↓i_isTheme, ↓i_isBarge, i_lt, i_le, i_eq, i_clamp, i_m1, Int32.toInt_toInt64, Int32.toInt_add, Int32.toInt_sub, Int32.toInt_mul, bm32, Int32.reduceToInt, Int64.reduceToInt, Nat.reduceLT, Nat.reduceEqDiff, reduceIte, u_eq, u_ne, w_4m0_2, w_4m0_3, w_4m0_4, w_4m0_5, w_4m0_6, w_4m0_14, w_4m0_42] <;> omega)), (by first | omega | (simp (disch := omega) only [↓i_in, ↓i_isCouple, ↓i_isBridge, ↓i_isTheme, ↓i_isBarge, i_lt, i_le, i_eq, i_clamp, i_m1, Int32.toInt_toInt64, Int32.toInt_add, Int32.toInt_sub, Int32.toInt_mul, bm32, Int32.reduceToInt, Int64.reduceToInt, Nat.reduceLT, Nat.reduceEqDiff, reduceIte, u_eq, u_ne, w_4m0_2, w_4m0_3, w_4m0_4, w_4m0_5, w_4m0_6, w_4m0_14, w_4m0_42] <;> omega)), q_17a, (by first | omega | (simp (disch := omega) only [↓i_in, ↓i_isCouple, ↓i_isBridge, ↓i_isTheme, ↓i_isBarge, i_lt, i_le, i_eq, i_clamp, i_m1, Int32.toInt_toInt64, Int32.toInt_add, Int32.toInt_sub, Int32.toInt_mul, bm32, Int32.reduceToInt, Int64.reduceToInt, Nat.reduceLT, Nat.reduceEqDiff, reduceIte, u_eq, u_ne, w_4m0_2, w_4m0_3, w_4m0_4, w_4m0_5, w_4m0_6, w_4m0_14, w_4m0_42] <;> omega)), (by first | omega | (simp (disch := omega) only [↓i_in, ↓i_isCouple, ↓i_isBridge, ↓i_isTheme, ↓i_isBarge, i_lt, i_le, i_eq, i_clamp, i_m1, Int32.toInt_toInt64, Int32.toInt_add, Int32.toInt_sub, Int32.toInt_mul, bm32, Int32.reduceToInt, Int64.reduceToInt, Nat.reduceLT, Nat.reduceEqDiff, reduceIte, u_eq, u_ne, w_4m0_2, w_4m0_3, w_4m0_4, w_4m0_5, w_4m0_6, w_4m0_14, w_4m0_42] <;> omega))⟩) (MS.step q_17b hm)
          · skip
            try simp (disch := omega) only [↓i_in, ↓i_isCouple, ↓i_isBridge, ↓i_isTheme, ↓i_isBarge, i_lt, i_le, i_eq, i_clamp, i_m1, Int32.toInt_toInt64, Int32.toInt_add, Int32.toInt_sub, Int32.toInt_mul, bm32, Int32.reduceToInt, Int64.reduceToInt, Nat.reduceLT, Nat.reduceEqDiff, reduceIte, u_eq, u_ne, w_4m0_2, w_4m0_3, w_4m0_4, w_4m0_5, w_4m0_6, w_4m0_14, w_4m0_42] at c_16
            have fr1 := i_5 (w_4l1.toInt + -1).toNat (by omega)
            refine ⟨vp_in_iff.mpr (by first | omega | (simp (disch := omega) only [↓i_in, ↓i_isCouple, ↓i_isBridge, ↓i_isTheme, ↓i_isBarge, i_lt, i_le, i_eq, i_clamp, i_m1, Int32.toInt_toInt64, Int32.toInt_add, Int32.toInt_sub, Int32.toInt_mul, bm32, Int32.reduceToInt, Int64.reduceToInt, Nat.reduceLT, Nat.reduceEqDiff, reduceIte, u_eq, u_ne, w_4m0_2, w_4m0_3, w_4m0_4, w_4m0_5, w_4m0_6, w_4m0_14, w_4m0_42] <;> omega)), ?_⟩
            refine ⟨vp_in_iff.mpr (by first | omega | (simp (disch := omega) only [↓i_in, ↓i_isCouple, ↓i_isBridge, ↓i_isTheme, ↓i_isBarge, i_lt, i_le, i_eq, i_clamp, i_m1, Int32.toInt_toInt64, Int32.toInt_add, Int32.toInt_sub, Int32.toInt_mul, bm32, Int32.reduceToInt, Int64.reduceToInt, Nat.reduceLT, Nat.reduceEqDiff, reduceIte, u_eq, u_ne, w_4m0_2, w_4m0_3, w_4m0_4, w_4m0_5, w_4m0_6, w_4m0_14, w_4m0_42] <;> omega)), ?_⟩
            refine ⟨fun c_18 => ?_, fun c_18 => ?_⟩
            · skip
              try simp (disch := omega) only [↓i_in, ↓i_isCouple, ↓i_isBridge, ↓i_isTheme, ↓i_isBarge, i_lt, i_le, i_eq, i_clamp, i_m1, Int32.toInt_toInt64, Int32.toInt_add, Int32.toInt_sub, Int32.toInt_mul, bm32, Int32.reduceToInt, Int64.reduceToInt, Nat.reduceLT, Nat.reduceEqDiff, reduceIte, u_eq, u_ne, w_4m0_2, w_4m0_3, w_4m0_4, w_4m0_5, w_4m0_6, w_4m0_14, w_4m0_42] at c_18
              have q_19 := FR_back (B := (G 6).toInt) (by first | omega | (simp (disch := omega) only [↓i_in, ↓i_isCouple, ↓i_isBridge, ↓i_isTheme, ↓i_isBarge, i_lt, i_le, i_eq, i_clamp, i_m1, Int32.toInt_toInt64, Int32.toInt_add, Int32.toInt_sub, Int32.toInt_mul, bm32, Int32.reduceToInt, Int64.reduceToInt, Nat.reduceLT, Nat.reduceEqDiff, reduceIte, u_eq, u_ne, w_4m0_2, w_4m0_3, w_4m0_4, w_4m0_5, w_4m0_6, w_4m0_14, w_4m0_42] <;> omega)) (by omega) (by omega) i_5
              obtain ⟨q_19a, q_19b⟩ := q_19
              exact ih (w_4l2 - 1) (w_4l1 + (-1)) w_4m0 w_4m1 (upd w_4m2 (w_4l1 : Int32).toNatClampNeg ((w_4m2 (w_4l1 : Int32).toNatClampNeg) + 1)) w_4m3 (⟨i_1, i_2, (by first | omega | (simp (disch := omega) only [↓i_in, ↓i_isCouple, ↓i_isBridge, ↓i_isTheme, ↓i_isBarge, i_lt, i_le, i_eq, i_clamp, i_m1, Int32.toInt_toInt64, Int32.toInt_add, Int32.toInt_sub, Int32.toInt_mul, bm32, Int32.reduceToInt, Int64.reduceToInt, Nat.reduceLT, Nat.reduceEqDiff, reduceIte, u_eq, u_ne, w_4m0_2, w_4m0_3, w_4m0_4, w_4m0_5, w_4m0_6, w_4m0_14, w_4m0_42] <;> omega)), (by first | omega | (simp (disch := omega) only [↓i_in, ↓i_isCouple, ↓i_isBridge, ↓i_isTheme, ↓i_isBarge, i_lt, i_le, i_eq, i_clamp, i_m1, Int32.toInt_toInt64, Int32.toInt_add, Int32.toInt_sub, Int32.toInt_mul, bm32, Int32.reduceToInt, Int64.reduceToInt, Nat.reduceLT, Nat.reduceEqDiff, reduceIte, u_eq, u_ne, w_4m0_2, w_4m0_3, w_4m0_4, w_4m0_5, w_4m0_6, w_4m0_14, w_4m0_42] <;> omega)), q_19a, (by first | omega | (simp (disch := omega) only [↓i_in, ↓i_isCouple, ↓i_isBridge, ↓i_isTheme, ↓i_isBarge, i_lt, i_le, i_eq, i_clamp, i_m1, Int32.toInt_toInt64, Int32.toInt_add, Int32.toInt_sub, Int32.toInt_mul, bm32, Int32.reduceToInt, Int64.reduceToInt, Nat.reduceLT, Nat.reduceEqDiff, reduceIte, u_eq, u_ne, w_4m0_2, w_4m0_3, w_4m0_4, w_4m0_5, w_4m0_6, w_4m0_14, w_4m0_42] <;> omega)), (by first | omega | (simp (disch := omega) only [↓i_in, ↓i_isCouple, ↓i_isBridge, ↓i_isTheme, ↓i_isBarge, i_lt, i_le, i_eq, i_clamp, i_m1, Int32.toInt_toInt64, Int32.toInt_add, Int32.toInt_sub, Int32.toInt_mul, bm32, Int32.reduceToInt, Int64.reduceToInt, Nat.reduceLT, Nat.reduceEqDiff, reduceIte, u_eq, u_ne, w_4m0_2, w_4m0_3, w_4m0_4, w_4m0_5, w_4m0_6, w_4m0_14, w_4m0_42] <;> omega))⟩) (MS.step q_19b hm)
            · skip
              try simp (disch := omega) only [↓i_in, ↓i_isCouple, ↓i_isBridge, ↓i_isTheme, ↓i_isBarge, i_lt, i_le, i_eq, i_clamp, i_m1, Int32.toInt_toInt64, Int32.toInt_add, Int32.toInt_sub, Int32.toInt_mul, bm32, Int32.reduceToInt, Int64.reduceToInt, Nat.reduceLT, Nat.reduceEqDiff, reduceIte, u_eq, u_ne, w_4m0_2, w_4m0_3, w_4m0_4, w_4m0_5, w_4m0_6, w_4m0_14, w_4m0_42] at c_18
              have q_20 := FR_back (B := (G 6).toInt) (by first | omega | (simp (disch := omega) only [↓i_in, ↓i_isCouple, ↓i_isBridge, ↓i_isTheme, ↓i_isBarge, i_lt, i_le, i_eq, i_clamp, i_m1, Int32.toInt_toInt64, Int32.toInt_add, Int32.toInt_sub, Int32.toInt_mul, bm32, Int32.reduceToInt, Int64.reduceToInt, Nat.reduceLT, Nat.reduceEqDiff, reduceIte, u_eq, u_ne, w_4m0_2, w_4m0_3, w_4m0_4, w_4m0_5, w_4m0_6, w_4m0_14, w_4m0_42] <;> omega)) (by omega) (by omega) i_5
              obtain ⟨q_20a, q_20b⟩ := q_20
              exact ih (w_4l2 - 0) (w_4l1 + (-1)) w_4m0 w_4m1 (upd w_4m2 (w_4l1 : Int32).toNatClampNeg ((w_4m2 (w_4l1 : Int32).toNatClampNeg) + 1)) w_4m3 (⟨i_1, i_2, (by first | omega | (simp (disch := omega) only [↓i_in, ↓i_isCouple, ↓i_isBridge, ↓i_isTheme, ↓i_isBarge, i_lt, i_le, i_eq, i_clamp, i_m1, Int32.toInt_toInt64, Int32.toInt_add, Int32.toInt_sub, Int32.toInt_mul, bm32, Int32.reduceToInt, Int64.reduceToInt, Nat.reduceLT, Nat.reduceEqDiff, reduceIte, u_eq, u_ne, w_4m0_2, w_4m0_3, w_4m0_4, w_4m0_5, w_4m0_6, w_4m0_14, w_4m0_42] <;> omega)), (by first | omega | (simp (disch := omega) only [↓i_in, ↓i_isCouple, ↓i_isBridge, ↓i_isTheme, ↓i_isBarge, i_lt, i_le, i_eq, i_clamp, i_m1, Int32.toInt_toInt64, Int32.toInt_add, Int32.toInt_sub, Int32.toInt_mul, bm32, Int32.reduceToInt, Int64.reduceToInt, Nat.reduceLT, Nat.reduceEqDiff, reduceIte, u_eq, u_ne, w_4m0_2, w_4m0_3, w_4m0_4, w_4m0_5, w_4m0_6, w_4m0_14, w_4m0_42] <;> omega)), q_20a, (by first | omega | (simp (disch := omega) only [↓i_in, ↓i_isCouple, ↓i_isBridge, ↓i_isTheme, ↓i_isBarge, i_lt, i_le, i_eq, i_clamp, i_m1, Int32.toInt_toInt64, Int32.toInt_add, Int32.toInt_sub, Int32.toInt_mul, bm32, Int32.reduceToInt, Int64.reduceToInt, Nat.reduceLT, Nat.reduceEqDiff, reduceIte, u_eq, u_ne, w_4m0_2, w_4m0_3, w_4m0_4, w_4m0_5, w_4m0_6, w_4m0_14, w_4m0_42] <;> omega)), (by first | omega | (simp (disch := omega) only [↓i_in, ↓i_isCouple, ↓i_isBridge, ↓i_isTheme, ↓i_isBarge, i_lt, i_le, i_eq, i_clamp, i_m1, Int32.toInt_toInt64, Int32.toInt_add, Int32.toInt_sub, Int32.toInt_mul, bm32, Int32.reduceToInt, Int64.reduceToInt, Nat.reduceLT, Nat.reduceEqDiff, reduceIte, u_eq, u_ne, w_4m0_2, w_4m0_3, w_4m0_4, w_4m0_5, w_4m0_6, w_4m0_14, w_4m0_42] <;> omega))⟩) (MS.step q_20b hm)
        · skip
          try simp (disch := omega) only [↓i_in, ↓i_isCouple, ↓i_isBridge, ↓i_isTheme, ↓i_isBarge, i_lt, i_le, i_eq, i_clamp, i_m1, Int32.toInt_toInt64, Int32.toInt_add, Int32.toInt_sub, Int32.toInt_mul, bm32, Int32.reduceToInt, Int64.reduceToInt, Nat.reduceLT, Nat.reduceEqDiff, reduceIte, u_eq, u_ne, w_4m0_2, w_4m0_3, w_4m0_4, w_4m0_5, w_4m0_6, w_4m0_14, w_4m0_42] at c_15
          refine ⟨vp_in_iff.mpr (by first | omega | (simp (disch := omega) only [↓i_in, ↓i_isCouple, ↓i_isBridge, ↓i_isTheme, ↓i_isBarge, i_lt, i_le, i_eq, i_clamp, i_m1, Int32.toInt_toInt64, Int32.toInt_add, Int32.toInt_sub, Int32.toInt_mul, bm32, Int32.reduceToInt, Int64.reduceToInt, Nat.reduceLT, Nat.reduceEqDiff, reduceIte, u_eq, u_ne, w_4m0_2, w_4m0_3, w_4m0_4, w_4m0_5, w_4m0_6, w_4m0_14, w_4m0_42] <;> omega)), ?_⟩
          refine ⟨vp_in_iff.mpr (by first | omega | (simp (disch := omega) only [↓i_in, ↓i_isCouple, ↓i_isBridge, ↓i_isTheme, ↓i_isBarge, i_lt, i_le, i_eq, i_clamp, i_m1, Int32.toInt_toInt64, Int32.toInt_add, Int32.toInt_sub, Int32.toInt_mul, bm32, Int32.reduceToInt, Int64.reduceToInt, Nat.reduceLT, Nat.reduceEqDiff, reduceIte, u_eq, u_ne, w_4m0_2, w_4m0_3, w_4m0_4, w_4m0_5, w_4m0_6, w_4m0_14, w_4m0_42] <;> omega)), ?_⟩
          refine ⟨fun c_21 => ?_, fun c_21 => ?_⟩
          · skip
            try simp (disch := omega) only [↓i_in, ↓i_isCouple, ↓i_isBridge, ↓i_isTheme, ↓i_isBarge, i_lt, i_le, i_eq, i_clamp, i_m1, Int32.toInt_toInt64, Int32.toInt_add, Int32.toInt_sub, Int32.toInt_mul, bm32, Int32.reduceToInt, Int64.reduceToInt, Nat.reduceLT, Nat.reduceEqDiff, reduceIte, u_eq, u_ne, w_4m0_2, w_4m0_3, w_4m0_4, w_4m0_5, w_4m0_6, w_4m0_14, w_4m0_42] at c_21
            refine ⟨(s_copy (by first | omega | (simp (disch := omega) only [↓i_in, ↓i_isCouple, ↓i_isBridge, ↓i_isTheme, ↓i_isBarge, i_lt, i_le, i_eq, i_clamp, i_m1, Int32.toInt_toInt64, Int32.toInt_add, Int32.toInt_sub, Int32.toInt_mul, bm32, Int32.reduceToInt, Int64.reduceToInt, Nat.reduceLT, Nat.reduceEqDiff, reduceIte, u_eq, u_ne, w_4m0_2, w_4m0_3, w_4m0_4, w_4m0_5, w_4m0_6, w_4m0_14, w_4m0_42] <;> omega)) (by first | omega | (simp (disch := omega) only [↓i_in, ↓i_isCouple, ↓i_isBridge, ↓i_isTheme, ↓i_isBarge, i_lt, i_le, i_eq, i_clamp, i_m1, Int32.toInt_toInt64, Int32.toInt_add, Int32.toInt_sub, Int32.toInt_mul, bm32, Int32.reduceToInt, Int64.reduceToInt, Nat.reduceLT, Nat.reduceEqDiff, reduceIte, u_eq, u_ne, w_4m0_2, w_4m0_3, w_4m0_4, w_4m0_5, w_4m0_6, w_4m0_14, w_4m0_42] <;> omega)) (by first | omega | (simp (disch := omega) only [↓i_in, ↓i_isCouple, ↓i_isBridge, ↓i_isTheme, ↓i_isBarge, i_lt, i_le, i_eq, i_clamp, i_m1, Int32.toInt_toInt64, Int32.toInt_add, Int32.toInt_sub, Int32.toInt_mul, bm32, Int32.reduceToInt, Int64.reduceToInt, Nat.reduceLT, Nat.reduceEqDiff, reduceIte, u_eq, u_ne, w_4m0_2, w_4m0_3, w_4m0_4, w_4m0_5, w_4m0_6, w_4m0_14, w_4m0_42] <;> omega)) (by first | omega | (simp (disch := omega) only [↓i_in, ↓i_isCouple, ↓i_isBridge, ↓i_isTheme, ↓i_isBarge, i_lt, i_le, i_eq, i_clamp, i_m1, Int32.toInt_toInt64, Int32.toInt_add, Int32.toInt_sub, Int32.toInt_mul, bm32, Int32.reduceToInt, Int64.reduceToInt, Nat.reduceLT, Nat.reduceEqDiff, reduceIte, u_eq, u_ne, w_4m0_2, w_4m0_3, w_4m0_4, w_4m0_5, w_4m0_6, w_4m0_14, w_4m0_42] <;> omega))), ?_⟩
            refine ⟨vp_in_iff.mpr (by first | omega | (simp (disch := omega) only [↓i_in, ↓i_isCouple, ↓i_isBridge, ↓i_isTheme, ↓i_isBarge, i_lt, i_le, i_eq, i_clamp, i_m1, Int32.toInt_toInt64, Int32.toInt_add, Int32.toInt_sub, Int32.toInt_mul, bm32, Int32.reduceToInt, Int64.reduceToInt, Nat.reduceLT, Nat.reduceEqDiff, reduceIte, u_eq, u_ne, w_4m0_2, w_4m0_3, w_4m0_4, w_4m0_5, w_4m0_6, w_4m0_14, w_4m0_42] <;> omega)), ?_⟩
            refine ⟨(s_passes (GI.off i_1 h_0) h_1 (p_copy i_2 (by first | omega | (simp (disch := omega) only [↓i_in, ↓i_isCouple, ↓i_isBridge, ↓i_isTheme, ↓i_isBarge, i_lt, i_le, i_eq, i_clamp, i_m1, Int32.toInt_toInt64, Int32.toInt_add, Int32.toInt_sub, Int32.toInt_mul, bm32, Int32.reduceToInt, Int64.reduceToInt, Nat.reduceLT, Nat.reduceEqDiff, reduceIte, u_eq, u_ne, w_4m0_2, w_4m0_3, w_4m0_4, w_4m0_5, w_4m0_6, w_4m0_14, w_4m0_42] <;> omega)) (by first | omega | (simp (disch := omega) only [↓i_in, ↓i_isCouple, ↓i_isBridge, ↓i_isTheme, ↓i_isBarge, i_lt, i_le, i_eq, i_clamp, i_m1, Int32.toInt_toInt64, Int32.toInt_add, Int32.toInt_sub, Int32.toInt_mul, bm32, Int32.reduceToInt, Int64.reduceToInt, Nat.reduceLT, Nat.reduceEqDiff, reduceIte, u_eq, u_ne, w_4m0_2, w_4m0_3, w_4m0_4, w_4m0_5, w_4m0_6, w_4m0_14, w_4m0_42] <;> omega)) (by first | omega | (simp (disch := omega) only [↓i_in, ↓i_isCouple, ↓i_isBridge, ↓i_isTheme, ↓i_isBarge, i_lt, i_le, i_eq, i_clamp, i_m1, Int32.toInt_toInt64, Int32.toInt_add, Int32.toInt_sub, Int32.toInt_mul, bm32, Int32.reduceToInt, Int64.reduceToInt, Nat.reduceLT, Nat.reduceEqDiff, reduceIte, u_eq, u_ne, w_4m0_2, w_4m0_3, w_4m0_4, w_4m0_5, w_4m0_6, w_4m0_14, w_4m0_42] <;> omega)) (by first | omega | (simp (disch := omega) only [↓i_in, ↓i_isCouple, ↓i_isBridge, ↓i_isTheme, ↓i_isBarge, i_lt, i_le, i_eq, i_clamp, i_m1, Int32.toInt_toInt64, Int32.toInt_add, Int32.toInt_sub, Int32.toInt_mul, bm32, Int32.reduceToInt, Int64.reduceToInt, Nat.reduceLT, Nat.reduceEqDiff, reduceIte, u_eq, u_ne, w_4m0_2, w_4m0_3, w_4m0_4, w_4m0_5, w_4m0_6, w_4m0_14, w_4m0_42] <;> omega))) (by first | omega | (simp (disch := omega) only [↓i_in, ↓i_isCouple, ↓i_isBridge, ↓i_isTheme, ↓i_isBarge, i_lt, i_le, i_eq, i_clamp, i_m1, Int32.toInt_toInt64, Int32.toInt_add, Int32.toInt_sub, Int32.toInt_mul, bm32, Int32.reduceToInt, Int64.reduceToInt, Nat.reduceLT, Nat.reduceEqDiff, reduceIte, u_eq, u_ne, w_4m0_2, w_4m0_3, w_4m0_4, w_4m0_5, w_4m0_6, w_4m0_14, w_4m0_42] <;> omega)) (by first | omega | (simp (disch := omega) only [↓i_in, ↓i_isCouple, ↓i_isBridge, ↓i_isTheme, ↓i_isBarge, i_lt, i_le, i_eq, i_clamp, i_m1, Int32.toInt_toInt64, Int32.toInt_add, Int32.toInt_sub, Int32.toInt_mul, bm32, Int32.reduceToInt, Int64.reduceToInt, Nat.reduceLT, Nat.reduceEqDiff, reduceIte, u_eq, u_ne, w_4m0_2, w_4m0_3, w_4m0_4, w_4m0_5, w_4m0_6, w_4m0_14, w_4m0_42] <;> omega)) (by first | omega | (simp (disch := omega) only [↓i_in, ↓i_isCouple, ↓i_isBridge, ↓i_isTheme, ↓i_isBarge, i_lt, i_le, i_eq, i_clamp, i_m1, Int32.toInt_toInt64, Int32.toInt_add, Int32.toInt_sub, Int32.toInt_mul, bm32, Int32.reduceToInt, Int64.reduceToInt, Nat.reduceLT, Nat.reduceEqDiff, reduceIte, u_eq, u_ne, w_4m0_2, w_4m0_3, w_4m0_4, w_4m0_5, w_4m0_6, w_4m0_14, w_4m0_42] <;> omega)) (by first | omega | (simp (disch := omega) only [↓i_in, ↓i_isCouple, ↓i_isBridge, ↓i_isTheme, ↓i_isBarge, i_lt, i_le, i_eq, i_clamp, i_m1, Int32.toInt_toInt64, Int32.toInt_add, Int32.toInt_sub, Int32.toInt_mul, bm32, Int32.reduceToInt, Int64.reduceToInt, Nat.reduceLT, Nat.reduceEqDiff, reduceIte, u_eq, u_ne, w_4m0_2, w_4m0_3, w_4m0_4, w_4m0_5, w_4m0_6, w_4m0_14, w_4m0_42] <;> omega)) (by first | omega | (simp (disch := omega) only [↓i_in, ↓i_isCouple, ↓i_isBridge, ↓i_isTheme, ↓i_isBarge, i_lt, i_le, i_eq, i_clamp, i_m1, Int32.toInt_toInt64, Int32.toInt_add, Int32.toInt_sub, Int32.toInt_mul, bm32, Int32.reduceToInt, Int64.reduceToInt, Nat.reduceLT, Nat.reduceEqDiff, reduceIte, u_eq, u_ne, w_4m0_2, w_4m0_3, w_4m0_4, w_4m0_5, w_4m0_6, w_4m0_14, w_4m0_42] <;> omega))), ?_⟩
            intro o_25 o_26 e_22
            have p_23 := p_passes (GI.off i_1 h_0) h_1 (p_copy i_2 (by first | omega | (simp (disch := omega) only [↓i_in, ↓i_isCouple, ↓i_isBridge, ↓i_isTheme, ↓i_isBarge, i_lt, i_le, i_eq, i_clamp, i_m1, Int32.toInt_toInt64, Int32.toInt_add, Int32.toInt_sub, Int32.toInt_mul, bm32, Int32.reduceToInt, Int64.reduceToInt, Nat.reduceLT, Nat.reduceEqDiff, reduceIte, u_eq, u_ne, w_4m0_2, w_4m0_3, w_4m0_4, w_4m0_5, w_4m0_6, w_4m0_14, w_4m0_42] <;> omega)) (by first | omega | (simp (disch := omega) only [↓i_in, ↓i_isCouple, ↓i_isBridge, ↓i_isTheme, ↓i_isBarge, i_lt, i_le, i_eq, i_clamp, i_m1, Int32.toInt_toInt64, Int32.toInt_add, Int32.toInt_sub, Int32.toInt_mul, bm32, Int32.reduceToInt, Int64.reduceToInt, Nat.reduceLT, Nat.reduceEqDiff, reduceIte, u_eq, u_ne, w_4m0_2, w_4m0_3, w_4m0_4, w_4m0_5, w_4m0_6, w_4m0_14, w_4m0_42] <;> omega)) (by first | omega | (simp (disch := omega) only [↓i_in, ↓i_isCouple, ↓i_isBridge, ↓i_isTheme, ↓i_isBarge, i_lt, i_le, i_eq, i_clamp, i_m1, Int32.toInt_toInt64, Int32.toInt_add, Int32.toInt_sub, Int32.toInt_mul, bm32, Int32.reduceToInt, Int64.reduceToInt, Nat.reduceLT, Nat.reduceEqDiff, reduceIte, u_eq, u_ne, w_4m0_2, w_4m0_3, w_4m0_4, w_4m0_5, w_4m0_6, w_4m0_14, w_4m0_42] <;> omega)) (by first | omega | (simp (disch := omega) only [↓i_in, ↓i_isCouple, ↓i_isBridge, ↓i_isTheme, ↓i_isBarge, i_lt, i_le, i_eq, i_clamp, i_m1, Int32.toInt_toInt64, Int32.toInt_add, Int32.toInt_sub, Int32.toInt_mul, bm32, Int32.reduceToInt, Int64.reduceToInt, Nat.reduceLT, Nat.reduceEqDiff, reduceIte, u_eq, u_ne, w_4m0_2, w_4m0_3, w_4m0_4, w_4m0_5, w_4m0_6, w_4m0_14, w_4m0_42] <;> omega))) (by first | omega | (simp (disch := omega) only [↓i_in, ↓i_isCouple, ↓i_isBridge, ↓i_isTheme, ↓i_isBarge, i_lt, i_le, i_eq, i_clamp, i_m1, Int32.toInt_toInt64, Int32.toInt_add, Int32.toInt_sub, Int32.toInt_mul, bm32, Int32.reduceToInt, Int64.reduceToInt, Nat.reduceLT, Nat.reduceEqDiff, reduceIte, u_eq, u_ne, w_4m0_2, w_4m0_3, w_4m0_4, w_4m0_5, w_4m0_6, w_4m0_14, w_4m0_42] <;> omega)) (by first | omega | (simp (disch := omega) only [↓i_in, ↓i_isCouple, ↓i_isBridge, ↓i_isTheme, ↓i_isBarge, i_lt, i_le, i_eq, i_clamp, i_m1, Int32.toInt_toInt64, Int32.toInt_add, Int32.toInt_sub, Int32.toInt_mul, bm32, Int32.reduceToInt, Int64.reduceToInt, Nat.reduceLT, Nat.reduceEqDiff, reduceIte, u_eq, u_ne, w_4m0_2, w_4m0_3, w_4m0_4, w_4m0_5, w_4m0_6, w_4m0_14, w_4m0_42] <;> omega)) (by first | omega | (simp (disch := omega) only [↓i_in, ↓i_isCouple, ↓i_isBridge, ↓i_isTheme, ↓i_isBarge, i_lt, i_le, i_eq, i_clamp, i_m1, Int32.toInt_toInt64, Int32.toInt_add, Int32.toInt_sub, Int32.toInt_mul, bm32, Int32.reduceToInt, Int64.reduceToInt, Nat.reduceLT, Nat.reduceEqDiff, reduceIte, u_eq, u_ne, w_4m0_2, w_4m0_3, w_4m0_4, w_4m0_5, w_4m0_6, w_4m0_14, w_4m0_42] <;> omega)) (by first | omega | (simp (disch := omega) only [↓i_in, ↓i_isCouple, ↓i_isBridge, ↓i_isTheme, ↓i_isBarge, i_lt, i_le, i_eq, i_clamp, i_m1, Int32.toInt_toInt64, Int32.toInt_add, Int32.toInt_sub, Int32.toInt_mul, bm32, Int32.reduceToInt, Int64.reduceToInt, Nat.reduceLT, Nat.reduceEqDiff, reduceIte, u_eq, u_ne, w_4m0_2, w_4m0_3, w_4m0_4, w_4m0_5, w_4m0_6, w_4m0_14, w_4m0_42] <;> omega)) (by first | omega | (simp (disch := omega) only [↓i_in, ↓i_isCouple, ↓i_isBridge, ↓i_isTheme, ↓i_isBarge, i_lt, i_le, i_eq, i_clamp, i_m1, Int32.toInt_toInt64, Int32.toInt_add, Int32.toInt_sub, Int32.toInt_mul, bm32, Int32.reduceToInt, Int64.reduceToInt, Nat.reduceLT, Nat.reduceEqDiff, reduceIte, u_eq, u_ne, w_4m0_2, w_4m0_3, w_4m0_4, w_4m0_5, w_4m0_6, w_4m0_14, w_4m0_42] <;> omega)) _ _ e_22.symm
            obtain ⟨p_23q, p_23w⟩ := p_23
            have o_25_40 := p_23q 40 (by decide)
            have p_23z := And.intro (QG.w p_23q) p_23w
            obtain ⟨i_24, i_25⟩ := p_23z
            replace i_24 := QF.trans i_1 i_24
            obtain ⟨o_25_2, o_25_3, o_25_4, o_25_5, o_25_6, o_25_14, o_25_42⟩ := QFs i_24
            refine ⟨vp_in_iff.mpr (by first | omega | (simp (disch := omega) only [↓i_in, ↓i_isCouple, ↓i_isBridge, ↓i_isTheme, ↓i_isBarge, i_lt, i_le, i_eq, i_clamp, i_m1, Int32.toInt_toInt64, Int32.toInt_add, Int32.toInt_sub, Int32.toInt_mul, bm32, Int32.reduceToInt, Int64.reduceToInt, Nat.reduceLT, Nat.reduceEqDiff, reduceIte, u_eq, u_ne, w_4m0_2, w_4m0_3, w_4m0_4, w_4m0_5, w_4m0_6, w_4m0_14, w_4m0_42, o_25_40, o_25_2, o_25_3, o_25_4, o_25_5, o_25_6, o_25_14, o_25_42] <;> omega)), ?_⟩
            refine ⟨vp_in_iff.mpr (by first | omega | (simp (disch := omega) only [↓i_in, ↓i_isCouple, ↓i_isBridge, ↓i_isTheme, ↓i_isBarge, i_lt, i_le, i_eq, i_clamp, i_m1, Int32.toInt_toInt64, Int32.toInt_add, Int32.toInt_sub, Int32.toInt_mul, bm32, Int32.reduceToInt, Int64.reduceToInt, Nat.reduceLT, Nat.reduceEqDiff, reduceIte, u_eq, u_ne, w_4m0_2, w_4m0_3, w_4m0_4, w_4m0_5, w_4m0_6, w_4m0_14, w_4m0_42, o_25_40, o_25_2, o_25_3, o_25_4, o_25_5, o_25_6, o_25_14, o_25_42] <;> omega)), ?_⟩
            refine ⟨fun c_26 => ?_, fun c_26 => ?_⟩
            · skip
              try simp (disch := omega) only [↓i_in, ↓i_isCouple, ↓i_isBridge, ↓i_isTheme, ↓i_isBarge, i_lt, i_le, i_eq, i_clamp, i_m1, Int32.toInt_toInt64, Int32.toInt_add, Int32.toInt_sub, Int32.toInt_mul, bm32, Int32.reduceToInt, Int64.reduceToInt, Nat.reduceLT, Nat.reduceEqDiff, reduceIte, u_eq, u_ne, w_4m0_2, w_4m0_3, w_4m0_4, w_4m0_5, w_4m0_6, w_4m0_14, w_4m0_42, o_25_40, o_25_2, o_25_3, o_25_4, o_25_5, o_25_6, o_25_14, o_25_42] at c_26
              have q_27 := FR_stay (B := (G 6).toInt) (by first | omega | (simp (disch := omega) only [↓i_in, ↓i_isCouple, ↓i_isBridge, ↓i_isTheme, ↓i_isBarge, i_lt, i_le, i_eq, i_clamp, i_m1, Int32.toInt_toInt64, Int32.toInt_add, Int32.toInt_sub, Int32.toInt_mul, bm32, Int32.reduceToInt, Int64.reduceToInt, Nat.reduceLT, Nat.reduceEqDiff, reduceIte, u_eq, u_ne, w_4m0_2, w_4m0_3, w_4m0_4, w_4m0_5, w_4m0_6, w_4m0_14, w_4m0_42, o_25_40, o_25_2, o_25_3, o_25_4, o_25_5, o_25_6, o_25_14, o_25_42] <;> omega)) (by omega) i_5 (by first | omega | (simp (disch := omega) only [↓i_in, ↓i_isCouple, ↓i_isBridge, ↓i_isTheme, ↓i_isBarge, i_lt, i_le, i_eq, i_clamp, i_m1, Int32.toInt_toInt64, Int32.toInt_add, Int32.toInt_sub, Int32.toInt_mul, bm32, Int32.reduceToInt, Int64.reduceToInt, Nat.reduceLT, Nat.reduceEqDiff, reduceIte, u_eq, u_ne, w_4m0_2, w_4m0_3, w_4m0_4, w_4m0_5, w_4m0_6, w_4m0_14, w_4m0_42, o_25_40, o_25_2, o_25_3, o_25_4, o_25_5, o_25_6, o_25_14, o_25_42] <;> omega))
              obtain ⟨q_27a, q_27b⟩ := q_27
              exact ih w_4l2 w_4l1 o_25 o_26 (upd w_4m2 (w_4l1 : Int32).toNatClampNeg ((w_4m2 (w_4l1 : Int32).toNatClampNeg) + 1)) w_4m3 (⟨i_24, i_25, (by first | omega | (simp (disch := omega) only [↓i_in, ↓i_isCouple, ↓i_isBridge, ↓i_isTheme, ↓i_isBarge, i_lt, i_le, i_eq, i_clamp, i_m1, Int32.toInt_toInt64, Int32.toInt_add, Int32.toInt_sub, Int32.toInt_mul, bm32, Int32.reduceToInt, Int64.reduceToInt, Nat.reduceLT, Nat.reduceEqDiff, reduceIte, u_eq, u_ne, w_4m0_2, w_4m0_3, w_4m0_4, w_4m0_5, w_4m0_6, w_4m0_14, w_4m0_42, o_25_40, o_25_2, o_25_3, o_25_4, o_25_5, o_25_6, o_25_14, o_25_42] <;> omega)), (by first | omega | (simp (disch := omega) only [↓i_in, ↓i_isCouple, ↓i_isBridge, ↓i_isTheme, ↓i_isBarge, i_lt, i_le, i_eq, i_clamp, i_m1, Int32.toInt_toInt64, Int32.toInt_add, Int32.toInt_sub, Int32.toInt_mul, bm32, Int32.reduceToInt, Int64.reduceToInt, Nat.reduceLT, Nat.reduceEqDiff, reduceIte, u_eq, u_ne, w_4m0_2, w_4m0_3, w_4m0_4, w_4m0_5, w_4m0_6, w_4m0_14, w_4m0_42, o_25_40, o_25_2, o_25_3, o_25_4, o_25_5, o_25_6, o_25_14, o_25_42] <;> omega)), q_27a, (by first | omega | (simp (disch := omega) only [↓i_in, ↓i_isCouple, ↓i_isBridge, ↓i_isTheme, ↓i_isBarge, i_lt, i_le, i_eq, i_clamp, i_m1, Int32.toInt_toInt64, Int32.toInt_add, Int32.toInt_sub, Int32.toInt_mul, bm32, Int32.reduceToInt, Int64.reduceToInt, Nat.reduceLT, Nat.reduceEqDiff, reduceIte, u_eq, u_ne, w_4m0_2, w_4m0_3, w_4m0_4, w_4m0_5, w_4m0_6, w_4m0_14, w_4m0_42, o_25_40, o_25_2, o_25_3, o_25_4, o_25_5, o_25_6, o_25_14, o_25_42] <;> omega)), (by first | omega | (simp (disch := omega) only [↓i_in, ↓i_isCouple, ↓i_isBridge, ↓i_isTheme, ↓i_isBarge, i_lt, i_le, i_eq, i_clamp, i_m1, Int32.toInt_toInt64, Int32.toInt_add, Int32.toInt_sub, Int32.toInt_mul, bm32, Int32.reduceToInt, Int64.reduceToInt, Nat.reduceLT, Nat.reduceEqDiff, reduceIte, u_eq, u_ne, w_4m0_2, w_4m0_3, w_4m0_4, w_4m0_5, w_4m0_6, w_4m0_14, w_4m0_42, o_25_40, o_25_2, o_25_3, o_25_4, o_25_5, o_25_6, o_25_14, o_25_42] <;> omega))⟩) (MS.step q_27b hm)
            · skip
              try simp (disch := omega) only [↓i_in, ↓i_isCouple, ↓i_isBridge, ↓i_isTheme, ↓i_isBarge, i_lt, i_le, i_eq, i_clamp, i_m1, Int32.toInt_toInt64, Int32.toInt_add, Int32.toInt_sub, Int32.toInt_mul, bm32, Int32.reduceToInt, Int64.reduceToInt, Nat.reduceLT, Nat.reduceEqDiff, reduceIte, u_eq, u_ne, w_4m0_2, w_4m0_3, w_4m0_4, w_4m0_5, w_4m0_6, w_4m0_14, w_4m0_42, o_25_40, o_25_2, o_25_3, o_25_4, o_25_5, o_25_6, o_25_14, o_25_42] at c_26
              refine ⟨vp_in_iff.mpr (by first | omega | (simp (disch := omega) only [↓i_in, ↓i_isCouple, ↓i_isBridge, ↓i_isTheme, ↓i_isBarge, i_lt, i_le, i_eq, i_clamp, i_m1, Int32.toInt_toInt64, Int32.toInt_add, Int32.toInt_sub, Int32.toInt_mul, bm32, Int32.reduceToInt, Int64.reduceToInt, Nat.reduceLT, Nat.reduceEqDiff, reduceIte, u_eq, u_ne, w_4m0_2, w_4m0_3, w_4m0_4, w_4m0_5, w_4m0_6, w_4m0_14, w_4m0_42, o_25_40, o_25_2, o_25_3, o_25_4, o_25_5, o_25_6, o_25_14, o_25_42] <;> omega)), ?_⟩
              refine ⟨fun c_28 => ?_, fun c_28 => ?_⟩
              · skip
                try simp (disch := omega) only [↓i_in, ↓i_isCouple, ↓i_isBridge, ↓i_isTheme, ↓i_isBarge, i_lt, i_le, i_eq, i_clamp, i_m1, Int32.toInt_toInt64, Int32.toInt_add, Int32.toInt_sub, Int32.toInt_mul, bm32, Int32.reduceToInt, Int64.reduceToInt, Nat.reduceLT, Nat.reduceEqDiff, reduceIte, u_eq, u_ne, w_4m0_2, w_4m0_3, w_4m0_4, w_4m0_5, w_4m0_6, w_4m0_14, w_4m0_42, o_25_40, o_25_2, o_25_3, o_25_4, o_25_5, o_25_6, o_25_14, o_25_42] at c_28
                refine ⟨vp_in_iff.mpr (by first | omega | (simp (disch := omega) only [↓i_in, ↓i_isCouple, ↓i_isBridge, ↓i_isTheme, ↓i_isBarge, i_lt, i_le, i_eq, i_clamp, i_m1, Int32.toInt_toInt64, Int32.toInt_add, Int32.toInt_sub, Int32.toInt_mul, bm32, Int32.reduceToInt, Int64.reduceToInt, Nat.reduceLT, Nat.reduceEqDiff, reduceIte, u_eq, u_ne, w_4m0_2, w_4m0_3, w_4m0_4, w_4m0_5, w_4m0_6, w_4m0_14, w_4m0_42, o_25_40, o_25_2, o_25_3, o_25_4, o_25_5, o_25_6, o_25_14, o_25_42] <;> omega)), ?_⟩
                refine ⟨vp_in_iff.mpr (by first | omega | (simp (disch := omega) only [↓i_in, ↓i_isCouple, ↓i_isBridge, ↓i_isTheme, ↓i_isBarge, i_lt, i_le, i_eq, i_clamp, i_m1, Int32.toInt_toInt64, Int32.toInt_add, Int32.toInt_sub, Int32.toInt_mul, bm32, Int32.reduceToInt, Int64.reduceToInt, Nat.reduceLT, Nat.reduceEqDiff, reduceIte, u_eq, u_ne, w_4m0_2, w_4m0_3, w_4m0_4, w_4m0_5, w_4m0_6, w_4m0_14, w_4m0_42, o_25_40, o_25_2, o_25_3, o_25_4, o_25_5, o_25_6, o_25_14, o_25_42] <;> omega)), ?_⟩
                refine ⟨fun c_29 => ?_, fun c_29 => ?_⟩
                · skip
                  try simp (disch := omega) only [↓i_in, ↓i_isCouple, ↓i_isBridge, ↓i_isTheme, ↓i_isBarge, i_lt, i_le, i_eq, i_clamp, i_m1, Int32.toInt_toInt64, Int32.toInt_add, Int32.toInt_sub, Int32.toInt_mul, bm32, Int32.reduceToInt, Int64.reduceToInt, Nat.reduceLT, Nat.reduceEqDiff, reduceIte, u_eq, u_ne, w_4m0_2, w_4m0_3, w_4m0_4, w_4m0_5, w_4m0_6, w_4m0_14, w_4m0_42, o_25_40, o_25_2, o_25_3, o_25_4, o_25_5, o_25_6, o_25_14, o_25_42] at c_29
                  refine ⟨fun c_30 => ?_, fun c_30 => ?_⟩
                  · skip
                    try simp (disch := omega) only [↓i_in, ↓i_isCouple, ↓i_isBridge, ↓i_isTheme, ↓i_isBarge, i_lt, i_le, i_eq, i_clamp, i_m1, Int32.toInt_toInt64, Int32.toInt_add, Int32.toInt_sub, Int32.toInt_mul, bm32, Int32.reduceToInt, Int64.reduceToInt, Nat.reduceLT, Nat.reduceEqDiff, reduceIte, u_eq, u_ne, w_4m0_2, w_4m0_3, w_4m0_4, w_4m0_5, w_4m0_6, w_4m0_14, w_4m0_42, o_25_40, o_25_2, o_25_3, o_25_4, o_25_5, o_25_6, o_25_14, o_25_42] at c_30
                    refine ⟨vp_in_iff.mpr (by first | omega | (simp (disch := omega) only [↓i_in, ↓i_isCouple, ↓i_isBridge, ↓i_isTheme, ↓i_isBarge, i_lt, i_le, i_eq, i_clamp, i_m1, Int32.toInt_toInt64, Int32.toInt_add, Int32.toInt_sub, Int32.toInt_mul, bm32, Int32.reduceToInt, Int64.reduceToInt, Nat.reduceLT, Nat.reduceEqDiff, reduceIte, u_eq, u_ne, w_4m0_2, w_4m0_3, w_4m0_4, w_4m0_5, w_4m0_6, w_4m0_14, w_4m0_42, o_25_40, o_25_2, o_25_3, o_25_4, o_25_5, o_25_6, o_25_14, o_25_42] <;> omega)), ?_⟩
                    have q_31 := FR_fwd (B := (G 6).toInt) (by first | omega | (simp (disch := omega) only [↓i_in, ↓i_isCouple, ↓i_isBridge, ↓i_isTheme, ↓i_isBarge, i_lt, i_le, i_eq, i_clamp, i_m1, Int32.toInt_toInt64, Int32.toInt_add, Int32.toInt_sub, Int32.toInt_mul, bm32, Int32.reduceToInt, Int64.reduceToInt, Nat.reduceLT, Nat.reduceEqDiff, reduceIte, u_eq, u_ne, w_4m0_2, w_4m0_3, w_4m0_4, w_4m0_5, w_4m0_6, w_4m0_14, w_4m0_42, o_25_40, o_25_2, o_25_3, o_25_4, o_25_5, o_25_6, o_25_14, o_25_42] <;> omega)) (by first | omega | (simp (disch := omega) only [↓i_in, ↓i_isCouple, ↓i_isBridge, ↓i_isTheme, ↓i_isBarge, i_lt, i_le, i_eq, i_clamp, i_m1, Int32.toInt_toInt64, Int32.toInt_add, Int32.toInt_sub, Int32.toInt_mul, bm32, Int32.reduceToInt, Int64.reduceToInt, Nat.reduceLT, Nat.reduceEqDiff, reduceIte, u_eq, u_ne, w_4m0_2, w_4m0_3, w_4m0_4, w_4m0_5, w_4m0_6, w_4m0_14, w_4m0_42, o_25_40, o_25_2, o_25_3, o_25_4, o_25_5, o_25_6, o_25_14, o_25_42] <;> omega)) (by omega) (by omega) i_5 (by first | omega | (simp (disch := omega) only [↓i_in, ↓i_isCouple, ↓i_isBridge, ↓i_isTheme, ↓i_isBarge, i_lt, i_le, i_eq, i_clamp, i_m1, Int32.toInt_toInt64, Int32.toInt_add, Int32.toInt_sub, Int32.toInt_mul, bm32, Int32.reduceToInt, Int64.reduceToInt, Nat.reduceLT, Nat.reduceEqDiff, reduceIte, u_eq, u_ne, w_4m0_2, w_4m0_3, w_4m0_4, w_4m0_5, w_4m0_6, w_4m0_14, w_4m0_42, o_25_40, o_25_2, o_25_3, o_25_4, o_25_5, o_25_6, o_25_14, o_25_42] <;> omega))
                    obtain ⟨q_31a, q_31b⟩ := q_31
                    exact ih (w_4l2 + 1) (w_4l1 + 1) o_25 o_26 (upd (upd w_4m2 (w_4l1 : Int32).toNatClampNeg ((w_4m2 (w_4l1 : Int32).toNatClampNeg) + 1)) ((w_4l1 + 1) : Int32).toNatClampNeg (-1)) w_4m3 (⟨i_24, i_25, (by first | omega | (simp (disch := omega) only [↓i_in, ↓i_isCouple, ↓i_isBridge, ↓i_isTheme, ↓i_isBarge, i_lt, i_le, i_eq, i_clamp, i_m1, Int32.toInt_toInt64, Int32.toInt_add, Int32.toInt_sub, Int32.toInt_mul, bm32, Int32.reduceToInt, Int64.reduceToInt, Nat.reduceLT, Nat.reduceEqDiff, reduceIte, u_eq, u_ne, w_4m0_2, w_4m0_3, w_4m0_4, w_4m0_5, w_4m0_6, w_4m0_14, w_4m0_42, o_25_40, o_25_2, o_25_3, o_25_4, o_25_5, o_25_6, o_25_14, o_25_42] <;> omega)), (by first | omega | (simp (disch := omega) only [↓i_in, ↓i_isCouple, ↓i_isBridge, ↓i_isTheme, ↓i_isBarge, i_lt, i_le, i_eq, i_clamp, i_m1, Int32.toInt_toInt64, Int32.toInt_add, Int32.toInt_sub, Int32.toInt_mul, bm32, Int32.reduceToInt, Int64.reduceToInt, Nat.reduceLT, Nat.reduceEqDiff, reduceIte, u_eq, u_ne, w_4m0_2, w_4m0_3, w_4m0_4, w_4m0_5, w_4m0_6, w_4m0_14, w_4m0_42, o_25_40, o_25_2, o_25_3, o_25_4, o_25_5, o_25_6, o_25_14, o_25_42] <;> omega)), q_31a, (by first | omega | (simp (disch := omega) only [↓i_in, ↓i_isCouple, ↓i_isBridge, ↓i_isTheme, ↓i_isBarge, i_lt, i_le, i_eq, i_clamp, i_m1, Int32.toInt_toInt64, Int32.toInt_add, Int32.toInt_sub, Int32.toInt_mul, bm32, Int32.reduceToInt, Int64.reduceToInt, Nat.reduceLT, Nat.reduceEqDiff, reduceIte, u_eq, u_ne, w_4m0_2, w_4m0_3, w_4m0_4, w_4m0_5, w_4m0_6, w_4m0_14, w_4m0_42, o_25_40, o_25_2, o_25_3, o_25_4, o_25_5, o_25_6, o_25_14, o_25_42] <;> omega)), (by first | omega | (simp (disch := omega) only [↓i_in, ↓i_isCouple, ↓i_isBridge, ↓i_isTheme, ↓i_isBarge, i_lt, i_le, i_eq, i_clamp, i_m1, Int32.toInt_toInt64, Int32.toInt_add, Int32.toInt_sub, Int32.toInt_mul, bm32, Int32.reduceToInt, Int64.reduceToInt, Nat.reduceLT, Nat.reduceEqDiff, reduceIte, u_eq, u_ne, w_4m0_2, w_4m0_3, w_4m0_4, w_4m0_5, w_4m0_6, w_4m0_14, w_4m0_42, o_25_40, o_25_2, o_25_3, o_25_4, o_25_5, o_25_6, o_25_14, o_25_42] <;> omega))⟩) (MS.step q_31b hm)
                  · skip
                    try simp (disch := omega) only [↓i_in, ↓i_isCouple, ↓i_isBridge, ↓i_isTheme, ↓i_isBarge, i_lt, i_le, i_eq, i_clamp, i_m1, Int32.toInt_toInt64, Int32.toInt_add, Int32.toInt_sub, Int32.toInt_mul, bm32, Int32.reduceToInt, Int64.reduceToInt, Nat.reduceLT, Nat.reduceEqDiff, reduceIte, u_eq, u_ne, w_4m0_2, w_4m0_3, w_4m0_4, w_4m0_5, w_4m0_6, w_4m0_14, w_4m0_42, o_25_40, o_25_2, o_25_3, o_25_4, o_25_5, o_25_6, o_25_14, o_25_42] at c_30
                    refine sl_findOrder_253 (by first | omega | (simp (disch := omega) only [↓i_in, ↓i_isCouple, ↓i_isBridge, ↓i_isTheme, ↓i_isBarge, i_lt, i_le, i_eq, i_clamp, i_m1, Int32.toInt_toInt64, Int32.toInt_add, Int32.toInt_sub, Int32.toInt_mul, bm32, Int32.reduceToInt, Int64.reduceToInt, Nat.reduceLT, Nat.reduceEqDiff, reduceIte, u_eq, u_ne, w_4m0_2, w_4m0_3, w_4m0_4, w_4m0_5, w_4m0_6, w_4m0_14, w_4m0_42, o_25_40, o_25_2, o_25_3, o_25_4, o_25_5, o_25_6, o_25_14, o_25_42] <;> omega)) (by first | omega | (simp (disch := omega) only [↓i_in, ↓i_isCouple, ↓i_isBridge, ↓i_isTheme, ↓i_isBarge, i_lt, i_le, i_eq, i_clamp, i_m1, Int32.toInt_toInt64, Int32.toInt_add, Int32.toInt_sub, Int32.toInt_mul, bm32, Int32.reduceToInt, Int64.reduceToInt, Nat.reduceLT, Nat.reduceEqDiff, reduceIte, u_eq, u_ne, w_4m0_2, w_4m0_3, w_4m0_4, w_4m0_5, w_4m0_6, w_4m0_14, w_4m0_42, o_25_40, o_25_2, o_25_3, o_25_4, o_25_5, o_25_6, o_25_14, o_25_42] <;> omega)) ?_ 10 0 (upd (upd o_25 41 (w_4l2 + 1)) 40 (w_4l1 + 1)) o_26 (upd w_4m2 (w_4l1 : Int32).toNatClampNeg ((w_4m2 (w_4l1 : Int32).toNatClampNeg) + 1)) w_4m3 (⟨(QF_upd (QF_upd i_24 (by decide) (by decide)) (by decide) (by decide)), i_25, rfl, (by first | omega | (simp (disch := omega) only [↓i_in, ↓i_isCouple, ↓i_isBridge, ↓i_isTheme, ↓i_isBarge, i_lt, i_le, i_eq, i_clamp, i_m1, Int32.toInt_toInt64, Int32.toInt_add, Int32.toInt_sub, Int32.toInt_mul, bm32, Int32.reduceToInt, Int64.reduceToInt, Nat.reduceLT, Nat.reduceEqDiff, reduceIte, u_eq, u_ne, w_4m0_2, w_4m0_3, w_4m0_4, w_4m0_5, w_4m0_6, w_4m0_14, w_4m0_42, o_25_40, o_25_2, o_25_3, o_25_4, o_25_5, o_25_6, o_25_14, o_25_42] <;> omega)), (by first | omega | (simp (disch := omega) only [↓i_in, ↓i_isCouple, ↓i_isBridge, ↓i_isTheme, ↓i_isBarge, i_lt, i_le, i_eq, i_clamp, i_m1, Int32.toInt_toInt64, Int32.toInt_add, Int32.toInt_sub, Int32.toInt_mul, bm32, Int32.reduceToInt, Int64.reduceToInt, Nat.reduceLT, Nat.reduceEqDiff, reduceIte, u_eq, u_ne, w_4m0_2, w_4m0_3, w_4m0_4, w_4m0_5, w_4m0_6, w_4m0_14, w_4m0_42, o_25_40, o_25_2, o_25_3, o_25_4, o_25_5, o_25_6, o_25_14, o_25_42] <;> omega)), (by first | omega | (simp (disch := omega) only [↓i_in, ↓i_isCouple, ↓i_isBridge, ↓i_isTheme, ↓i_isBarge, i_lt, i_le, i_eq, i_clamp, i_m1, Int32.toInt_toInt64, Int32.toInt_add, Int32.toInt_sub, Int32.toInt_mul, bm32, Int32.reduceToInt, Int64.reduceToInt, Nat.reduceLT, Nat.reduceEqDiff, reduceIte, u_eq, u_ne, w_4m0_2, w_4m0_3, w_4m0_4, w_4m0_5, w_4m0_6, w_4m0_14, w_4m0_42, o_25_40, o_25_2, o_25_3, o_25_4, o_25_5, o_25_6, o_25_14, o_25_42] <;> omega)), (by first | omega | (simp (disch := omega) only [↓i_in, ↓i_isCouple, ↓i_isBridge, ↓i_isTheme, ↓i_isBarge, i_lt, i_le, i_eq, i_clamp, i_m1, Int32.toInt_toInt64, Int32.toInt_add, Int32.toInt_sub, Int32.toInt_mul, bm32, Int32.reduceToInt, Int64.reduceToInt, Nat.reduceLT, Nat.reduceEqDiff, reduceIte, u_eq, u_ne, w_4m0_2, w_4m0_3, w_4m0_4, w_4m0_5, w_4m0_6, w_4m0_14, w_4m0_42, o_25_40, o_25_2, o_25_3, o_25_4, o_25_5, o_25_6, o_25_14, o_25_42] <;> omega))⟩) (by first | omega | (simp (disch := omega) only [↓i_in, ↓i_isCouple, ↓i_isBridge, ↓i_isTheme, ↓i_isBarge, i_lt, i_le, i_eq, i_clamp, i_m1, Int32.toInt_toInt64, Int32.toInt_add, Int32.toInt_sub, Int32.toInt_mul, bm32, Int32.reduceToInt, Int64.reduceToInt, Nat.reduceLT, Nat.reduceEqDiff, reduceIte, u_eq, u_ne, w_4m0_2, w_4m0_3, w_4m0_4, w_4m0_5, w_4m0_6, w_4m0_14, w_4m0_42, o_25_40, o_25_2, o_25_3, o_25_4, o_25_5, o_25_6, o_25_14, o_25_42] <;> omega))
                    intro w_44l5 w_44m0 w_44m1 w_44m2 w_44m3 i_32
                    obtain ⟨i_33, i_34, i_35, i_36, i_37, i_38, i_39⟩ := i_32
                    obtain ⟨w_44m0_2, w_44m0_3, w_44m0_4, w_44m0_5, w_44m0_6, w_44m0_14, w_44m0_42⟩ := QFs i_33
                    refine ⟨vp_in_iff.mpr (by first | omega | (simp (disch := omega) only [↓i_in, ↓i_isCouple, ↓i_isBridge, ↓i_isTheme, ↓i_isBarge, i_lt, i_le, i_eq, i_clamp, i_m1, Int32.toInt_toInt64, Int32.toInt_add, Int32.toInt_sub, Int32.toInt_mul, bm32, Int32.reduceToInt, Int64.reduceToInt, Nat.reduceLT, Nat.reduceEqDiff, reduceIte, u_eq, u_ne, w_4m0_2, w_4m0_3, w_4m0_4, w_4m0_5, w_4m0_6, w_4m0_14, w_4m0_42, o_25_40, o_25_2, o_25_3, o_25_4, o_25_5, o_25_6, o_25_14, o_25_42, w_44m0_2, w_44m0_3, w_44m0_4, w_44m0_5, w_44m0_6, w_44m0_14, w_44m0_42] <;> omega)), ?_⟩
                    rw [i_35]
                    have q_40 := FR_fwd (B := (G 6).toInt) (by first | omega | (simp (disch := omega) only [↓i_in, ↓i_isCouple, ↓i_isBridge, ↓i_isTheme, ↓i_isBarge, i_lt, i_le, i_eq, i_clamp, i_m1, Int32.toInt_toInt64, Int32.toInt_add, Int32.toInt_sub, Int32.toInt_mul, bm32, Int32.reduceToInt, Int64.reduceToInt, Nat.reduceLT, Nat.reduceEqDiff, reduceIte, u_eq, u_ne, w_4m0_2, w_4m0_3, w_4m0_4, w_4m0_5, w_4m0_6, w_4m0_14, w_4m0_42, o_25_40, o_25_2, o_25_3, o_25_4, o_25_5, o_25_6, o_25_14, o_25_42, w_44m0_2, w_44m0_3, w_44m0_4, w_44m0_5, w_44m0_6, w_44m0_14, w_44m0_42] <;> omega)) (by first | omega | (simp (disch := omega) only [↓i_in, ↓i_isCouple, ↓i_isBridge, ↓i_isTheme, ↓i_isBarge, i_lt, i_le, i_eq, i_clamp, i_m1, Int32.toInt_toInt64, Int32.toInt_add, Int32.toInt_sub, Int32.toInt_mul, bm32, Int32.reduceToInt, Int64.reduceToInt, Nat.reduceLT, Nat.reduceEqDiff, reduceIte, u_eq, u_ne, w_4m0_2, w_4m0_3, w_4m0_4, w_4m0_5, w_4m0_6, w_4m0_14, w_4m0_42, o_25_40, o_25_2, o_25_3, o_25_4, o_25_5, o_25_6, o_25_14, o_25_42, w_44m0_2, w_44m0_3, w_44m0_4, w_44m0_5, w_44m0_6, w_44m0_14, w_44m0_42] <;> omega)) (by omega) (by omega) i_5 (by first | omega | (simp (disch := omega) only [↓i_in, ↓i_isCouple, ↓i_isBridge, ↓i_isTheme, ↓i_isBarge, i_lt, i_le, i_eq, i_clamp, i_m1, Int32.toInt_toInt64, Int32.toInt_add, Int32.toInt_sub, Int32.toInt_mul, bm32, Int32.reduceToInt, Int64.reduceToInt, Nat.reduceLT, Nat.reduceEqDiff, reduceIte, u_eq, u_ne, w_4m0_2, w_4m0_3, w_4m0_4, w_4m0_5, w_4m0_6, w_4m0_14, w_4m0_42, o_25_40, o_25_2, o_25_3, o_25_4, o_25_5, o_25_6, o_25_14, o_25_42, w_44m0_2, w_44m0_3, w_44m0_4, w_44m0_5, w_44m0_6, w_44m0_14, w_44m0_42] <;> omega))
                    obtain ⟨q_40a, q_40b⟩ := q_40
                    exact ih (w_4l2 + 1) (w_4l1 + 1) w_44m0 w_44m1 (upd (upd w_4m2 (w_4l1 : Int32).toNatClampNeg ((w_4m2 (w_4l1 : Int32).toNatClampNeg) + 1)) ((w_4l1 + 1) : Int32).toNatClampNeg (-1)) w_44m3 (⟨i_33, i_34, (by first | omega | (simp (disch := omega) only [↓i_in, ↓i_isCouple, ↓i_isBridge, ↓i_isTheme, ↓i_isBarge, i_lt, i_le, i_eq, i_clamp, i_m1, Int32.toInt_toInt64, Int32.toInt_add, Int32.toInt_sub, Int32.toInt_mul, bm32, Int32.reduceToInt, Int64.reduceToInt, Nat.reduceLT, Nat.reduceEqDiff, reduceIte, u_eq, u_ne, w_4m0_2, w_4m0_3, w_4m0_4, w_4m0_5, w_4m0_6, w_4m0_14, w_4m0_42, o_25_40, o_25_2, o_25_3, o_25_4, o_25_5, o_25_6, o_25_14, o_25_42, w_44m0_2, w_44m0_3, w_44m0_4, w_44m0_5, w_44m0_6, w_44m0_14, w_44m0_42] <;> omega)), (by first | omega | (simp (disch := omega) only [↓i_in, ↓i_isCouple, ↓i_isBridge, ↓i_isTheme, ↓i_isBarge, i_lt, i_le, i_eq, i_clamp, i_m1, Int32.toInt_toInt64, Int32.toInt_add, Int32.toInt_sub, Int32.toInt_mul, bm32, Int32.reduceToInt, Int64.reduceToInt, Nat.reduceLT, Nat.reduceEqDiff, reduceIte, u_eq, u_ne, w_4m0_2, w_4m0_3, w_4m0_4, w_4m0_5, w_4m0_6, w_4m0_14, w_4m0_42, o_25_40, o_25_2, o_25_3, o_25_4, o_25_5, o_25_6, o_25_14, o_25_42, w_44m0_2, w_44m0_3, w_44m0_4, w_44m0_5, w_44m0_6, w_44m0_14, w_44m0_42] <;> omega)), q_40a, (by first | omega | (simp (disch := omega) only [↓i_in, ↓i_isCouple, ↓i_isBridge, ↓i_isTheme, ↓i_isBarge, i_lt, i_le, i_eq, i_clamp, i_m1, Int32.toInt_toInt64, Int32.toInt_add, Int32.toInt_sub, Int32.toInt_mul, bm32, Int32.reduceToInt, Int64.reduceToInt, Nat.reduceLT, Nat.reduceEqDiff, reduceIte, u_eq, u_ne, w_4m0_2, w_4m0_3, w_4m0_4, w_4m0_5, w_4m0_6, w_4m0_14, w_4m0_42, o_25_40, o_25_2, o_25_3, o_25_4, o_25_5, o_25_6, o_25_14, o_25_42, w_44m0_2, w_44m0_3, w_44m0_4, w_44m0_5, w_44m0_6, w_44m0_14, w_44m0_42] <;> omega)), (by first | omega | (simp (disch := omega) only [↓i_in, ↓i_isCouple, ↓i_isBridge, ↓i_isTheme, ↓i_isBarge, i_lt, i_le, i_eq, i_clamp, i_m1, Int32.toInt_toInt64, Int32.toInt_add, Int32.toInt_sub, Int32.toInt_mul, bm32, Int32.reduceToInt, Int64.reduceToInt, Nat.reduceLT, Nat.reduceEqDiff, reduceIte, u_eq, u_ne, w_4m0_2, w_4m0_3, w_4m0_4, w_4m0_5, w_4m0_6, w_4m0_14, w_4m0_42, o_25_40, o_25_2, o_25_3, o_25_4, o_25_5, o_25_6, o_25_14, o_25_42, w_44m0_2, w_44m0_3, w_44m0_4, w_44m0_5, w_44m0_6, w_44m0_14, w_44m0_42] <;> omega))⟩) (MS.step q_40b hm)
                · skip
                  try simp (disch := omega) only [↓i_in, ↓i_isCouple, ↓i_isBridge, ↓i_isTheme, ↓i_isBarge, i_lt, i_le, i_eq, i_clamp, i_m1, Int32.toInt_toInt64, Int32.toInt_add, Int32.toInt_sub, Int32.toInt_mul, bm32, Int32.reduceToInt, Int64.reduceToInt, Nat.reduceLT, Nat.reduceEqDiff, reduceIte, u_eq, u_ne, w_4m0_2, w_4m0_3, w_4m0_4, w_4m0_5, w_4m0_6, w_4m0_14, w_4m0_42, o_25_40, o_25_2, o_25_3, o_25_4, o_25_5, o_25_6, o_25_14, o_25_42] at c_29
                  refine ⟨fun c_41 => ?_, fun c_41 => ?_⟩
                  · skip
                    try simp (disch := omega) only [↓i_in, ↓i_isCouple, ↓i_isBridge, ↓i_isTheme, ↓i_isBarge, i_lt, i_le, i_eq, i_clamp, i_m1, Int32.toInt_toInt64, Int32.toInt_add, Int32.toInt_sub, Int32.toInt_mul, bm32, Int32.reduceToInt, Int64.reduceToInt, Nat.reduceLT, Nat.reduceEqDiff, reduceIte, u_eq, u_ne, w_4m0_2, w_4m0_3, w_4m0_4, w_4m0_5, w_4m0_6, w_4m0_14, w_4m0_42, o_25_40, o_25_2, o_25_3, o_25_4, o_25_5, o_25_6, o_25_14, o_25_42] at c_41
                    refine ⟨vp_in_iff.mpr (by first | omega | (simp (disch := omega) only [↓i_in, ↓i_isCouple, ↓i_isBridge, ↓i_isTheme, ↓i_isBarge, i_lt, i_le, i_eq, i_clamp, i_m1, Int32.toInt_toInt64, Int32.toInt_add, Int32.toInt_sub, Int32.toInt_mul, bm32, Int32.reduceToInt, Int64.reduceToInt, Nat.reduceLT, Nat.reduceEqDiff, reduceIte, u_eq, u_ne, w_4m0_2, w_4m0_3, w_4m0_4, w_4m0_5, w_4m0_6, w_4m0_14, w_4m0_42, o_25_40, o_25_2, o_25_3, o_25_4, o_25_5, o_25_6, o_25_14, o_25_42] <;> omega)), ?_⟩
                    have q_42 := FR_fwd (B := (G 6).toInt) (by first | omega | (simp (disch := omega) only [↓i_in, ↓i_isCouple, ↓i_isBridge, ↓i_isTheme, ↓i_isBarge, i_lt, i_le, i_eq, i_clamp, i_m1, Int32.toInt_toInt64, Int32.toInt_add, Int32.toInt_sub, Int32.toInt_mul, bm32, Int32.reduceToInt, Int64.reduceToInt, Nat.reduceLT, Nat.reduceEqDiff, reduceIte, u_eq, u_ne, w_4m0_2, w_4m0_3, w_4m0_4, w_4m0_5, w_4m0_6, w_4m0_14, w_4m0_42, o_25_40, o_25_2, o_25_3, o_25_4, o_25_5, o_25_6, o_25_14, o_25_42] <;> omega)) (by first | omega | (simp (disch := omega) only [↓i_in, ↓i_isCouple, ↓i_isBridge, ↓i_isTheme, ↓i_isBarge, i_lt, i_le, i_eq, i_clamp, i_m1, Int32.toInt_toInt64, Int32.toInt_add, Int32.toInt_sub, Int32.toInt_mul, bm32, Int32.reduceToInt, Int64.reduceToInt, Nat.reduceLT, Nat.reduceEqDiff, reduceIte, u_eq, u_ne, w_4m0_2, w_4m0_3, w_4m0_4, w_4m0_5, w_4m0_6, w_4m0_14, w_4m0_42, o_25_40, o_25_2, o_25_3, o_25_4, o_25_5, o_25_6, o_25_14, o_25_42] <;> omega)) (by omega) (by omega) i_5 (by first | omega | (simp (disch := omega) only [↓i_in, ↓i_isCouple, ↓i_isBridge, ↓i_isTheme, ↓i_isBarge, i_lt, i_le, i_eq, i_clamp, i_m1, Int32.toInt_toInt64, Int32.toInt_add, Int32.toInt_sub, Int32.toInt_mul, bm32, Int32.reduceToInt, Int64.reduceToInt, Nat.reduceLT, Nat.reduceEqDiff, reduceIte, u_eq, u_ne, w_4m0_2, w_4m0_3, w_4m0_4, w_4m0_5, w_4m0_6, w_4m0_14, w_4m0_42, o_25_40, o_25_2, o_25_3, o_25_4, o_25_5, o_25_6, o_25_14, o_25_42] <;> omega))
                    obtain ⟨q_42a, q_42b⟩ := q_42
                    exact ih (w_4l2 + 0) (w_4l1 + 1) o_25 o_26 (upd (upd w_4m2 (w_4l1 : Int32).toNatClampNeg ((w_4m2 (w_4l1 : Int32).toNatClampNeg) + 1)) ((w_4l1 + 1) : Int32).toNatClampNeg (-1)) w_4m3 (⟨i_24, i_25, (by first | omega | (simp (disch := omega) only [↓i_in, ↓i_isCouple, ↓i_isBridge, ↓i_isTheme, ↓i_isBarge, i_lt, i_le, i_eq, i_clamp, i_m1, Int32.toInt_toInt64, Int32.toInt_add, Int32.toInt_sub, Int32.toInt_mul, bm32, Int32.reduceToInt, Int64.reduceToInt, Nat.reduceLT, Nat.reduceEqDiff, reduceIte, u_eq, u_ne, w_4m0_2, w_4m0_3, w_4m0_4, w_4m0_5, w_4m0_6, w_4m0_14, w_4m0_42, o_25_40, o_25_2, o_25_3, o_25_4, o_25_5, o_25_6, o_25_14, o_25_42] <;> omega)), (by first | omega | (simp (disch := omega) only [↓i_in, ↓i_isCouple, ↓i_isBridge, ↓i_isTheme, ↓i_isBarge, i_lt, i_le, i_eq, i_clamp, i_m1, Int32.toInt_toInt64, Int32.toInt_add, Int32.toInt_sub, Int32.toInt_mul, bm32, Int32.reduceToInt, Int64.reduceToInt, Nat.reduceLT, Nat.reduceEqDiff, reduceIte, u_eq, u_ne, w_4m0_2, w_4m0_3, w_4m0_4, w_4m0_5, w_4m0_6, w_4m0_14, w_4m0_42, o_25_40, o_25_2, o_25_3, o_25_4, o_25_5, o_25_6, o_25_14, o_25_42] <;> omega)), q_42a, (by first | omega | (simp (disch := omega) only [↓i_in, ↓i_isCouple, ↓i_isBridge, ↓i_isTheme, ↓i_isBarge, i_lt, i_le, i_eq, i_clamp, i_m1, Int32.toInt_toInt64, Int32.toInt_add, Int32.toInt_sub, Int32.toInt_mul, bm32, Int32.reduceToInt, Int64.reduceToInt, Nat.reduceLT, Nat.reduceEqDiff, reduceIte, u_eq, u_ne, w_4m0_2, w_4m0_3, w_4m0_4, w_4m0_5, w_4m0_6, w_4m0_14, w_4m0_42, o_25_40, o_25_2, o_25_3, o_25_4, o_25_5, o_25_6, o_25_14, o_25_42] <;> omega)), (by first | omega | (simp (disch := omega) only [↓i_in, ↓i_isCouple, ↓i_isBridge, ↓i_isTheme, ↓i_isBarge, i_lt, i_le, i_eq, i_clamp, i_m1, Int32.toInt_toInt64, Int32.toInt_add, Int32.toInt_sub, Int32.toInt_mul, bm32, Int32.reduceToInt, Int64.reduceToInt, Nat.reduceLT, Nat.reduceEqDiff, reduceIte, u_eq, u_ne, w_4m0_2, w_4m0_3, w_4m0_4, w_4m0_5, w_4m0_6, w_4m0_14, w_4m0_42, o_25_40, o_25_2, o_25_3, o_25_4, o_25_5, o_25_6, o_25_14, o_25_42] <;> omega))⟩) (MS.step q_42b hm)
                  · skip
                    try simp (disch := omega) only [↓i_in, ↓i_isCouple, ↓i_isBridge, ↓i_isTheme, ↓i_isBarge, i_lt, i_le, i_eq, i_clamp, i_m1, Int32.toInt_toInt64, Int32.toInt_add, Int32.toInt_sub, Int32.toInt_mul, bm32, Int32.reduceToInt, Int64.reduceToInt, Nat.reduceLT, Nat.reduceEqDiff, reduceIte, u_eq, u_ne, w_4m0_2, w_4m0_3, w_4m0_4, w_4m0_5, w_4m0_6, w_4m0_14, w_4m0_42, o_25_40, o_25_2, o_25_3, o_25_4, o_25_5, o_25_6, o_25_14, o_25_42] at c_41
                    refine sl_findOrder_253 (by first | omega | (simp (disch := omega) only [↓i_in, ↓i_isCouple, ↓i_isBridge, ↓i_isTheme, ↓i_isBarge, i_lt, i_le, i_eq, i_clamp, i_m1, Int32.toInt_toInt64, Int32.toInt_add, Int32.toInt_sub, Int32.toInt_mul, bm32, Int32.reduceToInt, Int64.reduceToInt, Nat.reduceLT, Nat.reduceEqDiff, reduceIte, u_eq, u_ne, w_4m0_2, w_4m0_3, w_4m0_4, w_4m0_5, w_4m0_6, w_4m0_14, w_4m0_42, o_25_40, o_25_2, o_25_3, o_25_4, o_25_5, o_25_6, o_25_14, o_25_42] <;> omega)) (by first | omega | (simp (disch := omega) only [↓i_in, ↓i_isCouple, ↓i_isBridge, ↓i_isTheme, ↓i_isBarge, i_lt, i_le, i_eq, i_clamp, i_m1, Int32.toInt_toInt64, Int32.toInt_add, Int32.toInt_sub, Int32.toInt_mul, bm32, Int32.reduceToInt, Int64.reduceToInt, Nat.reduceLT, Nat.reduceEqDiff, reduceIte, u_eq, u_ne, w_4m0_2, w_4m0_3, w_4m0_4, w_4m0_5, w_4m0_6, w_4m0_14, w_4m0_42, o_25_40, o_25_2, o_25_3, o_25_4, o_25_5, o_25_6, o_25_14, o_25_42] <;> omega)) ?_ 10 0 (upd (upd o_25 41 (w_4l2 + 0)) 40 (w_4l1 + 1)) o_26 (upd w_4m2 (w_4l1 : Int32).toNatClampNeg ((w_4m2 (w_4l1 : Int32).toNatClampNeg) + 1)) w_4m3 (⟨(QF_upd (QF_upd i_24 (by decide) (by decide)) (by decide) (by decide)), i_25, rfl, (by first | omega | (simp (disch := omega) only [↓i_in, ↓i_isCouple, ↓i_isBridge, ↓i_isTheme, ↓i_isBarge, i_lt, i_le, i_eq, i_clamp, i_m1, Int32.toInt_toInt64, Int32.toInt_add, Int32.toInt_sub, Int32.toInt_mul, bm32, Int32.reduceToInt, Int64.reduceToInt, Nat.reduceLT, Nat.reduceEqDiff, reduceIte, u_eq, u_ne, w_4m0_2, w_4m0_3, w_4m0_4, w_4m0_5, w_4m0_6, w_4m0_14, w_4m0_42, o_25_40, o_25_2, o_25_3, o_25_4, o_25_5, o_25_6, o_25_14, o_25_42] <;> omega)), (by first | omega | (simp (disch := omega) only [↓i_in, ↓i_isCouple, ↓i_isBridge, ↓i_isTheme, ↓i_isBarge, i_lt, i_le, i_eq, i_clamp, i_m1, Int32.toInt_toInt64, Int32.toInt_add, Int32.toInt_sub, Int32.toInt_mul, bm32, Int32.reduceToInt, Int64.reduceToInt, Nat.reduceLT, Nat.reduceEqDiff, reduceIte, u_eq, u_ne, w_4m0_2, w_4m0_3, w_4m0_4, w_4m0_5, w_4m0_6, w_4m0_14, w_4m0_42, o_25_40, o_25_2, o_25_3, o_25_4, o_25_5, o_25_6, o_25_14, o_25_42] <;> omega)), (by first | omega | (simp (disch := omega) only [↓i_in, ↓i_isCouple, ↓i_isBridge, ↓i_isTheme, ↓i_isBarge, i_lt, i_le, i_eq, i_clamp, i_m1, Int32.toInt_toInt64, Int32.toInt_add, Int32.toInt_sub, Int32.toInt_mul, bm32, Int32.reduceToInt, Int64.reduceToInt, Nat.reduceLT, Nat.reduceEqDiff, reduceIte, u_eq, u_ne, w_4m0_2, w_4m0_3, w_4m0_4, w_4m0_5, w_4m0_6, w_4m0_14, w_4m0_42, o_25_40, o_25_2, o_25_3, o_25_4, o_25_5, o_25_6, o_25_14, o_25_42] <;> omega)), (by first | omega | (simp (disch := omega) only [↓i_in, ↓i_isCouple, ↓i_isBridge, ↓i_isTheme, ↓i_isBarge, i_lt, i_le, i_eq, i_clamp, i_m1, Int32.toInt_toInt64, Int32.toInt_add, Int32.toInt_sub, Int32.toInt_mul, bm32, Int32.reduceToInt, Int64.reduceToInt, Nat.reduceLT, Nat.reduceEqDiff, reduceIte, u_eq, u_ne, w_4m0_2, w_4m0_3, w_4m0_4, w_4m0_5, w_4m0_6, w_4m0_14, w_4m0_42, o_25_40, o_25_2, o_25_3, o_25_4, o_25_5, o_25_6, o_25_14, o_25_42] <;> omega))⟩) (by first | omega | (simp (disch := omega) only [↓i_in, ↓i_isCouple, ↓i_isBridge, ↓i_isTheme, ↓i_isBarge, i_lt, i_le, i_eq, i_clamp, i_m1, Int32.toInt_toInt64, Int32.toInt_add, Int32.toInt_sub, Int32.toInt_mul, bm32, Int32.reduceToInt, Int64.reduceToInt, Nat.reduceLT, Nat.reduceEqDiff, reduceIte, u_eq, u_ne, w_4m0_2, w_4m0_3, w_4m0_4, w_4m0_5, w_4m0_6, w_4m0_14, w_4m0_42, o_25_40, o_25_2, o_25_3, o_25_4, o_25_5, o_25_6, o_25_14, o_25_42] <;> omega))
                    intro w_37l5 w_37m0 w_37m1 w_37m2 w_37m3 i_43
                    obtain ⟨i_44, i_45, i_46, i_47, i_48, i_49, i_50⟩ := i_43
                    obtain ⟨w_37m0_2, w_37m0_3, w_37m0_4, w_37m0_5, w_37m0_6, w_37m0_14, w_37m0_42⟩ := QFs i_44
                    refine ⟨vp_in_iff.mpr (by first | omega | (simp (disch := omega) only [↓i_in, ↓i_isCouple, ↓i_isBridge, ↓i_isTheme, ↓i_isBarge, i_lt, i_le, i_eq, i_clamp, i_m1, Int32.toInt_toInt64, Int32.toInt_add, Int32.toInt_sub, Int32.toInt_mul, bm32, Int32.reduceToInt, Int64.reduceToInt, Nat.reduceLT, Nat.reduceEqDiff, reduceIte, u_eq, u_ne, w_4m0_2, w_4m0_3, w_4m0_4, w_4m0_5, w_4m0_6, w_4m0_14, w_4m0_42, o_25_40, o_25_2, o_25_3, o_25_4, o_25_5, o_25_6, o_25_14, o_25_42, w_37m0_2, w_37m0_3, w_37m0_4, w_37m0_5, w_37m0_6, w_37m0_14, w_37m0_42] <;> omega)), ?_⟩
                    rw [i_46]
                    have q_51 := FR_fwd (B := (G 6).toInt) (by first | omega | (simp (disch := omega) only [↓i_in, ↓i_isCouple, ↓i_isBridge, ↓i_isTheme, ↓i_isBarge, i_lt, i_le, i_eq, i_clamp, i_m1, Int32.toInt_toInt64, Int32.toInt_add, Int32.toInt_sub, Int32.toInt_mul, bm32, Int32.reduceToInt, Int64.reduceToInt, Nat.reduceLT, Nat.reduceEqDiff, reduceIte, u_eq, u_ne, w_4m0_2, w_4m0_3, w_4m0_4, w_4m0_5, w_4m0_6, w_4m0_14, w_4m0_42, o_25_40, o_25_2, o_25_3, o_25_4, o_25_5, o_25_6, o_25_14, o_25_42, w_37m0_2, w_37m0_3, w_37m0_4, w_37m0_5, w_37m0_6, w_37m0_14, w_37m0_42] <;> omega)) (by first | omega | (simp (disch := omega) only [↓i_in, ↓i_isCouple, ↓i_isBridge, ↓i_isTheme, ↓i_isBarge, i_lt, i_le, i_eq, i_clamp, i_m1, Int32.toInt_toInt64, Int32.toInt_add, Int32.toInt_sub, Int32.toInt_mul, bm32, Int32.reduceToInt, Int64.reduceToInt, Nat.reduceLT, Nat.reduceEqDiff, reduceIte, u_eq, u_ne, w_4m0_2, w_4m0_3, w_4m0_4, w_4m0_5, w_4m0_6, w_4m0_14, w_4m0_42, o_25_40, o_25_2, o_25_3, o_25_4, o_25_5, o_25_6, o_25_14, o_25_42, w_37m0_2, w_37m0_3, w_37m0_4, w_37m0_5, w_37m0_6, w_37m0_14, w_37m0_42] <;> omega)) (by omega) (by omega) i_5 (by first | omega | (simp (disch := omega) only [↓i_in, ↓i_isCouple, ↓i_isBridge, ↓i_isTheme, ↓i_isBarge, i_lt, i_le, i_eq, i_clamp, i_m1, Int32.toInt_toInt64, Int32.toInt_add, Int32.toInt_sub, Int32.toInt_mul, bm32, Int32.reduceToInt, Int64.reduceToInt, Nat.reduceLT, Nat.reduceEqDiff, reduceIte, u_eq, u_ne, w_4m0_2, w_4m0_3, w_4m0_4, w_4m0_5, w_4m0_6, w_4m0_14, w_4m0_42, o_25_40, o_25_2, o_25_3, o_25_4, o_25_5, o_25_6, o_25_14, o_25_42, w_37m0_2, w_37m0_3, w_37m0_4, w_37m0_5, w_37m0_6, w_37m0_14, w_37m0_42] <;> omega))
                    obtain ⟨q_51a, q_51b⟩ := q_51
                    exact ih (w_4l2 + 0) (w_4l1 + 1) w_37m0 w_37m1 (upd (upd w_4m2 (w_4l1 : Int32).toNatClampNeg ((w_4m2 (w_4l1 : Int32).toNatClampNeg) + 1)) ((w_4l1 + 1) : Int32).toNatClampNeg (-1)) w_37m3 (⟨i_44, i_45, (by first | omega | (simp (disch := omega) only [↓i_in, ↓i_isCouple, ↓i_isBridge, ↓i_isTheme, ↓i_isBarge, i_lt, i_le, i_eq, i_clamp, i_m1, Int32.toInt_toInt64, Int32.toInt_add, Int32.toInt_sub, Int32.toInt_mul, bm32, Int32.reduceToInt, Int64.reduceToInt, Nat.reduceLT, Nat.reduceEqDiff, reduceIte, u_eq, u_ne, w_4m0_2, w_4m0_3, w_4m0_4, w_4m0_5, w_4m0_6, w_4m0_14, w_4m0_42, o_25_40, o_25_2, o_25_3, o_25_4, o_25_5, o_25_6, o_25_14, o_25_42, w_37m0_2, w_37m0_3, w_37m0_4, w_37m0_5, w_37m0_6, w_37m0_14, w_37m0_42] <;> omega)), (by first | omega | (simp (disch := omega) only [↓i_in, ↓i_isCouple, ↓i_isBridge, ↓i_isTheme, ↓i_isBarge, i_lt, i_le, i_eq, i_clamp, i_m1, Int32.toInt_toInt64, Int32.toInt_add, Int32.toInt_sub, Int32.toInt_mul, bm32, Int32.reduceToInt, Int64.reduceToInt, Nat.reduceLT, Nat.reduceEqDiff, reduceIte, u_eq, u_ne, w_4m0_2, w_4m0_3, w_4m0_4, w_4m0_5, w_4m0_6, w_4m0_14, w_4m0_42, o_25_40, o_25_2, o_25_3, o_25_4, o_25_5, o_25_6, o_25_14, o_25_42, w_37m0_2, w_37m0_3, w_37m0_4, w_37m0_5, w_37m0_6, w_37m0_14, w_37m0_42] <;> omega)), q_51a, (by first | omega | (simp (disch := omega) only [↓i_in, ↓i_isCouple, ↓i_isBridge, ↓i_isTheme, ↓i_isBarge, i_lt, i_le, i_eq, i_clamp, i_m1, Int32.toInt_toInt64, Int32.toInt_add, Int32.toInt_sub, Int32.toInt_mul, bm32, Int32.reduceToInt, Int64.reduceToInt, Nat.reduceLT, Nat.reduceEqDiff, reduceIte, u_eq, u_ne, w_4m0_2, w_4m0_3, w_4m0_4, w_4m0_5, w_4m0_6, w_4m0_14, w_4m0_42, o_25_40, o_25_2, o_25_3, o_25_4, o_25_5, o_25_6, o_25_14, o_25_42, w_37m0_2, w_37m0_3, w_37m0_4, w_37m0_5, w_37m0_6, w_37m0_14, w_37m0_42] <;> omega)), (by first | omega | (simp (disch := omega) only [↓i_in, ↓i_isCouple, ↓i_isBridge, ↓i_isTheme, ↓i_isBarge, i_lt, i_le, i_eq, i_clamp, i_m1, Int32.toInt_toInt64, Int32.toInt_add, Int32.toInt_sub, Int32.toInt_mul, bm32, Int32.reduceToInt, Int64.reduceToInt, Nat.reduceLT, Nat.reduceEqDiff, reduceIte, u_eq, u_ne, w_4m0_2, w_4m0_3, w_4m0_4, w_4m0_5, w_4m0_6, w_4m0_14, w_4m0_42, o_25_40, o_25_2, o_25_3, o_25_4, o_25_5, o_25_6, o_25_14, o_25_42, w_37m0_2, w_37m0_3, w_37m0_4, w_37m0_5, w_37m0_6, w_37m0_14, w_37m0_42] <;> omega))⟩) (MS.step q_51b hm)
              · skip
                try simp (disch := omega) only [↓i_in, ↓i_isCouple, ↓i_isBridge, ↓i_isTheme, ↓i_isBarge, i_lt, i_le, i_eq, i_clamp, i_m1, Int32.toInt_toInt64, Int32.toInt_add, Int32.toInt_sub, Int32.toInt_mul, bm32, Int32.reduceToInt, Int64.reduceToInt, Nat.reduceLT, Nat.reduceEqDiff, reduceIte, u_eq, u_ne, w_4m0_2, w_4m0_3, w_4m0_4, w_4m0_5, w_4m0_6, w_4m0_14, w_4m0_42, o_25_40, o_25_2, o_25_3, o_25_4, o_25_5, o_25_6, o_25_14, o_25_42] at c_28
                have q_52 := FR_stay (B := (G 6).toInt) (by first | omega | (simp (disch := omega) only [↓i_in, ↓i_isCouple, ↓i_isBridge, ↓i_isTheme, ↓i_isBarge, i_lt, i_le, i_eq, i_clamp, i_m1, Int32.toInt_toInt64, Int32.toInt_add, Int32.toInt_sub, Int32.toInt_mul, bm32, Int32.reduceToInt, Int64.reduceToInt, Nat.reduceLT, Nat.reduceEqDiff, reduceIte, u_eq, u_ne, w_4m0_2, w_4m0_3, w_4m0_4, w_4m0_5, w_4m0_6, w_4m0_14, w_4m0_42, o_25_40, o_25_2, o_25_3, o_25_4, o_25_5, o_25_6, o_25_14, o_25_42] <;> omega)) (by omega) i_5 (by first | omega | (simp (disch := omega) only [↓i_in, ↓i_isCouple, ↓i_isBridge, ↓i_isTheme, ↓i_isBarge, i_lt, i_le, i_eq, i_clamp, i_m1, Int32.toInt_toInt64, Int32.toInt_add, Int32.toInt_sub, Int32.toInt_mul, bm32, Int32.reduceToInt, Int64.reduceToInt, Nat.reduceLT, Nat.reduceEqDiff, reduceIte, u_eq, u_ne, w_4m0_2, w_4m0_3, w_4m0_4, w_4m0_5, w_4m0_6, w_4m0_14, w_4m0_42, o_25_40, o_25_2, o_25_3, o_25_4, o_25_5, o_25_6, o_25_14, o_25_42] <;> omega))
                obtain ⟨q_52a, q_52b⟩ := q_52
                exact ih w_4l2 w_4l1 o_25 o_26 (upd w_4m2 (w_4l1 : Int32).toNatClampNeg ((w_4m2 (w_4l1 : Int32).toNatClampNeg) + 1)) w_4m3 (⟨i_24, i_25, (by first | omega | (simp (disch := omega) only [↓i_in, ↓i_isCouple, ↓i_isBridge, ↓i_isTheme, ↓i_isBarge, i_lt, i_le, i_eq, i_clamp, i_m1, Int32.toInt_toInt64, Int32.toInt_add, Int32.toInt_sub, Int32.toInt_mul, bm32, Int32.reduceToInt, Int64.reduceToInt, Nat.reduceLT, Nat.reduceEqDiff, reduceIte, u_eq, u_ne, w_4m0_2, w_4m0_3, w_4m0_4, w_4m0_5, w_4m0_6, w_4m0_14, w_4m0_42, o_25_40, o_25_2, o_25_3, o_25_4, o_25_5, o_25_6, o_25_14, o_25_42] <;> omega)), (by first | omega | (simp (disch := omega) only [↓i_in, ↓i_isCouple, ↓i_isBridge, ↓i_isTheme, ↓i_isBarge, i_lt, i_le, i_eq, i_clamp, i_m1, Int32.toInt_toInt64, Int32.toInt_add, Int32.toInt_sub, Int32.toInt_mul, bm32, Int32.reduceToInt, Int64.reduceToInt, Nat.reduceLT, Nat.reduceEqDiff, reduceIte, u_eq, u_ne, w_4m0_2, w_4m0_3, w_4m0_4, w_4m0_5, w_4m0_6, w_4m0_14, w_4m0_42, o_25_40, o_25_2, o_25_3, o_25_4, o_25_5, o_25_6, o_25_14, o_25_42] <;> omega)), q_52a, (by first | omega | (simp (disch := omega) only [↓i_in, ↓i_isCouple, ↓i_isBridge, ↓i_isTheme, ↓i_isBarge, i_lt, i_le, i_eq, i_clamp, i_m1, Int32.toInt_toInt64, Int32.toInt_add, Int32.toInt_sub, Int32.toInt_mul, bm32, Int32.reduceToInt, Int64.reduceToInt, Nat.reduceLT, Nat.reduceEqDiff, reduceIte, u_eq, u_ne, w_4m0_2, w_4m0_3, w_4m0_4, w_4m0_5, w_4m0_6, w_4m0_14, w_4m0_42, o_25_40, o_25_2, o_25_3, o_25_4, o_25_5, o_25_6, o_25_14, o_25_42] <;> omega)), (by first | omega | (simp (disch := omega) only [↓i_in, ↓i_isCouple, ↓i_isBridge, ↓i_isTheme, ↓i_isBarge, i_lt, i_le, i_eq, i_clamp, i_m1, Int32.toInt_toInt64, Int32.toInt_add, Int32.toInt_sub, Int32.toInt_mul, bm32, Int32.reduceToInt, Int64.reduceToInt, Nat.reduceLT, Nat.reduceEqDiff, reduceIte, u_eq, u_ne, w_4m0_2, w_4m0_3, w_4m0_4, w_4m0_5, w_4m0_6, w_4m0_14, w_4m0_42, o_25_40, o_25_2, o_25_3, o_25_4, o_25_5, o_25_6, o_25_14, o_25_42] <;> omega))⟩) (MS.step q_52b hm)
          · skip
            try simp (disch := omega) only [↓i_in, ↓i_isCouple, ↓i_isBridge, ↓i_isTheme, ↓i_isBarge, i_lt, i_le, i_eq, i_clamp, i_m1, Int32.toInt_toInt64, Int32.toInt_add, Int32.toInt_sub, Int32.toInt_mul, bm32, Int32.reduceToInt, Int64.reduceToInt, Nat.reduceLT, Nat.reduceEqDiff, reduceIte, u_eq, u_ne, w_4m0_2, w_4m0_3, w_4m0_4, w_4m0_5, w_4m0_6, w_4m0_14, w_4m0_42] at c_21
            have q_53 := FR_stay (B := (G 6).toInt) (by first | omega | (simp (disch := omega) only [↓i_in, ↓i_isCouple, ↓i_isBridge, ↓i_isTheme, ↓i_isBarge, i_lt, i_le, i_eq, i_clamp, i_m1, Int32.toInt_toInt64, Int32.toInt_add, Int32.toInt_sub, Int32.toInt_mul, bm32, Int32.reduceToInt, Int64.reduceToInt, Nat.reduceLT, Nat.reduceEqDiff, reduceIte, u_eq, u_ne, w_4m0_2, w_4m0_3, w_4m0_4, w_4m0_5, w_4m0_6, w_4m0_14, w_4m0_42] <;> omega)) (by omega) i_5 (by first | omega | (simp (disch := omega) only [↓i_in, ↓i_isCouple, ↓i_isBridge, ↓i_isTheme, ↓i_isBarge, i_lt, i_le, i_eq, i_clamp, i_m1, Int32.toInt_toInt64, Int32.toInt_add, Int32.toInt_sub, Int32.toInt_mul, bm32, Int32.reduceToInt, Int64.reduceToInt, Nat.reduceLT, Nat.reduceEqDiff, reduceIte, u_eq, u_ne, w_4m0_2, w_4m0_3, w_4m0_4, w_4m0_5, w_4m0_6, w_4m0_14, w_4m0_42] <;> omega))
            obtain ⟨q_53a, q_53b⟩ := q_53
            exact ih w_4l2 w_4l1 w_4m0 w_4m1 (upd w_4m2 (w_4l1 : Int32).toNatClampNeg ((w_4m2 (w_4l1 : Int32).toNatClampNeg) + 1)) w_4m3 (⟨i_1, i_2, (by first | omega | (simp (disch := omega) only [↓i_in, ↓i_isCouple, ↓i_isBridge, ↓i_isTheme, ↓i_isBarge, i_lt, i_le, i_eq, i_clamp, i_m1, Int32.toInt_toInt64, Int32.toInt_add, Int32.toInt_sub, Int32.toInt_mul, bm32, Int32.reduceToInt, Int64.reduceToInt, Nat.reduceLT, Nat.reduceEqDiff, reduceIte, u_eq, u_ne, w_4m0_2, w_4m0_3, w_4m0_4, w_4m0_5, w_4m0_6, w_4m0_14, w_4m0_42] <;> omega)), (by first | omega | (simp (disch := omega) only [↓i_in, ↓i_isCouple, ↓i_isBridge, ↓i_isTheme, ↓i_isBarge, i_lt, i_le, i_eq, i_clamp, i_m1, Int32.toInt_toInt64, Int32.toInt_add, Int32.toInt_sub, Int32.toInt_mul, bm32, Int32.reduceToInt, Int64.reduceToInt, Nat.reduceLT, Nat.reduceEqDiff, reduceIte, u_eq, u_ne, w_4m0_2, w_4m0_3, w_4m0_4, w_4m0_5, w_4m0_6, w_4m0_14, w_4m0_42] <;> omega)), q_53a, (by first | omega | (simp (disch := omega) only [↓i_in, ↓i_isCouple, ↓i_isBridge, ↓i_isTheme, ↓i_isBarge, i_lt, i_le, i_eq, i_clamp, i_m1, Int32.toInt_toInt64, Int32.toInt_add, Int32.toInt_sub, Int32.toInt_mul, bm32, Int32.reduceToInt, Int64.reduceToInt, Nat.reduceLT, Nat.reduceEqDiff, reduceIte, u_eq, u_ne, w_4m0_2, w_4m0_3, w_4m0_4, w_4m0_5, w_4m0_6, w_4m0_14, w_4m0_42] <;> omega)), (by first | omega | (simp (disch := omega) only [↓i_in, ↓i_isCouple, ↓i_isBridge, ↓i_isTheme, ↓i_isBarge, i_lt, i_le, i_eq, i_clamp, i_m1, Int32.toInt_toInt64, Int32.toInt_add, Int32.toInt_sub, Int32.toInt_mul, bm32, Int32.reduceToInt, Int64.reduceToInt, Nat.reduceLT, Nat.reduceEqDiff, reduceIte, u_eq, u_ne, w_4m0_2, w_4m0_3, w_4m0_4, w_4m0_5, w_4m0_6, w_4m0_14, w_4m0_42] <;> omega))⟩) (MS.step q_53b hm)
set_option maxHeartbeats 4000000 in
theorem pl_findOrder_28 {G : Nat → Int32} {f10 : Nat → Int32} {f8 : Nat → Int32} {f11 : Nat → Int32} {f12 : Nat → Int32} (h_0 : GI G) (h_1 : RI f11) : ∀ (n : Nat) w_4l2 w_4l1 w_4m0 w_4m1 w_4m2 w_4m3, (QF G w_4m0 ∧ WI w_4m1 ∧ (-1 ≤ w_4l1.toInt) ∧ (w_4l1.toInt ≤ 7) ∧ FR (G 6).toInt w_4l1.toInt w_4m2 ∧ (0 ≤ (w_4m0 40).toInt) ∧ ((w_4m0 40).toInt ≤ 7)) → ∀ r0 r1 r2 r3 r4 r5, f_m_findOrder_28 f10 f8 f11 f12 n w_4l2 w_4l1 w_4m0 w_4m1 w_4m2 w_4m3 = (r0, r1, r2, r3, r4, r5) → QF G r2 ∧ WI r3 ∧ (-1 ≤ r1.toInt) ∧ (r1.toInt ≤ 7) ∧ FR (G 6).toInt r1.toInt r4 ∧ (0 ≤ (r2 40).toInt) ∧ ((r2 40).toInt ≤ 7) := by
  have h_0_g := h_0
  obtain ⟨⟨h_0_2a, h_0_2b⟩, ⟨h_0_3a, h_0_3b⟩, ⟨h_0_4a, h_0_4b⟩, ⟨h_0_5a, h_0_5b⟩, ⟨h_0_6a, h_0_6b⟩, ⟨h_0_14a, h_0_14b⟩, ⟨h_0_42a, h_0_42b⟩⟩ := h_0_g
  intro n
  induction n with
  | zero =>
    intro w_4l2 w_4l1 w_4m0 w_4m1 w_4m2 w_4m3 hI r0 r1 r2 r3 r4 r5 e
    replace e : (w_4l2, w_4l1, w_4m0, w_4m1, w_4m2, w_4m3) = (r0, r1, r2, r3, r4, r5) := e
    cases e
    exact hI
  | succ n ih =>
    intro w_4l2 w_4l1 w_4m0 w_4m1 w_4m2 w_4m3 hI r0 r1 r2 r3 r4 r5 e
    rw [f_m_findOrder_28_s] at e
    have hI0 := hI
    obtain ⟨i_1, i_2, i_3, i_4, i_5, i_6, i_7⟩ := hI0
    obtain ⟨w_4m0_2, w_4m0_3, w_4m0_4, w_4m0_5, w_4m0_6, w_4m0_14, w_4m0_42⟩ := QFs i_1
    by_cases c_8 : w_4l1 < 0
    · rw [if_pos c_8] at e
      try simp (disch := omega) only [↓i_in, ↓i_isCouple, ↓i_isBridge, ↓i_isTheme, ↓i_isBarge, i_lt, i_le, i_eq, i_clamp, i_m1, Int32.toInt_toInt64, Int32.toInt_add, Int32.toInt_sub, Int32.toInt_mul, bm32, Int32.reduceToInt, Int64.reduceToInt, Nat.reduceLT, Nat.reduceEqDiff, reduceIte, u_eq, u_ne, w_4m0_2, w_4m0_3, w_4m0_4, w_4m0_5, w_4m0_6, w_4m0_14, w_4m0_42] at c_8
      cases e
      exact hI
    · rw [if_neg c_8] at e
      try simp (disch := omega) only [↓i_in, ↓i_isCouple, ↓i_isBridge, ↓i_isTheme, ↓i_isBarge, i_lt, i_le, i_eq, i_clamp, i_m1, Int32.toInt_toInt64, Int32.toInt_add, Int32.toInt_sub, Int32.toInt_mul, bm32, Int32.reduceToInt, Int64.reduceToInt, Nat.reduceLT, Nat.reduceEqDiff, reduceIte, u_eq, u_ne, w_4m0_2, w_4m0_3, w_4m0_4, w_4m0_5, w_4m0_6, w_4m0_14, w_4m0_42] at c_8
      have fr0 := i_5 w_4l1.toInt.toNat (by omega)
      by_cases c_9 : ((upd w_4m2 (w_4l1 : Int32).toNatClampNeg ((w_4m2 (w_4l1 : Int32).toNatClampNeg) + 1)) (w_4l1 : Int32).toNatClampNeg) = (w_4m0 6)
      · rw [if_pos c_9] at e
        try simp (disch := omega) only [↓i_in, ↓i_isCouple, ↓i_isBridge, ↓i_isTheme, ↓i_isBarge, i_lt, i_le, i_eq, i_clamp, i_m1, Int32.toInt_toInt64, Int32.toInt_add, Int32.toInt_sub, Int32.toInt_mul, bm32, Int32.reduceToInt, Int64.reduceToInt, Nat.reduceLT, Nat.reduceEqDiff, reduceIte, u_eq, u_ne, w_4m0_2, w_4m0_3, w_4m0_4, w_4m0_5, w_4m0_6, w_4m0_14, w_4m0_42] at c_9
        by_cases c_10 : (w_4l1 + (-1)) < 0
        · rw [if_pos c_10] at e
          try simp (disch := omega) only [↓i_in, ↓i_isCouple, ↓i_isBridge, ↓i_isTheme, ↓i_isBarge, i_lt, i_le, i_eq, i_clamp, i_m1, Int32.toInt_toInt64, Int32.toInt_add, Int32.toInt_sub, Int32.toInt_mul, bm32, Int32.reduceToInt, Int64.reduceToInt, Nat.reduceLT, Nat.reduceEqDiff, reduceIte, u_eq, u_ne, w_4m0_2, w_4m0_3, w_4m0_4, w_4m0_5, w_4m0_6, w_4m0_14, w_4m0_42] at c_10
          have q_11 := FR_back (B := (G 6).toInt) (by first | omega | (simp (disch := omega) only [↓i_in, ↓i_isCouple, ↓i_isBridge, ↓i_isTheme, ↓i_isBarge, i_lt, i_le, i_eq, i_clamp, i_m1, Int32.toInt_toInt64, Int32.toInt_add, Int32.toInt_sub, Int32.toInt_mul, bm32, Int32.reduceToInt, Int64.reduceToInt, Nat.reduceLT, Nat.reduceEqDiff, reduceIte, u_eq, u_ne, w_4m0_2, w_4m0_3, w_4m0_4, w_4m0_5, w_4m0_6, w_4m0_14, w_4m0_42] <;> omega)) (by omega) (by omega) i_5
          obtain ⟨q_11a, q_11b⟩ := q_11
          exact ih (w_4l2 - 0) (w_4l1 + (-1)) w_4m0 w_4m1 (upd w_4m2 (w_4l1 : Int32).toNatClampNeg ((w_4m2 (w_4l1 : Int32).toNatClampNeg) + 1)) w_4m3 (⟨i_1, i_2, (by first | omega | (simp (disch := omega) only [↓i_in, ↓i_isCouple, ↓i_isBridge, ↓i_isTheme, ↓i_isBarge, i_lt, i_le, i_eq, i_clamp, i_m1, Int32.toInt_toInt64, Int32.toInt_add, Int32.toInt_sub, Int32.toInt_mul, bm32, Int32.reduceToInt, Int64.reduceToInt, Nat.reduceLT, Nat.reduceEqDiff, reduceIte, u_eq, u_ne, w_4m0_2, w_4m0_3, w_4m0_4, w_4m0_5, w_4m0_6, w_4m0_14, w_4m0_42] <;> omega)), (by first | omega | (simp (disch := omega) only [↓i_in, ↓i_isCouple, ↓i_isBridge, ↓i_isTheme, ↓i_isBarge, i_lt, i_le, i_eq, i_clamp, i_m1, Int32.toInt_toInt64, Int32.toInt_add, Int32.toInt_sub, Int32.toInt_mul, bm32, Int32.reduceToInt, Int64.reduceToInt, Nat.reduceLT, Nat.reduceEqDiff, reduceIte, u_eq, u_ne, w_4m0_2, w_4m0_3, w_4m0_4, w_4m0_5, w_4m0_6, w_4m0_14, w_4m0_42] <;> omega)), q_11a, (by first | omega | (simp (disch := omega) only [↓i_in, ↓i_isCouple, ↓i_isBridge, ↓i_isTheme, ↓i_isBarge, i_lt, i_le, i_eq, i_clamp, i_m1, Int32.toInt_toInt64, Int32.toInt_add, Int32.toInt_sub, Int32.toInt_mul, bm32, Int32.reduceToInt, Int64.reduceToInt, Nat.reduceLT, Nat.reduceEqDiff, reduceIte, u_eq, u_ne, w_4m0_2, w_4m0_3, w_4m0_4, w_4m0_5, w_4m0_6, w_4m0_14, w_4m0_42] <;> omega)), (by first | omega | (simp (disch := omega) only [↓i_in, ↓i_isCouple, ↓i_isBridge, ↓i_isTheme, ↓i_isBarge, i_lt, i_le, i_eq, i_clamp, i_m1, Int32.toInt_toInt64, Int32.toInt_add, Int32.toInt_sub, Int32.toInt_mul, bm32, Int32.reduceToInt, Int64.reduceToInt, Nat.reduceLT, Nat.reduceEqDiff, reduceIte, u_eq, u_ne, w_4m0_2, w_4m0_3, w_4m0_4, w_4m0_5, w_4m0_6, w_4m0_14, w_4m0_42] <;> omega))⟩) _ _ _ _ _ _ e
        · rw [if_neg c_10] at e
          try simp (disch := omega) only [↓i_in, ↓i_isCouple, ↓i_isBridge, ↓i_isTheme, ↓i_isBarge, i_lt, i_le, i_eq, i_clamp, i_m1, Int32.toInt_toInt64, Int32.toInt_add, Int32.toInt_sub, Int32.toInt_mul, bm32, Int32.reduceToInt, Int64.reduceToInt, Nat.reduceLT, Nat.reduceEqDiff, reduceIte, u_eq, u_ne, w_4m0_2, w_4m0_3, w_4m0_4, w_4m0_5, w_4m0_6, w_4m0_14, w_4m0_42] at c_10
          have fr1 := i_5 (w_4l1.toInt + -1).toNat (by omega)
          by_cases c_12 : (w_4m1 ((((42 + (42 * ((w_4l1 + (-1)) + 1))) + 20) + ((upd w_4m2 (w_4l1 : Int32).toNatClampNeg ((w_4m2 (w_4l1 : Int32).toNatClampNeg) + 1)) ((w_4l1 + (-1)) : Int32).toNatClampNeg)) : Int32).toNatClampNeg) = 1
          · rw [if_pos c_12] at e
            try simp (disch := omega) only [↓i_in, ↓i_isCouple, ↓i_isBridge, ↓i_isTheme, ↓i_isBarge, i_lt, i_le, i_eq, i_clamp, i_m1, Int32.toInt_toInt64, Int32.toInt_add, Int32.toInt_sub, Int32.toInt_mul, bm32, Int32.reduceToInt, Int64.reduceToInt, Nat.reduceLT, Nat.reduceEqDiff, reduceIte, u_eq, u_ne, w_4m0_2, w_4m0_3, w_4m0_4, w_4m0_5, w_4m0_6, w_4m0_14, w_4m0_42] at c_12
            have q_13 := FR_back (B := (G 6).toInt) (by first | omega | (simp (disch := omega) only [↓i_in, ↓i_isCouple, ↓i_isBridge, ↓i_isTheme, ↓i_isBarge, i_lt, i_le, i_eq, i_clamp, i_m1, Int32.toInt_toInt64, Int32.toInt_add, Int32.toInt_sub, Int32.toInt_mul, bm32, Int32.reduceToInt, Int64.reduceToInt, Nat.reduceLT, Nat.reduceEqDiff, reduceIte, u_eq, u_ne, w_4m0_2, w_4m0_3, w_4m0_4, w_4m0_5, w_4m0_6, w_4m0_14, w_4m0_42] <;> omega)) (by omega) (by omega) i_5
            obtain ⟨q_13a, q_13b⟩ := q_13
            exact ih (w_4l2 - 1) (w_4l1 + (-1)) w_4m0 w_4m1 (upd w_4m2 (w_4l1 : Int32).toNatClampNeg ((w_4m2 (w_4l1 : Int32).toNatClampNeg) + 1)) w_4m3 (⟨i_1, i_2, (by first | omega | (simp (disch := omega) only [↓i_in, ↓i_isCouple, ↓i_isBridge, ↓i_isTheme, ↓i_isBarge, i_lt, i_le, i_eq, i_clamp, i_m1, Int32.toInt_toInt64, Int32.toInt_add, Int32.toInt_sub, Int32.toInt_mul, bm32, Int32.reduceToInt, Int64.reduceToInt, Nat.reduceLT, Nat.reduceEqDiff, reduceIte, u_eq, u_ne, w_4m0_2, w_4m0_3, w_4m0_4, w_4m0_5, w_4m0_6, w_4m0_14, w_4m0_42] <;> omega)), (by first | omega | (simp (disch := omega) only [↓i_in, ↓i_isCouple, ↓i_isBridge, ↓i_isTheme, ↓i_isBarge, i_lt, i_le, i_eq, i_clamp, i_m1, Int32.toInt_toInt64, Int32.toInt_add, Int32.toInt_sub, Int32.toInt_mul, bm32, Int32.reduceToInt, Int64.reduceToInt, Nat.reduceLT, Nat.reduceEqDiff, reduceIte, u_eq, u_ne, w_4m0_2, w_4m0_3, w_4m0_4, w_4m0_5, w_4m0_6, w_4m0_14, w_4m0_42] <;> omega)), q_13a, (by first | omega | (simp (disch := omega) only [↓i_in, ↓i_isCouple, ↓i_isBridge, ↓i_isTheme, ↓i_isBarge, i_lt, i_le, i_eq, i_clamp, i_m1, Int32.toInt_toInt64, Int32.toInt_add, Int32.toInt_sub, Int32.toInt_mul, bm32, Int32.reduceToInt, Int64.reduceToInt, Nat.reduceLT, Nat.reduceEqDiff, reduceIte, u_eq, u_ne, w_4m0_2, w_4m0_3, w_4m0_4, w_4m0_5, w_4m0_6, w_4m0_14, w_4m0_42] <;> omega)), (by first | omega | (simp (disch := omega) only [↓i_in, ↓i_isCouple, ↓i_isBridge, ↓i_isTheme, ↓i_isBarge, i_lt, i_le, i_eq, i_clamp, i_m1, Int32.toInt_toInt64, Int32.toInt_add, Int32.toInt_sub, Int32.toInt_mul, bm32, Int32.reduceToInt, Int64.reduceToInt, Nat.reduceLT, Nat.reduceEqDiff, reduceIte, u_eq, u_ne, w_4m0_2, w_4m0_3, w_4m0_4, w_4m0_5, w_4m0_6, w_4m0_14, w_4m0_42] <;> omega))⟩) _ _ _ _ _ _ e
          · rw [if_neg c_12] at e
            try simp (disch := omega) only [↓i_in, ↓i_isCouple, ↓i_isBridge, ↓i_isTheme, ↓i_isBarge, i_lt, i_le, i_eq, i_clamp, i_m1, Int32.toInt_toInt64, Int32.toInt_add, Int32.toInt_sub, Int32.toInt_mul, bm32, Int32.reduceToInt, Int64.reduceToInt, Nat.reduceLT, Nat.reduceEqDiff, reduceIte, u_eq, u_ne, w_4m0_2, w_4m0_3, w_4m0_4, w_4m0_5, w_4m0_6, w_4m0_14, w_4m0_42] at c_12
            have q_14 := FR_back (B := (G 6).toInt) (by first | omega | (simp (disch := omega) only [↓i_in, ↓i_isCouple, ↓i_isBridge, ↓i_isTheme, ↓i_isBarge, i_lt, i_le, i_eq, i_clamp, i_m1, Int32.toInt_toInt64, Int32.toInt_add, Int32.toInt_sub, Int32.toInt_mul, bm32, Int32.reduceToInt, Int64.reduceToInt, Nat.reduceLT, Nat.reduceEqDiff, reduceIte, u_eq, u_ne, w_4m0_2, w_4m0_3, w_4m0_4, w_4m0_5, w_4m0_6, w_4m0_14, w_4m0_42] <;> omega)) (by omega) (by omega) i_5
            obtain ⟨q_14a, q_14b⟩ := q_14
            exact ih (w_4l2 - 0) (w_4l1 + (-1)) w_4m0 w_4m1 (upd w_4m2 (w_4l1 : Int32).toNatClampNeg ((w_4m2 (w_4l1 : Int32).toNatClampNeg) + 1)) w_4m3 (⟨i_1, i_2, (by first | omega | (simp (disch := omega) only [↓i_in, ↓i_isCouple, ↓i_isBridge, ↓i_isTheme, ↓i_isBarge, i_lt, i_le, i_eq, i_clamp, i_m1, Int32.toInt_toInt64, Int32.toInt_add, Int32.toInt_sub, Int32.toInt_mul, bm32, Int32.reduceToInt, Int64.reduceToInt, Nat.reduceLT, Nat.reduceEqDiff, reduceIte, u_eq, u_ne, w_4m0_2, w_4m0_3, w_4m0_4, w_4m0_5, w_4m0_6, w_4m0_14, w_4m0_42] <;> omega)), (by first | omega | (simp (disch := omega) only [↓i_in, ↓i_isCouple, ↓i_isBridge, ↓i_isTheme, ↓i_isBarge, i_lt, i_le, i_eq, i_clamp, i_m1, Int32.toInt_toInt64, Int32.toInt_add, Int32.toInt_sub, Int32.toInt_mul, bm32, Int32.reduceToInt, Int64.reduceToInt, Nat.reduceLT, Nat.reduceEqDiff, reduceIte, u_eq, u_ne, w_4m0_2, w_4m0_3, w_4m0_4, w_4m0_5, w_4m0_6, w_4m0_14, w_4m0_42] <;> omega)), q_14a, (by first | omega | (simp (disch := omega) only [↓i_in, ↓i_isCouple, ↓i_isBridge, ↓i_isTheme, ↓i_isBarge, i_lt, i_le, i_eq, i_clamp, i_m1, Int32.toInt_toInt64, Int32.toInt_add, Int32.toInt_sub, Int32.toInt_mul, bm32, Int32.reduceToInt, Int64.reduceToInt, Nat.reduceLT, Nat.reduceEqDiff, reduceIte, u_eq, u_ne, w_4m0_2, w_4m0_3, w_4m0_4, w_4m0_5, w_4m0_6, w_4m0_14, w_4m0_42] <;> omega)), (by first | omega | (simp (disch := omega) only [↓i_in, ↓i_isCouple, ↓i_isBridge, ↓i_isTheme, ↓i_isBarge, i_lt, i_le, i_eq, i_clamp, i_m1, Int32.toInt_toInt64, Int32.toInt_add, Int32.toInt_sub, Int32.toInt_mul, bm32, Int32.reduceToInt, Int64.reduceToInt, Nat.reduceLT, Nat.reduceEqDiff, reduceIte, u_eq, u_ne, w_4m0_2, w_4m0_3, w_4m0_4, w_4m0_5, w_4m0_6, w_4m0_14, w_4m0_42] <;> omega))⟩) _ _ _ _ _ _ e
      · rw [if_neg c_9] at e
        try simp (disch := omega) only [↓i_in, ↓i_isCouple, ↓i_isBridge, ↓i_isTheme, ↓i_isBarge, i_lt, i_le, i_eq, i_clamp, i_m1, Int32.toInt_toInt64, Int32.toInt_add, Int32.toInt_sub, Int32.toInt_mul, bm32, Int32.reduceToInt, Int64.reduceToInt, Nat.reduceLT, Nat.reduceEqDiff, reduceIte, u_eq, u_ne, w_4m0_2, w_4m0_3, w_4m0_4, w_4m0_5, w_4m0_6, w_4m0_14, w_4m0_42] at c_9
        by_cases c_15 : w_4l1 = 7
        · rw [if_pos c_15] at e
          try simp (disch := omega) only [↓i_in, ↓i_isCouple, ↓i_isBridge, ↓i_isTheme, ↓i_isBarge, i_lt, i_le, i_eq, i_clamp, i_m1, Int32.toInt_toInt64, Int32.toInt_add, Int32.toInt_sub, Int32.toInt_mul, bm32, Int32.reduceToInt, Int64.reduceToInt, Nat.reduceLT, Nat.reduceEqDiff, reduceIte, u_eq, u_ne, w_4m0_2, w_4m0_3, w_4m0_4, w_4m0_5, w_4m0_6, w_4m0_14, w_4m0_42] at c_15
          by_cases c_16 : (w_4l1 + (-1)) < 0
          · rw [if_pos c_16] at e
            try simp (disch := omega) only [↓i_in, ↓i_isCouple, ↓i_isBridge, ↓i_isTheme, ↓i_isBarge, i_lt, i_le, i_eq, i_clamp, i_m1, Int32.toInt_toInt64, Int32.toInt_add, Int32.toInt_sub, Int32.toInt_mul, bm32, Int32.reduceToInt, Int64.reduceToInt, Nat.reduceLT, Nat.reduceEqDiff, reduceIte, u_eq, u_ne, w_4m0_2, w_4m0_3, w_4m0_4, w_4m0_5, w_4m0_6, w_4m0_14, w_4m0_42] at c_16
            have q_17 := FR_back (B := (G 6).toInt) (by first | omega | (simp (disch := omega) only [↓i_in, ↓i_isCouple, ↓i_isBridge, ↓i_isTheme, ↓i_isBarge, i_lt, i_le, i_eq, i_clamp, i_m1, Int32.toInt_toInt64, Int32.toInt_add, Int32.toInt_sub, Int32.toInt_mul, bm32, Int32.reduceToInt, Int64.reduceToInt, Nat.reduceLT, Nat.reduceEqDiff, reduceIte, u_eq, u_ne, w_4m0_2, w_4m0_3, w_4m0_4, w_4m0_5, w_4m0_6, w_4m0_14, w_4m0_42] <;> omega)) (by omega) (by omega) i_5
            obtain ⟨q_17a, q_17b⟩ := q_17
            exact ih (w_4l2 - 0) (w_4l1 + (-1)) w_4m0 w_4m1 (upd w_4m2 (w_4l1 : Int32).toNatClampNeg ((w_4m2 (w_4l1 : Int32).toNatClampNeg) + 1)) w_4m3 (⟨i_1, i_2, (by first | omega | (simp (disch := omega) only [↓i_in, ↓i_isCouple, ↓i_isBridge, ↓i_isTheme, ↓i_isBarge, i_lt, i_le, i_eq, i_clamp, i_m1, Int32.toInt_toInt64, Int32.toInt_add, Int32.toInt_sub, Int32.toInt_mul, bm32, Int32.reduceToInt, Int64.reduceToInt, Nat.reduceLT, Nat.reduceEqDiff, reduceIte, u_eq, u_ne, w_4m0_2, w_4m0_3, w_4m0_4, w_4m0_5, w_4m0_6, w_4m0_14, w_4m0_42] <;> omega)), (by first | omega | (simp (disch := omega) only [↓i_in, ↓i_isCouple, ↓i_isBridge, ↓i_isTheme, ↓i_isBarge, i_lt, i_le, i_eq, i_clamp, i_m1, Int32.toInt_toInt64, Int32.toInt_add, Int32.toInt_sub, Int32.toInt_mul, bm32, Int32.reduceToInt, Int64.reduceToInt, Nat.reduceLT, Nat.reduceEqDiff, reduceIte, u_eq, u_ne, w_4m0_2, w_4m0_3, w_4m0_4, w_4m0_5, w_4m0_6, w_4m0_14, w_4m0_42] <;> omega)), q_17a, (by first | omega | (simp (disch := omega) only [↓i_in, ↓i_isCouple, ↓i_isBridge, ↓i_isTheme, ↓i_isBarge, i_lt, i_le, i_eq, i_clamp, i_m1, Int32.toInt_toInt64, Int32.toInt_add, Int32.toInt_sub, Int32.toInt_mul, bm32, Int32.reduceToInt, Int64.reduceToInt, Nat.reduceLT, Nat.reduceEqDiff, reduceIte, u_eq, u_ne, w_4m0_2, w_4m0_3, w_4m0_4, w_4m0_5, w_4m0_6, w_4m0_14, w_4m0_42] <;> omega)), (by first | omega | (simp (disch := omega) only [↓i_in, ↓i_isCouple, ↓i_isBridge, ↓i_isTheme, ↓i_isBarge, i_lt, i_le, i_eq, i_clamp, i_m1, Int32.toInt_toInt64, Int32.toInt_add, Int32.toInt_sub, Int32.toInt_mul, bm32, Int32.reduceToInt, Int64.reduceToInt, Nat.reduceLT, Nat.reduceEqDiff, reduceIte, u_eq, u_ne, w_4m0_2, w_4m0_3, w_4m0_4, w_4m0_5, w_4m0_6, w_4m0_14, w_4m0_42] <;> omega))⟩) _ _ _ _ _ _ e
          · rw [if_neg c_16] at e
            try simp (disch := omega) only [↓i_in, ↓i_isCouple, ↓i_isBridge, ↓i_isTheme, ↓i_isBarge, i_lt, i_le, i_eq, i_clamp, i_m1, Int32.toInt_toInt64, Int32.toInt_add, Int32.toInt_sub, Int32.toInt_mul, bm32, Int32.reduceToInt, Int64.reduceToInt, Nat.reduceLT, Nat.reduceEqDiff, reduceIte, u_eq, u_ne, w_4m0_2, w_4m0_3, w_4m0_4, w_4m0_5, w_4m0_6, w_4m0_14, w_4m0_42] at c_16
            have fr1 := i_5 (w_4l1.toInt + -1).toNat (by omega)
            by_cases c_18 : (w_4m1 ((((42 + (42 * ((w_4l1 + (-1)) + 1))) + 20) + ((upd w_4m2 (w_4l1 : Int32).toNatClampNeg ((w_4m2 (w_4l1 : Int32).toNatClampNeg) + 1)) ((w_4l1 + (-1)) : Int32).toNatClampNeg)) : Int32).toNatClampNeg) = 1
            · rw [if_pos c_18] at e
              try simp (disch := omega) only [↓i_in, ↓i_isCouple, ↓i_isBridge, ↓i_isTheme, ↓i_isBarge, i_lt, i_le, i_eq, i_clamp, i_m1, Int32.toInt_toInt64, Int32.toInt_add, Int32.toInt_sub, Int32.toInt_mul, bm32, Int32.reduceToInt, Int64.reduceToInt, Nat.reduceLT, Nat.reduceEqDiff, reduceIte, u_eq, u_ne, w_4m0_2, w_4m0_3, w_4m0_4, w_4m0_5, w_4m0_6, w_4m0_14, w_4m0_42] at c_18
              have q_19 := FR_back (B := (G 6).toInt) (by first | omega | (simp (disch := omega) only [↓i_in, ↓i_isCouple, ↓i_isBridge, ↓i_isTheme, ↓i_isBarge, i_lt, i_le, i_eq, i_clamp, i_m1, Int32.toInt_toInt64, Int32.toInt_add, Int32.toInt_sub, Int32.toInt_mul, bm32, Int32.reduceToInt, Int64.reduceToInt, Nat.reduceLT, Nat.reduceEqDiff, reduceIte, u_eq, u_ne, w_4m0_2, w_4m0_3, w_4m0_4, w_4m0_5, w_4m0_6, w_4m0_14, w_4m0_42] <;> omega)) (by omega) (by omega) i_5
              obtain ⟨q_19a, q_19b⟩ := q_19
              exact ih (w_4l2 - 1) (w_4l1 + (-1)) w_4m0 w_4m1 (upd w_4m2 (w_4l1 : Int32).toNatClampNeg ((w_4m2 (w_4l1 : Int32).toNatClampNeg) + 1)) w_4m3 (⟨i_1, i_2, (by first | omega | (simp (disch := omega) only [↓i_in, ↓i_isCouple, ↓i_isBridge, ↓i_isTheme, ↓i_isBarge, i_lt, i_le, i_eq, i_clamp, i_m1, Int32.toInt_toInt64, Int32.toInt_add, Int32.toInt_sub, Int32.toInt_mul, bm32, Int32.reduceToInt, Int64.reduceToInt, Nat.reduceLT, Nat.reduceEqDiff, reduceIte, u_eq, u_ne, w_4m0_2, w_4m0_3, w_4m0_4, w_4m0_5, w_4m0_6, w_4m0_14, w_4m0_42] <;> omega)), (by first | omega | (simp (disch := omega) only [↓i_in, ↓i_isCouple, ↓i_isBridge, ↓i_isTheme, ↓i_isBarge, i_lt, i_le, i_eq, i_clamp, i_m1, Int32.toInt_toInt64, Int32.toInt_add, Int32.toInt_sub, Int32.toInt_mul, bm32, Int32.reduceToInt, Int64.reduceToInt, Nat.reduceLT, Nat.reduceEqDiff, reduceIte, u_eq, u_ne, w_4m0_2, w_4m0_3, w_4m0_4, w_4m0_5, w_4m0_6, w_4m0_14, w_4m0_42] <;> omega)), q_19a, (by first | omega | (simp (disch := omega) only [↓i_in, ↓i_isCouple, ↓i_isBridge, ↓i_isTheme, ↓i_isBarge, i_lt, i_le, i_eq, i_clamp, i_m1, Int32.toInt_toInt64, Int32.toInt_add, Int32.toInt_sub, Int32.toInt_mul, bm32, Int32.reduceToInt, Int64.reduceToInt, Nat.reduceLT, Nat.reduceEqDiff, reduceIte, u_eq, u_ne, w_4m0_2, w_4m0_3, w_4m0_4, w_4m0_5, w_4m0_6, w_4m0_14, w_4m0_42] <;> omega)), (by first | omega | (simp (disch := omega) only [↓i_in, ↓i_isCouple, ↓i_isBridge, ↓i_isTheme, ↓i_isBarge, i_lt, i_le, i_eq, i_clamp, i_m1, Int32.toInt_toInt64, Int32.toInt_add, Int32.toInt_sub, Int32.toInt_mul, bm32, Int32.reduceToInt, Int64.reduceToInt, Nat.reduceLT, Nat.reduceEqDiff, reduceIte, u_eq, u_ne, w_4m0_2, w_4m0_3, w_4m0_4, w_4m0_5, w_4m0_6, w_4m0_14, w_4m0_42] <;> omega))⟩) _ _ _ _ _ _ e
            · rw [if_neg c_18] at e
              try simp (disch := omega) only [↓i_in, ↓i_isCouple, ↓i_isBridge, ↓i_isTheme, ↓i_isBarge, i_lt, i_le, i_eq, i_clamp, i_m1, Int32.toInt_toInt64, Int32.toInt_add, Int32.toInt_sub, Int32.toInt_mul, bm32, Int32.reduceToInt, Int64.reduceToInt, Nat.reduceLT, Nat.reduceEqDiff, reduceIte, u_eq, u_ne, w_4m0_2, w_4m0_3, w_4m0_4, w_4m0_5, w_4m0_6, w_4m0_14, w_4m0_42] at c_18
              have q_20 := FR_back (B := (G 6).toInt) (by first | omega | (simp (disch := omega) only [↓i_in, ↓i_isCouple, ↓i_isBridge, ↓i_isTheme, ↓i_isBarge, i_lt, i_le, i_eq, i_clamp, i_m1, Int32.toInt_toInt64, Int32.toInt_add, Int32.toInt_sub, Int32.toInt_mul, bm32, Int32.reduceToInt, Int64.reduceToInt, Nat.reduceLT, Nat.reduceEqDiff, reduceIte, u_eq, u_ne, w_4m0_2, w_4m0_3, w_4m0_4, w_4m0_5, w_4m0_6, w_4m0_14, w_4m0_42] <;> omega)) (by omega) (by omega) i_5
              obtain ⟨q_20a, q_20b⟩ := q_20
              exact ih (w_4l2 - 0) (w_4l1 + (-1)) w_4m0 w_4m1 (upd w_4m2 (w_4l1 : Int32).toNatClampNeg ((w_4m2 (w_4l1 : Int32).toNatClampNeg) + 1)) w_4m3 (⟨i_1, i_2, (by first | omega | (simp (disch := omega) only [↓i_in, ↓i_isCouple, ↓i_isBridge, ↓i_isTheme, ↓i_isBarge, i_lt, i_le, i_eq, i_clamp, i_m1, Int32.toInt_toInt64, Int32.toInt_add, Int32.toInt_sub, Int32.toInt_mul, bm32, Int32.reduceToInt, Int64.reduceToInt, Nat.reduceLT, Nat.reduceEqDiff, reduceIte, u_eq, u_ne, w_4m0_2, w_4m0_3, w_4m0_4, w_4m0_5, w_4m0_6, w_4m0_14, w_4m0_42] <;> omega)), (by first | omega | (simp (disch := omega) only [↓i_in, ↓i_isCouple, ↓i_isBridge, ↓i_isTheme, ↓i_isBarge, i_lt, i_le, i_eq, i_clamp, i_m1, Int32.toInt_toInt64, Int32.toInt_add, Int32.toInt_sub, Int32.toInt_mul, bm32, Int32.reduceToInt, Int64.reduceToInt, Nat.reduceLT, Nat.reduceEqDiff, reduceIte, u_eq, u_ne, w_4m0_2, w_4m0_3, w_4m0_4, w_4m0_5, w_4m0_6, w_4m0_14, w_4m0_42] <;> omega)), q_20a, (by first | omega | (simp (disch := omega) only [↓i_in, ↓i_isCouple, ↓i_isBridge, ↓i_isTheme, ↓i_isBarge, i_lt, i_le, i_eq, i_clamp, i_m1, Int32.toInt_toInt64, Int32.toInt_add, Int32.toInt_sub, Int32.toInt_mul, bm32, Int32.reduceToInt, Int64.reduceToInt, Nat.reduceLT, Nat.reduceEqDiff, reduceIte, u_eq, u_ne, w_4m0_2, w_4m0_3, w_4m0_4, w_4m0_5, w_4m0_6, w_4m0_14, w_4m0_42] <;> omega)), (by first | omega | (simp (disch := omega) only [↓i_in, ↓i_isCouple, ↓i_isBridge, ↓i_isTheme, ↓i_isBarge, i_lt, i_le, i_eq, i_clamp, i_m1, Int32.toInt_toInt64, Int32.toInt_add, Int32.toInt_sub, Int32.toInt_mul, bm32, Int32.reduceToInt, Int64.reduceToInt, Nat.reduceLT, Nat.reduceEqDiff, reduceIte, u_eq, u_ne, w_4m0_2, w_4m0_3, w_4m0_4, w_4m0_5, w_4m0_6, w_4m0_14, w_4m0_42] <;> omega))⟩) _ _ _ _ _ _ e
        · rw [if_neg c_15] at e
          try simp (disch := omega) only [↓i_in, ↓i_isCouple, ↓i_isBridge, ↓i_isTheme, ↓i_isBarge, i_lt, i_le, i_eq, i_clamp, i_m1, Int32.toInt_toInt64, Int32.toInt_add, Int32.toInt_sub, Int32.toInt_mul, bm32, Int32.reduceToInt, Int64.reduceToInt, Nat.reduceLT, Nat.reduceEqDiff, reduceIte, u_eq, u_ne, w_4m0_2, w_4m0_3, w_4m0_4, w_4m0_5, w_4m0_6, w_4m0_14, w_4m0_42] at c_15
          by_cases c_21 : (w_4m1 ((((42 + (42 * w_4l1)) + 20) + ((upd w_4m2 (w_4l1 : Int32).toNatClampNeg ((w_4m2 (w_4l1 : Int32).toNatClampNeg) + 1)) (w_4l1 : Int32).toNatClampNeg)) : Int32).toNatClampNeg) = 0
          · rw [if_pos c_21] at e
            try simp (disch := omega) only [↓i_in, ↓i_isCouple, ↓i_isBridge, ↓i_isTheme, ↓i_isBarge, i_lt, i_le, i_eq, i_clamp, i_m1, Int32.toInt_toInt64, Int32.toInt_add, Int32.toInt_sub, Int32.toInt_mul, bm32, Int32.reduceToInt, Int64.reduceToInt, Nat.reduceLT, Nat.reduceEqDiff, reduceIte, u_eq, u_ne, w_4m0_2, w_4m0_3, w_4m0_4, w_4m0_5, w_4m0_6, w_4m0_14, w_4m0_42] at c_21
            generalize x_22 : (f_m_passes w_4m0 (f_m_copy w_4m1 (42 + (42 * w_4l1)) ((42 + (42 * w_4l1)) + 42)) f10 f8 f11 f12 ((42 + (42 * w_4l1)) + 42) ((upd w_4m2 (w_4l1 : Int32).toNatClampNeg ((w_4m2 (w_4l1 : Int32).toNatClampNeg) + 1)) (w_4l1 : Int32).toNatClampNeg)) = z_23 at e
            obtain ⟨o_25, o_26⟩ := z_23
            replace e : ((if (o_26 (((((42 + (42 * w_4l1)) + 42) + 20) + ((upd w_4m2 (w_4l1 : Int32).toNatClampNeg ((w_4m2 (w_4l1 : Int32).toNatClampNeg) + 1)) (w_4l1 : Int32).toNatClampNeg)) : Int32).toNatClampNeg) = 3 then (f_m_findOrder_28 f10 f8 f11 f12 n w_4l2 w_4l1 o_25 o_26 (upd w_4m2 (w_4l1 : Int32).toNatClampNeg ((w_4m2 (w_4l1 : Int32).toNatClampNeg) + 1)) w_4m3) else (if (o_26 ((((42 + (42 * w_4l1)) + 42) + 18) : Int32).toNatClampNeg) = (o_26 (18 : Int32).toNatClampNeg) then (if (o_26 (((((42 + (42 * w_4l1)) + 42) + 20) + ((upd w_4m2 (w_4l1 : Int32).toNatClampNeg ((w_4m2 (w_4l1 : Int32).toNatClampNeg) + 1)) (w_4l1 : Int32).toNatClampNeg)) : Int32).toNatClampNeg) = 1 then (if (w_4l2 + 1) ≤ (o_25 41) then (f_m_findOrder_28 f10 f8 f11 f12 n (w_4l2 + 1) (w_4l1 + 1) o_25 o_26 (upd (upd w_4m2 (w_4l1 : Int32).toNatClampNeg ((w_4m2 (w_4l1 : Int32).toNatClampNeg) + 1)) ((w_4l1 + 1) : Int32).toNatClampNeg (-1)) w_4m3) else (match ((f_m_findOrder_253 w_4l1 10 0 (upd (upd o_25 41 (w_4l2 + 1)) 40 (w_4l1 + 1)) o_26 (upd w_4m2 (w_4l1 : Int32).toNatClampNeg ((w_4m2 (w_4l1 : Int32).toNatClampNeg) + 1)) w_4m3) : Int32 × (Nat → Int32) × (Nat → Int32) × (Nat → Int32) × (Nat → Int32)) with | (w_44l5, w_44m0, w_44m1, w_44m2, w_44m3) => (f_m_findOrder_28 f10 f8 f11 f12 n (w_4l2 + 1) (w_4l1 + 1) w_44m0 w_44m1 (upd w_44m2 ((w_4l1 + 1) : Int32).toNatClampNeg (-1)) w_44m3))) else (if (w_4l2 + 0) ≤ (o_25 41) then (f_m_findOrder_28 f10 f8 f11 f12 n (w_4l2 + 0) (w_4l1 + 1) o_25 o_26 (upd (upd w_4m2 (w_4l1 : Int32).toNatClampNeg ((w_4m2 (w_4l1 : Int32).toNatClampNeg) + 1)) ((w_4l1 + 1) : Int32).toNatClampNeg (-1)) w_4m3) else (match ((f_m_findOrder_253 w_4l1 10 0 (upd (upd o_25 41 (w_4l2 + 0)) 40 (w_4l1 + 1)) o_26 (upd w_4m2 (w_4l1 : Int32).toNatClampNeg ((w_4m2 (w_4l1 : Int32).toNatClampNeg) + 1)) w_4m3) : Int32 × (Nat → Int32) × (Nat → Int32) × (Nat → Int32) × (Nat → Int32)) with | (w_37l5, w_37m0, w_37m1, w_37m2, w_37m3) => (f_m_findOrder_28 f10 f8 f11 f12 n (w_4l2 + 0) (w_4l1 + 1) w_37m0 w_37m1 (upd w_37m2 ((w_4l1 + 1) : Int32).toNatClampNeg (-1)) w_37m3)))) else (f_m_findOrder_28 f10 f8 f11 f12 n w_4l2 w_4l1 o_25 o_26 (upd w_4m2 (w_4l1 : Int32).toNatClampNeg ((w_4m2 (w_4l1 : Int32).toNatClampNeg) + 1)) w_4m3)))) = (r0, r1, r2, r3, r4, r5) := e
            have p_24 := p_passes (GI.off i_1 h_0) h_1 (p_copy i_2 (by first | omega | (simp (disch := omega) only [↓i_in, ↓i_isCouple, ↓i_isBridge, ↓i_isTheme, ↓i_isBarge, i_lt, i_le, i_eq, i_clamp, i_m1, Int32.toInt_toInt64, Int32.toInt_add, Int32.toInt_sub, Int32.toInt_mul, bm32, Int32.reduceToInt, Int64.reduceToInt, Nat.reduceLT, Nat.reduceEqDiff, reduceIte, u_eq, u_ne, w_4m0_2, w_4m0_3, w_4m0_4, w_4m0_5, w_4m0_6, w_4m0_14, w_4m0_42] <;> omega)) (by first | omega | (simp (disch := omega) only [↓i_in, ↓i_isCouple, ↓i_isBridge, ↓i_isTheme, ↓i_isBarge, i_lt, i_le, i_eq, i_clamp, i_m1, Int32.toInt_toInt64, Int32.toInt_add, Int32.toInt_sub, Int32.toInt_mul, bm32, Int32.reduceToInt, Int64.reduceToInt, Nat.reduceLT, Nat.reduceEqDiff, reduceIte, u_eq, u_ne, w_4m0_2, w_4m0_3, w_4m0_4, w_4m0_5, w_4m0_6, w_4m0_14, w_4m0_42] <;> omega)) (by first | omega | (simp (disch := omega) only [↓i_in, ↓i_isCouple, ↓i_isBridge, ↓i_isTheme, ↓i_isBarge, i_lt, i_le, i_eq, i_clamp, i_m1, Int32.toInt_toInt64, Int32.toInt_add, Int32.toInt_sub, Int32.toInt_mul, bm32, Int32.reduceToInt, Int64.reduceToInt, Nat.reduceLT, Nat.reduceEqDiff, reduceIte, u_eq, u_ne, w_4m0_2, w_4m0_3, w_4m0_4, w_4m0_5, w_4m0_6, w_4m0_14, w_4m0_42] <;> omega)) (by first | omega | (simp (disch := omega) only [↓i_in, ↓i_isCouple, ↓i_isBridge, ↓i_isTheme, ↓i_isBarge, i_lt, i_le, i_eq, i_clamp, i_m1, Int32.toInt_toInt64, Int32.toInt_add, Int32.toInt_sub, Int32.toInt_mul, bm32, Int32.reduceToInt, Int64.reduceToInt, Nat.reduceLT, Nat.reduceEqDiff, reduceIte, u_eq, u_ne, w_4m0_2, w_4m0_3, w_4m0_4, w_4m0_5, w_4m0_6, w_4m0_14, w_4m0_42] <;> omega))) (by first | omega | (simp (disch := omega) only [↓i_in, ↓i_isCouple, ↓i_isBridge, ↓i_isTheme, ↓i_isBarge, i_lt, i_le, i_eq, i_clamp, i_m1, Int32.toInt_toInt64, Int32.toInt_add, Int32.toInt_sub, Int32.toInt_mul, bm32, Int32.reduceToInt, Int64.reduceToInt, Nat.reduceLT, Nat.reduceEqDiff, reduceIte, u_eq, u_ne, w_4m0_2, w_4m0_3, w_4m0_4, w_4m0_5, w_4m0_6, w_4m0_14, w_4m0_42] <;> omega)) (by first | omega | (simp (disch := omega) only [↓i_in, ↓i_isCouple, ↓i_isBridge, ↓i_isTheme, ↓i_isBarge, i_lt, i_le, i_eq, i_clamp, i_m1, Int32.toInt_toInt64, Int32.toInt_add, Int32.toInt_sub, Int32.toInt_mul, bm32, Int32.reduceToInt, Int64.reduceToInt, Nat.reduceLT, Nat.reduceEqDiff, reduceIte, u_eq, u_ne, w_4m0_2, w_4m0_3, w_4m0_4, w_4m0_5, w_4m0_6, w_4m0_14, w_4m0_42] <;> omega)) (by first | omega | (simp (disch := omega) only [↓i_in, ↓i_isCouple, ↓i_isBridge, ↓i_isTheme, ↓i_isBarge, i_lt, i_le, i_eq, i_clamp, i_m1, Int32.toInt_toInt64, Int32.toInt_add, Int32.toInt_sub, Int32.toInt_mul, bm32, Int32.reduceToInt, Int64.reduceToInt, Nat.reduceLT, Nat.reduceEqDiff, reduceIte, u_eq, u_ne, w_4m0_2, w_4m0_3, w_4m0_4, w_4m0_5, w_4m0_6, w_4m0_14, w_4m0_42] <;> omega)) (by first | omega | (simp (disch := omega) only [↓i_in, ↓i_isCouple, ↓i_isBridge, ↓i_isTheme, ↓i_isBarge, i_lt, i_le, i_eq, i_clamp, i_m1, Int32.toInt_toInt64, Int32.toInt_add, Int32.toInt_sub, Int32.toInt_mul, bm32, Int32.reduceToInt, Int64.reduceToInt, Nat.reduceLT, Nat.reduceEqDiff, reduceIte, u_eq, u_ne, w_4m0_2, w_4m0_3, w_4m0_4, w_4m0_5, w_4m0_6, w_4m0_14, w_4m0_42] <;> omega)) (by first | omega | (simp (disch := omega) only [↓i_in, ↓i_isCouple, ↓i_isBridge, ↓i_isTheme, ↓i_isBarge, i_lt, i_le, i_eq, i_clamp, i_m1, Int32.toInt_toInt64, Int32.toInt_add, Int32.toInt_sub, Int32.toInt_mul, bm32, Int32.reduceToInt, Int64.reduceToInt, Nat.reduceLT, Nat.reduceEqDiff, reduceIte, u_eq, u_ne, w_4m0_2, w_4m0_3, w_4m0_4, w_4m0_5, w_4m0_6, w_4m0_14, w_4m0_42] <;> omega)) _ _ x_22
            obtain ⟨p_24q, p_24w⟩ := p_24
            have o_25_40 := p_24q 40 (by decide)
            have p_24z := And.intro (QG.w p_24q) p_24w
            obtain ⟨i_25, i_26⟩ := p_24z
            replace i_25 := QF.trans i_1 i_25
            obtain ⟨o_25_2, o_25_3, o_25_4, o_25_5, o_25_6, o_25_14, o_25_42⟩ := QFs i_25
            by_cases c_27 : (o_26 (((((42 + (42 * w_4l1)) + 42) + 20) + ((upd w_4m2 (w_4l1 : Int32).toNatClampNeg ((w_4m2 (w_4l1 : Int32).toNatClampNeg) + 1)) (w_4l1 : Int32).toNatClampNeg)) : Int32).toNatClampNeg) = 3
            · rw [if_pos c_27] at e
              try simp (disch := omega) only [↓i_in, ↓i_isCouple, ↓i_isBridge, ↓i_isTheme, ↓i_isBarge, i_lt, i_le, i_eq, i_clamp, i_m1, Int32.toInt_toInt64, Int32.toInt_add, Int32.toInt_sub, Int32.toInt_mul, bm32, Int32.reduceToInt, Int64.reduceToInt, Nat.reduceLT, Nat.reduceEqDiff, reduceIte, u_eq, u_ne, w_4m0_2, w_4m0_3, w_4m0_4, w_4m0_5, w_4m0_6, w_4m0_14, w_4m0_42, o_25_40, o_25_2, o_25_3, o_25_4, o_25_5, o_25_6, o_25_14, o_25_42] at c_27
              have q_28 := FR_stay (B := (G 6).toInt) (by first | omega | (simp (disch := omega) only [↓i_in, ↓i_isCouple, ↓i_isBridge, ↓i_isTheme, ↓i_isBarge, i_lt, i_le, i_eq, i_clamp, i_m1, Int32.toInt_toInt64, Int32.toInt_add, Int32.toInt_sub, Int32.toInt_mul, bm32, Int32.reduceToInt, Int64.reduceToInt, Nat.reduceLT, Nat.reduceEqDiff, reduceIte, u_eq, u_ne, w_4m0_2, w_4m0_3, w_4m0_4, w_4m0_5, w_4m0_6, w_4m0_14, w_4m0_42, o_25_40, o_25_2, o_25_3, o_25_4, o_25_5, o_25_6, o_25_14, o_25_42] <;> omega)) (by omega) i_5 (by first | omega | (simp (disch := omega) only [↓i_in, ↓i_isCouple, ↓i_isBridge, ↓i_isTheme, ↓i_isBarge, i_lt, i_le, i_eq, i_clamp, i_m1, Int32.toInt_toInt64, Int32.toInt_add, Int32.toInt_sub, Int32.toInt_mul, bm32, Int32.reduceToInt, Int64.reduceToInt, Nat.reduceLT, Nat.reduceEqDiff, reduceIte, u_eq, u_ne, w_4m0_2, w_4m0_3, w_4m0_4, w_4m0_5, w_4m0_6, w_4m0_14, w_4m0_42, o_25_40, o_25_2, o_25_3, o_25_4, o_25_5, o_25_6, o_25_14, o_25_42] <;> omega))
              obtain ⟨q_28a, q_28b⟩ := q_28
              exact ih w_4l2 w_4l1 o_25 o_26 (upd w_4m2 (w_4l1 : Int32).toNatClampNeg ((w_4m2 (w_4l1 : Int32).toNatClampNeg) + 1)) w_4m3 (⟨i_25, i_26, (by first | omega | (simp (disch := omega) only [↓i_in, ↓i_isCouple, ↓i_isBridge, ↓i_isTheme, ↓i_isBarge, i_lt, i_le, i_eq, i_clamp, i_m1, Int32.toInt_toInt64, Int32.toInt_add, Int32.toInt_sub, Int32.toInt_mul, bm32, Int32.reduceToInt, Int64.reduceToInt, Nat.reduceLT, Nat.reduceEqDiff, reduceIte, u_eq, u_ne, w_4m0_2, w_4m0_3, w_4m0_4, w_4m0_5, w_4m0_6, w_4m0_14, w_4m0_42, o_25_40, o_25_2, o_25_3, o_25_4, o_25_5, o_25_6, o_25_14, o_25_42] <;> omega)), (by first | omega | (simp (disch := omega) only [↓i_in, ↓i_isCouple, ↓i_isBridge, ↓i_isTheme, ↓i_isBarge, i_lt, i_le, i_eq, i_clamp, i_m1, Int32.toInt_toInt64, Int32.toInt_add, Int32.toInt_sub, Int32.toInt_mul, bm32, Int32.reduceToInt, Int64.reduceToInt, Nat.reduceLT, Nat.reduceEqDiff, reduceIte, u_eq, u_ne, w_4m0_2, w_4m0_3, w_4m0_4, w_4m0_5, w_4m0_6, w_4m0_14, w_4m0_42, o_25_40, o_25_2, o_25_3, o_25_4, o_25_5, o_25_6, o_25_14, o_25_42] <;> omega)), q_28a, (by first | omega | (simp (disch := omega) only [↓i_in, ↓i_isCouple, ↓i_isBridge, ↓i_isTheme, ↓i_isBarge, i_lt, i_le, i_eq, i_clamp, i_m1, Int32.toInt_toInt64, Int32.toInt_add, Int32.toInt_sub, Int32.toInt_mul, bm32, Int32.reduceToInt, Int64.reduceToInt, Nat.reduceLT, Nat.reduceEqDiff, reduceIte, u_eq, u_ne, w_4m0_2, w_4m0_3, w_4m0_4, w_4m0_5, w_4m0_6, w_4m0_14, w_4m0_42, o_25_40, o_25_2, o_25_3, o_25_4, o_25_5, o_25_6, o_25_14, o_25_42] <;> omega)), (by first | omega | (simp (disch := omega) only [↓i_in, ↓i_isCouple, ↓i_isBridge, ↓i_isTheme, ↓i_isBarge, i_lt, i_le, i_eq, i_clamp, i_m1, Int32.toInt_toInt64, Int32.toInt_add, Int32.toInt_sub, Int32.toInt_mul, bm32, Int32.reduceToInt, Int64.reduceToInt, Nat.reduceLT, Nat.reduceEqDiff, reduceIte, u_eq, u_ne, w_4m0_2, w_4m0_3, w_4m0_4, w_4m0_5, w_4m0_6, w_4m0_14, w_4m0_42, o_25_40, o_25_2, o_25_3, o_25_4, o_25_5, o_25_6, o_25_14, o_25_42] <;> omega))⟩) _ _ _ _ _ _ e
            · rw [if_neg c_27] at e
              try simp (disch := omega) only [↓i_in, ↓i_isCouple, ↓i_isBridge, ↓i_isTheme, ↓i_isBarge, i_lt, i_le, i_eq, i_clamp, i_m1, Int32.toInt_toInt64, Int32.toInt_add, Int32.toInt_sub, Int32.toInt_mul, bm32, Int32.reduceToInt, Int64.reduceToInt, Nat.reduceLT, Nat.reduceEqDiff, reduceIte, u_eq, u_ne, w_4m0_2, w_4m0_3, w_4m0_4, w_4m0_5, w_4m0_6, w_4m0_14, w_4m0_42, o_25_40, o_25_2, o_25_3, o_25_4, o_25_5, o_25_6, o_25_14, o_25_42] at c_27
              by_cases c_29 : (o_26 ((((42 + (42 * w_4l1)) + 42) + 18) : Int32).toNatClampNeg) = (o_26 (18 : Int32).toNatClampNeg)
              · rw [if_pos c_29] at e
                try simp (disch := omega) only [↓i_in, ↓i_isCouple, ↓i_isBridge, ↓i_isTheme, ↓i_isBarge, i_lt, i_le, i_eq, i_clamp, i_m1, Int32.toInt_toInt64, Int32.toInt_add, Int32.toInt_sub, Int32.toInt_mul, bm32, Int32.reduceToInt, Int64.reduceToInt, Nat.reduceLT, Nat.reduceEqDiff, reduceIte, u_eq, u_ne, w_4m0_2, w_4m0_3, w_4m0_4, w_4m0_5, w_4m0_6, w_4m0_14, w_4m0_42, o_25_40, o_25_2, o_25_3, o_25_4, o_25_5, o_25_6, o_25_14, o_25_42] at c_29
                by_cases c_30 : (o_26 (((((42 + (42 * w_4l1)) + 42) + 20) + ((upd w_4m2 (w_4l1 : Int32).toNatClampNeg ((w_4m2 (w_4l1 : Int32).toNatClampNeg) + 1)) (w_4l1 : Int32).toNatClampNeg)) : Int32).toNatClampNeg) = 1
                · rw [if_pos c_30] at e
                  try simp (disch := omega) only [↓i_in, ↓i_isCouple, ↓i_isBridge, ↓i_isTheme, ↓i_isBarge, i_lt, i_le, i_eq, i_clamp, i_m1, Int32.toInt_toInt64, Int32.toInt_add, Int32.toInt_sub, Int32.toInt_mul, bm32, Int32.reduceToInt, Int64.reduceToInt, Nat.reduceLT, Nat.reduceEqDiff, reduceIte, u_eq, u_ne, w_4m0_2, w_4m0_3, w_4m0_4, w_4m0_5, w_4m0_6, w_4m0_14, w_4m0_42, o_25_40, o_25_2, o_25_3, o_25_4, o_25_5, o_25_6, o_25_14, o_25_42] at c_30
                  by_cases c_31 : (w_4l2 + 1) ≤ (o_25 41)
                  · rw [if_pos c_31] at e
                    try simp (disch := omega) only [↓i_in, ↓i_isCouple, ↓i_isBridge, ↓i_isTheme, ↓i_isBarge, i_lt, i_le, i_eq, i_clamp, i_m1, Int32.toInt_toInt64, Int32.toInt_add, Int32.toInt_sub, Int32.toInt_mul, bm32, Int32.reduceToInt, Int64.reduceToInt, Nat.reduceLT, Nat.reduceEqDiff, reduceIte, u_eq, u_ne, w_4m0_2, w_4m0_3, w_4m0_4, w_4m0_5, w_4m0_6, w_4m0_14, w_4m0_42, o_25_40, o_25_2, o_25_3, o_25_4, o_25_5, o_25_6, o_25_14, o_25_42] at c_31
                    have q_32 := FR_fwd (B := (G 6).toInt) (by first | omega | (simp (disch := omega) only [↓i_in, ↓i_isCouple, ↓i_isBridge, ↓i_isTheme, ↓i_isBarge, i_lt, i_le, i_eq, i_clamp, i_m1, Int32.toInt_toInt64, Int32.toInt_add, Int32.toInt_sub, Int32.toInt_mul, bm32, Int32.reduceToInt, Int64.reduceToInt, Nat.reduceLT, Nat.reduceEqDiff, reduceIte, u_eq, u_ne, w_4m0_2, w_4m0_3, w_4m0_4, w_4m0_5, w_4m0_6, w_4m0_14, w_4m0_42, o_25_40, o_25_2, o_25_3, o_25_4, o_25_5, o_25_6, o_25_14, o_25_42] <;> omega)) (by first | omega | (simp (disch := omega) only [↓i_in, ↓i_isCouple, ↓i_isBridge, ↓i_isTheme, ↓i_isBarge, i_lt, i_le, i_eq, i_clamp, i_m1, Int32.toInt_toInt64, Int32.toInt_add, Int32.toInt_sub, Int32.toInt_mul, bm32, Int32.reduceToInt, Int64.reduceToInt, Nat.reduceLT, Nat.reduceEqDiff, reduceIte, u_eq, u_ne, w_4m0_2, w_4m0_3, w_4m0_4, w_4m0_5, w_4m0_6, w_4m0_14, w_4m0_42, o_25_40, o_25_2, o_25_3, o_25_4, o_25_5, o_25_6, o_25_14, o_25_42] <;> omega)) (by omega) (by omega) i_5 (by first | omega | (simp (disch := omega) only [↓i_in, ↓i_isCouple, ↓i_isBridge, ↓i_isTheme, ↓i_isBarge, i_lt, i_le, i_eq, i_clamp, i_m1, Int32.toInt_toInt64, Int32.toInt_add, Int32.toInt_sub, Int32.toInt_mul, bm32, Int32.reduceToInt, Int64.reduceToInt, Nat.reduceLT, Nat.reduceEqDiff, reduceIte, u_eq, u_ne, w_4m0_2, w_4m0_3, w_4m0_4, w_4m0_5, w_4m0_6, w_4m0_14, w_4m0_42, o_25_40, o_25_2, o_25_3, o_25_4, o_25_5, o_25_6, o_25_14, o_25_42] <;> omega))
                    obtain ⟨q_32a, q_32b⟩ := q_32
                    exact ih (w_4l2 + 1) (w_4l1 + 1) o_25 o_26 (upd (upd w_4m2 (w_4l1 : Int32).toNatClampNeg ((w_4m2 (w_4l1 : Int32).toNatClampNeg) + 1)) ((w_4l1 + 1) : Int32).toNatClampNeg (-1)) w_4m3 (⟨i_25, i_26, (by first | omega | (simp (disch := omega) only [↓i_in, ↓i_isCouple, ↓i_isBridge, ↓i_isTheme, ↓i_isBarge, i_lt, i_le, i_eq, i_clamp, i_m1, Int32.toInt_toInt64, Int32.toInt_add, Int32.toInt_sub, Int32.toInt_mul, bm32, Int32.reduceToInt, Int64.reduceToInt, Nat.reduceLT, Nat.reduceEqDiff, reduceIte, u_eq, u_ne, w_4m0_2, w_4m0_3, w_4m0_4, w_4m0_5, w_4m0_6, w_4m0_14, w_4m0_42, o_25_40, o_25_2, o_25_3, o_25_4, o_25_5, o_25_6, o_25_14, o_25_42] <;> omega)), (by first | omega | (simp (disch := omega) only [↓i_in, ↓i_isCouple, ↓i_isBridge, ↓i_isTheme, ↓i_isBarge, i_lt, i_le, i_eq, i_clamp, i_m1, Int32.toInt_toInt64, Int32.toInt_add, Int32.toInt_sub, Int32.toInt_mul, bm32, Int32.reduceToInt, Int64.reduceToInt, Nat.reduceLT, Nat.reduceEqDiff, reduceIte, u_eq, u_ne, w_4m0_2, w_4m0_3, w_4m0_4, w_4m0_5, w_4m0_6, w_4m0_14, w_4m0_42, o_25_40, o_25_2, o_25_3, o_25_4, o_25_5, o_25_6, o_25_14, o_25_42] <;> omega)), q_32a, (by first | omega | (simp (disch := omega) only [↓i_in, ↓i_isCouple, ↓i_isBridge, ↓i_isTheme, ↓i_isBarge, i_lt, i_le, i_eq, i_clamp, i_m1, Int32.toInt_toInt64, Int32.toInt_add, Int32.toInt_sub, Int32.toInt_mul, bm32, Int32.reduceToInt, Int64.reduceToInt, Nat.reduceLT, Nat.reduceEqDiff, reduceIte, u_eq, u_ne, w_4m0_2, w_4m0_3, w_4m0_4, w_4m0_5, w_4m0_6, w_4m0_14, w_4m0_42, o_25_40, o_25_2, o_25_3, o_25_4, o_25_5, o_25_6, o_25_14, o_25_42] <;> omega)), (by first | omega | (simp (disch := omega) only [↓i_in, ↓i_isCouple, ↓i_isBridge, ↓i_isTheme, ↓i_isBarge, i_lt, i_le, i_eq, i_clamp, i_m1, Int32.toInt_toInt64, Int32.toInt_add, Int32.toInt_sub, Int32.toInt_mul, bm32, Int32.reduceToInt, Int64.reduceToInt, Nat.reduceLT, Nat.reduceEqDiff, reduceIte, u_eq, u_ne, w_4m0_2, w_4m0_3, w_4m0_4, w_4m0_5, w_4m0_6, w_4m0_14, w_4m0_42, o_25_40, o_25_2, o_25_3, o_25_4, o_25_5, o_25_6, o_25_14, o_25_42] <;> omega))⟩) _ _ _ _ _ _ e
                  · rw [if_neg c_31] at e
                    try simp (disch := omega) only [↓i_in, ↓i_isCouple, ↓i_isBridge, ↓i_isTheme, ↓i_isBarge, i_lt, i_le, i_eq, i_clamp, i_m1, Int32.toInt_toInt64, Int32.toInt_add, Int32.toInt_sub, Int32.toInt_mul, bm32, Int32.reduceToInt, Int64.reduceToInt, Nat.reduceLT, Nat.reduceEqDiff, reduceIte, u_eq, u_ne, w_4m0_2, w_4m0_3, w_4m0_4, w_4m0_5, w_4m0_6, w_4m0_14, w_4m0_42, o_25_40, o_25_2, o_25_3, o_25_4, o_25_5, o_25_6, o_25_14, o_25_42] at c_31
                    generalize x_33 : (f_m_findOrder_253 w_4l1 10 0 (upd (upd o_25 41 (w_4l2 + 1)) 40 (w_4l1 + 1)) o_26 (upd w_4m2 (w_4l1 : Int32).toNatClampNeg ((w_4m2 (w_4l1 : Int32).toNatClampNeg) + 1)) w_4m3) = z_34 at e
                    obtain ⟨w_44l5, w_44m0, w_44m1, w_44m2, w_44m3⟩ := z_34
                    replace e : ((f_m_findOrder_28 f10 f8 f11 f12 n (w_4l2 + 1) (w_4l1 + 1) w_44m0 w_44m1 (upd w_44m2 ((w_4l1 + 1) : Int32).toNatClampNeg (-1)) w_44m3)) = (r0, r1, r2, r3, r4, r5) := e
                    have p_35 := pl_findOrder_253 (by first | omega | (simp (disch := omega) only [↓i_in, ↓i_isCouple, ↓i_isBridge, ↓i_isTheme, ↓i_isBarge, i_lt, i_le, i_eq, i_clamp, i_m1, Int32.toInt_toInt64, Int32.toInt_add, Int32.toInt_sub, Int32.toInt_mul, bm32, Int32.reduceToInt, Int64.reduceToInt, Nat.reduceLT, Nat.reduceEqDiff, reduceIte, u_eq, u_ne, w_4m0_2, w_4m0_3, w_4m0_4, w_4m0_5, w_4m0_6, w_4m0_14, w_4m0_42, o_25_40, o_25_2, o_25_3, o_25_4, o_25_5, o_25_6, o_25_14, o_25_42] <;> omega)) (by first | omega | (simp (disch := omega) only [↓i_in, ↓i_isCouple, ↓i_isBridge, ↓i_isTheme, ↓i_isBarge, i_lt, i_le, i_eq, i_clamp, i_m1, Int32.toInt_toInt64, Int32.toInt_add, Int32.toInt_sub, Int32.toInt_mul, bm32, Int32.reduceToInt, Int64.reduceToInt, Nat.reduceLT, Nat.reduceEqDiff, reduceIte, u_eq, u_ne, w_4m0_2, w_4m0_3, w_4m0_4, w_4m0_5, w_4m0_6, w_4m0_14, w_4m0_42, o_25_40, o_25_2, o_25_3, o_25_4, o_25_5, o_25_6, o_25_14, o_25_42] <;> omega)) 10 0 (upd (upd o_25 41 (w_4l2 + 1)) 40 (w_4l1 + 1)) o_26 (upd w_4m2 (w_4l1 : Int32).toNatClampNeg ((w_4m2 (w_4l1 : Int32).toNatClampNeg) + 1)) w_4m3 (⟨(QF_upd (QF_upd i_25 (by decide) (by decide)) (by decide) (by decide)), i_26, rfl, (by first | omega | (simp (disch := omega) only [↓i_in, ↓i_isCouple, ↓i_isBridge, ↓i_isTheme, ↓i_isBarge, i_lt, i_le, i_eq, i_clamp, i_m1, Int32.toInt_toInt64, Int32.toInt_add, Int32.toInt_sub, Int32.toInt_mul, bm32, Int32.reduceToInt, Int64.reduceToInt, Nat.reduceLT, Nat.reduceEqDiff, reduceIte, u_eq, u_ne, w_4m0_2, w_4m0_3, w_4m0_4, w_4m0_5, w_4m0_6, w_4m0_14, w_4m0_42, o_25_40, o_25_2, o_25_3, o_25_4, o_25_5, o_25_6, o_25_14, o_25_42] <;> omega)), (by first | omega | (simp (disch := omega) only [↓i_in, ↓i_isCouple, ↓i_isBridge, ↓i_isTheme, ↓i_isBarge, i_lt, i_le, i_eq, i_clamp, i_m1, Int32.toInt_toInt64, Int32.toInt_add, Int32.toInt_sub, Int32.toInt_mul, bm32, Int32.reduceToInt, Int64.reduceToInt, Nat.reduceLT, Nat.reduceEqDiff, reduceIte, u_eq, u_ne, w_4m0_2, w_4m0_3, w_4m0_4, w_4m0_5, w_4m0_6, w_4m0_14, w_4m0_42, o_25_40, o_25_2, o_25_3, o_25_4, o_25_5, o_25_6, o_25_14, o_25_42] <;> omega)), (by first | omega | (simp (disch := omega) only [↓i_in, ↓i_isCouple, ↓i_isBridge, ↓i_isTheme, ↓i_isBarge, i_lt, i_le, i_eq, i_clamp, i_m1, Int32.toInt_toInt64, Int32.toInt_add, Int32.toInt_sub, Int32.toInt_mul, bm32, Int32.reduceToInt, Int64.reduceToInt, Nat.reduceLT, Nat.reduceEqDiff, reduceIte, u_eq, u_ne, w_4m0_2, w_4m0_3, w_4m0_4, w_4m0_5, w_4m0_6, w_4m0_14, w_4m0_42, o_25_40, o_25_2, o_25_3, o_25_4, o_25_5, o_25_6, o_25_14, o_25_42] <;> omega)), (by first | omega | (simp (disch := omega) only [↓i_in, ↓i_isCouple, ↓i_isBridge, ↓i_isTheme, ↓i_isBarge, i_lt, i_le, i_eq, i_clamp, i_m1, Int32.toInt_toInt64, Int32.toInt_add, Int32.toInt_sub, Int32.toInt_mul, bm32, Int32.reduceToInt, Int64.reduceToInt, Nat.reduceLT, Nat.reduceEqDiff, reduceIte, u_eq, u_ne, w_4m0_2, w_4m0_3, w_4m0_4, w_4m0_5, w_4m0_6, w_4m0_14, w_4m0_42, o_25_40, o_25_2, o_25_3, o_25_4, o_25_5, o_25_6, o_25_14, o_25_42] <;> omega))⟩) _ _ _ _ _ x_33
                    obtain ⟨i_36, i_37, i_38, i_39, i_40, i_41, i_42⟩ := p_35
                    obtain ⟨w_44m0_2, w_44m0_3, w_44m0_4, w_44m0_5, w_44m0_6, w_44m0_14, w_44m0_42⟩ := QFs i_36
                    rw [i_38] at e
                    have q_43 := FR_fwd (B := (G 6).toInt) (by first | omega | (simp (disch := omega) only [↓i_in, ↓i_isCouple, ↓i_isBridge, ↓i_isTheme, ↓i_isBarge, i_lt, i_le, i_eq, i_clamp, i_m1, Int32.toInt_toInt64, Int32.toInt_add, Int32.toInt_sub, Int32.toInt_mul, bm32, Int32.reduceToInt, Int64.reduceToInt, Nat.reduceLT, Nat.reduceEqDiff, reduceIte, u_eq, u_ne, w_4m0_2, w_4m0_3, w_4m0_4, w_4m0_5, w_4m0_6, w_4m0_14, w_4m0_42, o_25_40, o_25_2, o_25_3, o_25_4, o_25_5, o_25_6, o_25_14, o_25_42, w_44m0_2, w_44m0_3, w_44m0_4, w_44m0_5, w_44m0_6, w_44m0_14, w_44m0_42] <;> omega)) (by first | omega | (simp (disch := omega) only [↓i_in, ↓i_isCouple, ↓i_isBridge, ↓i_isTheme, ↓i_isBarge, i_lt, i_le, i_eq, i_clamp, i_m1, Int32.toInt_toInt64, Int32.toInt_add, Int32.toInt_sub, Int32.toInt_mul, bm32, Int32.reduceToInt, Int64.reduceToInt, Nat.reduceLT, Nat.reduceEqDiff, reduceIte, u_eq, u_ne, w_4m0_2, w_4m0_3, w_4m0_4, w_4m0_5, w_4m0_6, w_4m0_14, w_4m0_42, o_25_40, o_25_2, o_25_3, o_25_4, o_25_5, o_25_6, o_25_14, o_25_42, w_44m0_2, w_44m0_3, w_44m0_4, w_44m0_5, w_44m0_6, w_44m0_14, w_44m0_42] <;> omega)) (by omega) (by omega) i_5 (by first | omega | (simp (disch := omega) only [↓i_in, ↓i_isCouple, ↓i_isBridge, ↓i_isTheme, ↓i_isBarge, i_lt, i_le, i_eq, i_clamp, i_m1, Int32.toInt_toInt64, Int32.toInt_add, Int32.toInt_sub, Int32.toInt_mul, bm32, Int32.reduceToInt, Int64.reduceToInt, Nat.reduceLT, Nat.reduceEqDiff, reduceIte, u_eq, u_ne, w_4m0_2, w_4m0_3, w_4m0_4, w_4m0_5, w_4m0_6, w_4m0_14, w_4m0_42, o_25_40, o_25_2, o_25_3, o_25_4, o_25_5, o_25_6, o_25_14, o_25_42, w_44m0_2, w_44m0_3, w_44m0_4, w_44m0_5, w_44m0_6, w_44m0_14, w_44m0_42] <;> omega))
                    obtain ⟨q_43a, q_43b⟩ := q_43
                    exact ih (w_4l2 + 1) (w_4l1 + 1) w_44m0 w_44m1 (upd (upd w_4m2 (w_4l1 : Int32).toNatClampNeg ((w_4m2 (w_4l1 : Int32).toNatClampNeg) + 1)) ((w_4l1 + 1) : Int32).toNatClampNeg (-1)) w_44m3 (⟨i_36, i_37, (by first | omega | (simp (disch := omega) only [↓i_in, ↓i_isCouple, ↓i_isBridge, ↓i_isTheme, ↓i_isBarge, i_lt, i_le, i_eq, i_clamp, i_m1, Int32.toInt_toInt64, Int32.toInt_add, Int32.toInt_sub, Int32.toInt_mul, bm32, Int32.reduceToInt, Int64.reduceToInt, Nat.reduceLT, Nat.reduceEqDiff, reduceIte, u_eq, u_ne, w_4m0_2, w_4m0_3, w_4m0_4, w_4m0_5, w_4m0_6, w_4m0_14, w_4m0_42, o_25_40, o_25_2, o_25_3, o_25_4, o_25_5, o_25_6, o_25_14, o_25_42, w_44m0_2, w_44m0_3, w_44m0_4, w_44m0_5, w_44m0_6, w_44m0_14, w_44m0_42] <;> omega)), (by first | omega | (simp (disch := omega) only [↓i_in, ↓i_isCouple, ↓i_isBridge, ↓i_isTheme, ↓i_isBarge, i_lt, i_le, i_eq, i_clamp, i_m1, Int32.toInt_toInt64, Int32.toInt_add, Int32.toInt_sub, Int32.toInt_mul, bm32, Int32.reduceToInt, Int64.reduceToInt, Nat.reduceLT, Nat.reduceEqDiff, reduceIte, u_eq, u_ne, w_4m0_2, w_4m0_3, w_4m0_4, w_4m0_5, w_4m0_6, w_4m0_14, w_4m0_42, o_25_40, o_25_2, o_25_3, o_25_4, o_25_5, o_25_6, o_25_14, o_25_42, w_44m0_2, w_44m0_3, w_44m0_4, w_44m0_5, w_44m0_6, w_44m0_14, w_44m0_42] <;> omega)), q_43a, (by first | omega | (simp (disch := omega) only [↓i_in, ↓i_isCouple, ↓i_isBridge, ↓i_isTheme, ↓i_isBarge, i_lt, i_le, i_eq, i_clamp, i_m1, Int32.toInt_toInt64, Int32.toInt_add, Int32.toInt_sub, Int32.toInt_mul, bm32, Int32.reduceToInt, Int64.reduceToInt, Nat.reduceLT, Nat.reduceEqDiff, reduceIte, u_eq, u_ne, w_4m0_2, w_4m0_3, w_4m0_4, w_4m0_5, w_4m0_6, w_4m0_14, w_4m0_42, o_25_40, o_25_2, o_25_3, o_25_4, o_25_5, o_25_6, o_25_14, o_25_42, w_44m0_2, w_44m0_3, w_44m0_4, w_44m0_5, w_44m0_6, w_44m0_14, w_44m0_42] <;> omega)), (by first | omega | (simp (disch := omega) only [↓i_in, ↓i_isCouple, ↓i_isBridge, ↓i_isTheme, ↓i_isBarge, i_lt, i_le, i_eq, i_clamp, i_m1, Int32.toInt_toInt64, Int32.toInt_add, Int32.toInt_sub, Int32.toInt_mul, bm32, Int32.reduceToInt, Int64.reduceToInt, Nat.reduceLT, Nat.reduceEqDiff, reduceIte, u_eq, u_ne, w_4m0_2, w_4m0_3, w_4m0_4, w_4m0_5, w_4m0_6, w_4m0_14, w_4m0_42, o_25_40, o_25_2, o_25_3, o_25_4, o_25_5, o_25_6, o_25_14, o_25_42, w_44m0_2, w_44m0_3, w_44m0_4, w_44m0_5, w_44m0_6, w_44m0_14, w_44m0_42] <;> omega))⟩) _ _ _ _ _ _ e
                · rw [if_neg c_30] at e
                  try simp (disch := omega) only [↓i_in, ↓i_isCouple, ↓i_isBridge, ↓i_isTheme, ↓i_isBarge, i_lt, i_le, i_eq, i_clamp, i_m1, Int32.toInt_toInt64, Int32.toInt_add, Int32.toInt_sub, Int32.toInt_mul, bm32, Int32.reduceToInt, Int64.reduceToInt, Nat.reduceLT, Nat.reduceEqDiff, reduceIte, u_eq, u_ne, w_4m0_2, w_4m0_3, w_4m0_4, w_4m0_5, w_4m0_6, w_4m0_14, w_4m0_42, o_25_40, o_25_2, o_25_3, o_25_4, o_25_5, o_25_6, o_25_14, o_25_42] at c_30
                  by_cases c_44 : (w_4l2 + 0) ≤ (o_25 41)
                  · rw [if_pos c_44] at e
                    try simp (disch := omega) only [↓i_in, ↓i_isCouple, ↓i_isBridge, ↓i_isTheme, ↓i_isBarge, i_lt, i_le, i_eq, i_clamp, i_m1, Int32.toInt_toInt64, Int32.toInt_add, Int32.toInt_sub, Int32.toInt_mul, bm32, Int32.reduceToInt, Int64.reduceToInt, Nat.reduceLT, Nat.reduceEqDiff, reduceIte, u_eq, u_ne, w_4m0_2, w_4m0_3, w_4m0_4, w_4m0_5, w_4m0_6, w_4m0_14, w_4m0_42, o_25_40, o_25_2, o_25_3, o_25_4, o_25_5, o_25_6, o_25_14, o_25_42] at c_44
                    have q_45 := FR_fwd (B := (G 6).toInt) (by first | omega | (simp (disch := omega) only [↓i_in, ↓i_isCouple, ↓i_isBridge, ↓i_isTheme, ↓i_isBarge, i_lt, i_le, i_eq, i_clamp, i_m1, Int32.toInt_toInt64, Int32.toInt_add, Int32.toInt_sub, Int32.toInt_mul, bm32, Int32.reduceToInt, Int64.reduceToInt, Nat.reduceLT, Nat.reduceEqDiff, reduceIte, u_eq, u_ne, w_4m0_2, w_4m0_3, w_4m0_4, w_4m0_5, w_4m0_6, w_4m0_14, w_4m0_42, o_25_40, o_25_2, o_25_3, o_25_4, o_25_5, o_25_6, o_25_14, o_25_42] <;> omega)) (by first | omega | (simp (disch := omega) only [↓i_in, ↓i_isCouple, ↓i_isBridge, ↓i_isTheme, ↓i_isBarge, i_lt, i_le, i_eq, i_clamp, i_m1, Int32.toInt_toInt64, Int32.toInt_add, Int32.toInt_sub, Int32.toInt_mul, bm32, Int32.reduceToInt, Int64.reduceToInt, Nat.reduceLT, Nat.reduceEqDiff, reduceIte, u_eq, u_ne, w_4m0_2, w_4m0_3, w_4m0_4, w_4m0_5, w_4m0_6, w_4m0_14, w_4m0_42, o_25_40, o_25_2, o_25_3, o_25_4, o_25_5, o_25_6, o_25_14, o_25_42] <;> omega)) (by omega) (by omega) i_5 (by first | omega | (simp (disch := omega) only [↓i_in, ↓i_isCouple, ↓i_isBridge, ↓i_isTheme, ↓i_isBarge, i_lt, i_le, i_eq, i_clamp, i_m1, Int32.toInt_toInt64, Int32.toInt_add, Int32.toInt_sub, Int32.toInt_mul, bm32, Int32.reduceToInt, Int64.reduceToInt, Nat.reduceLT, Nat.reduceEqDiff, reduceIte, u_eq, u_ne, w_4m0_2, w_4m0_3, w_4m0_4, w_4m0_5, w_4m0_6, w_4m0_14, w_4m0_42, o_25_40, o_25_2, o_25_3, o_25_4, o_25_5, o_25_6, o_25_14, o_25_42] <;> omega))
                    obtain ⟨q_45a, q_45b⟩ := q_45
                    exact ih (w_4l2 + 0) (w_4l1 + 1) o_25 o_26 (upd (upd w_4m2 (w_4l1 : Int32).toNatClampNeg ((w_4m2 (w_4l1 : Int32).toNatClampNeg) + 1)) ((w_4l1 + 1) : Int32).toNatClampNeg (-1)) w_4m3 (⟨i_25, i_26, (by first | omega | (simp (disch := omega) only [↓i_in, ↓i_isCouple, ↓i_isBridge, ↓i_isTheme, ↓i_isBarge, i_lt, i_le, i_eq, i_clamp, i_m1, Int32.toInt_toInt64, Int32.toInt_add, Int32.toInt_sub, Int32.toInt_mul, bm32, Int32.reduceToInt, Int64.reduceToInt, Nat.reduceLT, Nat.reduceEqDiff, reduceIte, u_eq, u_ne, w_4m0_2, w_4m0_3, w_4m0_4, w_4m0_5, w_4m0_6, w_4m0_14, w_4m0_42, o_25_40, o_25_2, o_25_3, o_25_4, o_25_5, o_25_6, o_25_14, o_25_42] <;> omega)), (by first | omega | (simp (disch := omega) only [↓i_in, ↓i_isCouple, ↓i_isBridge, ↓i_isTheme, ↓i_isBarge, i_lt, i_le, i_eq, i_clamp, i_m1, Int32.toInt_toInt64, Int32.toInt_add, Int32.toInt_sub, Int32.toInt_mul, bm32, Int32.reduceToInt, Int64.reduceToInt, Nat.reduceLT, Nat.reduceEqDiff, reduceIte, u_eq, u_ne, w_4m0_2, w_4m0_3, w_4m0_4, w_4m0_5, w_4m0_6, w_4m0_14, w_4m0_42, o_25_40, o_25_2, o_25_3, o_25_4, o_25_5, o_25_6, o_25_14, o_25_42] <;> omega)), q_45a, (by first | omega | (simp (disch := omega) only [↓i_in, ↓i_isCouple, ↓i_isBridge, ↓i_isTheme, ↓i_isBarge, i_lt, i_le, i_eq, i_clamp, i_m1, Int32.toInt_toInt64, Int32.toInt_add, Int32.toInt_sub, Int32.toInt_mul, bm32, Int32.reduceToInt, Int64.reduceToInt, Nat.reduceLT, Nat.reduceEqDiff, reduceIte, u_eq, u_ne, w_4m0_2, w_4m0_3, w_4m0_4, w_4m0_5, w_4m0_6, w_4m0_14, w_4m0_42, o_25_40, o_25_2, o_25_3, o_25_4, o_25_5, o_25_6, o_25_14, o_25_42] <;> omega)), (by first | omega | (simp (disch := omega) only [↓i_in, ↓i_isCouple, ↓i_isBridge, ↓i_isTheme, ↓i_isBarge, i_lt, i_le, i_eq, i_clamp, i_m1, Int32.toInt_toInt64, Int32.toInt_add, Int32.toInt_sub, Int32.toInt_mul, bm32, Int32.reduceToInt, Int64.reduceToInt, Nat.reduceLT, Nat.reduceEqDiff, reduceIte, u_eq, u_ne, w_4m0_2, w_4m0_3, w_4m0_4, w_4m0_5, w_4m0_6, w_4m0_14, w_4m0_42, o_25_40, o_25_2, o_25_3, o_25_4, o_25_5, o_25_6, o_25_14, o_25_42] <;> omega))⟩) _ _ _ _ _ _ e
                  · rw [if_neg c_44] at e
                    try simp (disch := omega) only [↓i_in, ↓i_isCouple, ↓i_isBridge, ↓i_isTheme, ↓i_isBarge, i_lt, i_le, i_eq, i_clamp, i_m1, Int32.toInt_toInt64, Int32.toInt_add, Int32.toInt_sub, Int32.toInt_mul, bm32, Int32.reduceToInt, Int64.reduceToInt, Nat.reduceLT, Nat.reduceEqDiff, reduceIte, u_eq, u_ne, w_4m0_2, w_4m0_3, w_4m0_4, w_4m0_5, w_4m0_6, w_4m0_14, w_4m0_42, o_25_40, o_25_2, o_25_3, o_25_4, o_25_5, o_25_6, o_25_14, o_25_42] at c_44
                    generalize x_46 : (f_m_findOrder_253 w_4l1 10 0 (upd (upd o_25 41 (w_4l2 + 0)) 40 (w_4l1 + 1)) o_26 (upd w_4m2 (w_4l1 : Int32).toNatClampNeg ((w_4m2 (w_4l1 : Int32).toNatClampNeg) + 1)) w_4m3) = z_47 at e
                    obtain ⟨w_37l5, w_37m0, w_37m1, w_37m2, w_37m3⟩ := z_47
                    replace e : ((f_m_findOrder_28 f10 f8 f11 f12 n (w_4l2 + 0) (w_4l1 + 1) w_37m0 w_37m1 (upd w_37m2 ((w_4l1 + 1) : Int32).toNatClampNeg (-1)) w_37m3)) = (r0, r1, r2, r3, r4, r5) := e
                    have p_48 := pl_findOrder_253 (by first | omega | (simp (disch := omega) only [↓i_in, ↓i_isCouple, ↓i_isBridge, ↓i_isTheme, ↓i_isBarge, i_lt, i_le, i_eq, i_clamp, i_m1, Int32.toInt_toInt64, Int32.toInt_add, Int32.toInt_sub, Int32.toInt_mul, bm32, Int32.reduceToInt, Int64.reduceToInt, Nat.reduceLT, Nat.reduceEqDiff, reduceIte, u_eq, u_ne, w_4m0_2, w_4m0_3, w_4m0_4, w_4m0_5, w_4m0_6, w_4m0_14, w_4m0_42, o_25_40, o_25_2, o_25_3, o_25_4, o_25_5, o_25_6, o_25_14, o_25_42] <;> omega)) (by first | omega | (simp (disch := omega) only [↓i_in, ↓i_isCouple, ↓i_isBridge, ↓i_isTheme, ↓i_isBarge, i_lt, i_le, i_eq, i_clamp, i_m1, Int32.toInt_toInt64, Int32.toInt_add, Int32.toInt_sub, Int32.toInt_mul, bm32, Int32.reduceToInt, Int64.reduceToInt, Nat.reduceLT, Nat.reduceEqDiff, reduceIte, u_eq, u_ne, w_4m0_2, w_4m0_3, w_4m0_4, w_4m0_5, w_4m0_6, w_4m0_14, w_4m0_42, o_25_40, o_25_2, o_25_3, o_25_4, o_25_5, o_25_6, o_25_14, o_25_42] <;> omega)) 10 0 (upd (upd o_25 41 (w_4l2 + 0)) 40 (w_4l1 + 1)) o_26 (upd w_4m2 (w_4l1 : Int32).toNatClampNeg ((w_4m2 (w_4l1 : Int32).toNatClampNeg) + 1)) w_4m3 (⟨(QF_upd (QF_upd i_25 (by decide) (by decide)) (by decide) (by decide)), i_26, rfl, (by first | omega | (simp (disch := omega) only [↓i_in, ↓i_isCouple, ↓i_isBridge, ↓i_isTheme, ↓i_isBarge, i_lt, i_le, i_eq, i_clamp, i_m1, Int32.toInt_toInt64, Int32.toInt_add, Int32.toInt_sub, Int32.toInt_mul, bm32, Int32.reduceToInt, Int64.reduceToInt, Nat.reduceLT, Nat.reduceEqDiff, reduceIte, u_eq, u_ne, w_4m0_2, w_4m0_3, w_4m0_4, w_4m0_5, w_4m0_6, w_4m0_14, w_4m0_42, o_25_40, o_25_2, o_25_3, o_25_4, o_25_5, o_25_6, o_25_14, o_25_42] <;> omega)), (by first | omega | (simp (disch := omega) only [↓i_in, ↓i_isCouple, ↓i_isBridge, ↓i_isTheme, ↓i_isBarge, i_lt, i_le, i_eq, i_clamp, i_m1, Int32.toInt_toInt64, Int32.toInt_add, Int32.toInt_sub, Int32.toInt_mul, bm32, Int32.reduceToInt, Int64.reduceToInt, Nat.reduceLT, Nat.reduceEqDiff, reduceIte, u_eq, u_ne, w_4m0_2, w_4m0_3, w_4m0_4, w_4m0_5, w_4m0_6, w_4m0_14, w_4m0_42, o_25_40, o_25_2, o_25_3, o_25_4, o_25_5, o_25_6, o_25_14, o_25_42] <;> omega)), (by first | omega | (simp (disch := omega) only [↓i_in, ↓i_isCouple, ↓i_isBridge, ↓i_isTheme, ↓i_isBarge, i_lt, i_le, i_eq, i_clamp, i_m1, Int32.toInt_toInt64, Int32.toInt_add, Int32.toInt_sub, Int32.toInt_mul, bm32, Int32.reduceToInt, Int64.reduceToInt, Nat.reduceLT, Nat.reduceEqDiff, reduceIte, u_eq, u_ne, w_4m0_2, w_4m0_3, w_4m0_4, w_4m0_5, w_4m0_6, w_4m0_14, w_4m0_42, o_25_40, o_25_2, o_25_3, o_25_4, o_25_5, o_25_6, o_25_14, o_25_42] <;> omega)), (by first | omega | (simp (disch := omega) only [↓i_in, ↓i_isCouple, ↓i_isBridge, ↓i_isTheme, ↓i_isBarge, i_lt, i_le, i_eq, i_clamp, i_m1, Int32.toInt_toInt64, Int32.toInt_add, Int32.toInt_sub, Int32.toInt_mul, bm32, Int32.reduceToInt, Int64.reduceToInt, Nat.reduceLT, Nat.reduceEqDiff, reduceIte, u_eq, u_ne, w_4m0_2, w_4m0_3, w_4m0_4, w_4m0_5, w_4m0_6, w_4m0_14, w_4m0_42, o_25_40, o_25_2, o_25_3, o_25_4, o_25_5, o_25_6, o_25_14, o_25_42] <;> omega))⟩) _ _ _ _ _ x_46
                    obtain ⟨i_49, i_50, i_51, i_52, i_53, i_54, i_55⟩ := p_48
                    obtain ⟨w_37m0_2, w_37m0_3, w_37m0_4, w_37m0_5, w_37m0_6, w_37m0_14, w_37m0_42⟩ := QFs i_49
                    rw [i_51] at e
                    have q_56 := FR_fwd (B := (G 6).toInt) (by first | omega | (simp (disch := omega) only [↓i_in, ↓i_isCouple, ↓i_isBridge, ↓i_isTheme, ↓i_isBarge, i_lt, i_le, i_eq, i_clamp, i_m1, Int32.toInt_toInt64, Int32.toInt_add, Int32.toInt_sub, Int32.toInt_mul, bm32, Int32.reduceToInt, Int64.reduceToInt, Nat.reduceLT, Nat.reduceEqDiff, reduceIte, u_eq, u_ne, w_4m0_2, w_4m0_3, w_4m0_4, w_4m0_5, w_4m0_6, w_4m0_14, w_4m0_42, o_25_40, o_25_2, o_25_3, o_25_4, o_25_5, o_25_6, o_25_14, o_25_42, w_37m0_2, w_37m0_3, w_37m0_4, w_37m0_5, w_37m0_6, w_37m0_14, w_37m0_42] <;> omega)) (by first | omega | (simp (disch := omega) only [↓i_in, ↓i_isCouple, ↓i_isBridge, ↓i_isTheme, ↓i_isBarge, i_lt, i_le, i_eq, i_clamp, i_m1, Int32.toInt_toInt64, Int32.toInt_add, Int32.toInt_sub, Int32.toInt_mul, bm32, Int32.reduceToInt, Int64.reduceToInt, Nat.reduceLT, Nat.reduceEqDiff, reduceIte, u_eq, u_ne, w_4m0_2, w_4m0_3, w_4m0_4, w_4m0_5, w_4m0_6, w_4m0_14, w_4m0_42, o_25_40, o_25_2, o_25_3, o_25_4, o_25_5, o_25_6, o_25_14, o_25_42, w_37m0_2, w_37m0_3, w_37m0_4, w_37m0_5, w_37m0_6, w_37m0_14, w_37m0_42] <;> omega)) (by omega) (by omega) i_5 (by first | omega | (simp (disch := omega) only [↓i_in, ↓i_isCouple, ↓i_isBridge, ↓i_isTheme, ↓i_isBarge, i_lt, i_le, i_eq, i_clamp, i_m1, Int32.toInt_toInt64, Int32.toInt_add, Int32.toInt_sub, Int32.toInt_mul, bm32, Int32.reduceToInt, Int64.reduceToInt, Nat.reduceLT, Nat.reduceEqDiff, reduceIte, u_eq, u_ne, w_4m0_2, w_4m0_3, w_4m0_4, w_4m0_5, w_4m0_6, w_4m0_14, w_4m0_42, o_25_40, o_25_2, o_25_3, o_25_4, o_25_5, o_25_6, o_25_14, o_25_42, w_37m0_2, w_37m0_3, w_37m0_4, w_37m0_5, w_37m0_6, w_37m0_14, w_37m0_42] <;> omega))
                    obtain ⟨q_56a, q_56b⟩ := q_56
                    exact ih (w_4l2 + 0) (w_4l1 + 1) w_37m0 w_37m1 (upd (upd w_4m2 (w_4l1 : Int32).toNatClampNeg ((w_4m2 (w_4l1 : Int32).toNatClampNeg) + 1)) ((w_4l1 + 1) : Int32).toNatClampNeg (-1)) w_37m3 (⟨i_49, i_50, (by first | omega | (simp (disch := omega) only [↓i_in, ↓i_isCouple, ↓i_isBridge, ↓i_isTheme, ↓i_isBarge, i_lt, i_le, i_eq, i_clamp, i_m1, Int32.toInt_toInt64, Int32.toInt_add, Int32.toInt_sub, Int32.toInt_mul, bm32, Int32.reduceToInt, Int64.reduceToInt, Nat.reduceLT, Nat.reduceEqDiff, reduceIte, u_eq, u_ne, w_4m0_2, w_4m0_3, w_4m0_4, w_4m0_5, w_4m0_6, w_4m0_14, w_4m0_42, o_25_40, o_25_2, o_25_3, o_25_4, o_25_5, o_25_6, o_25_14, o_25_42, w_37m0_2, w_37m0_3, w_37m0_4, w_37m0_5, w_37m0_6, w_37m0_14, w_37m0_42] <;> omega)), (by first | omega | (simp (disch := omega) only [↓i_in, ↓i_isCouple, ↓i_isBridge, ↓i_isTheme, ↓i_isBarge, i_lt, i_le, i_eq, i_clamp, i_m1, Int32.toInt_toInt64, Int32.toInt_add, Int32.toInt_sub, Int32.toInt_mul, bm32, Int32.reduceToInt, Int64.reduceToInt, Nat.reduceLT, Nat.reduceEqDiff, reduceIte, u_eq, u_ne, w_4m0_2, w_4m0_3, w_4m0_4, w_4m0_5, w_4m0_6, w_4m0_14, w_4m0_42, o_25_40, o_25_2, o_25_3, o_25_4, o_25_5, o_25_6, o_25_14, o_25_42, w_37m0_2, w_37m0_3, w_37m0_4, w_37m0_5, w_37m0_6, w_37m0_14, w_37m0_42] <;> omega)), q_56a, (by first | omega | (simp (disch := omega) only [↓i_in, ↓i_isCouple, ↓i_isBridge, ↓i_isTheme, ↓i_isBarge, i_lt, i_le, i_eq, i_clamp, i_m1, Int32.toInt_toInt64, Int32.toInt_add, Int32.toInt_sub, Int32.toInt_mul, bm32, Int32.reduceToInt, Int64.reduceToInt, Nat.reduceLT, Nat.reduceEqDiff, reduceIte, u_eq, u_ne, w_4m0_2, w_4m0_3, w_4m0_4, w_4m0_5, w_4m0_6, w_4m0_14, w_4m0_42, o_25_40, o_25_2, o_25_3, o_25_4, o_25_5, o_25_6, o_25_14, o_25_42, w_37m0_2, w_37m0_3, w_37m0_4, w_37m0_5, w_37m0_6, w_37m0_14, w_37m0_42] <;> omega)), (by first | omega | (simp (disch := omega) only [↓i_in, ↓i_isCouple, ↓i_isBridge, ↓i_isTheme, ↓i_isBarge, i_lt, i_le, i_eq, i_clamp, i_m1, Int32.toInt_toInt64, Int32.toInt_add, Int32.toInt_sub, Int32.toInt_mul, bm32, Int32.reduceToInt, Int64.reduceToInt, Nat.reduceLT, Nat.reduceEqDiff, reduceIte, u_eq, u_ne, w_4m0_2, w_4m0_3, w_4m0_4, w_4m0_5, w_4m0_6, w_4m0_14, w_4m0_42, o_25_40, o_25_2, o_25_3, o_25_4, o_25_5, o_25_6, o_25_14, o_25_42, w_37m0_2, w_37m0_3, w_37m0_4, w_37m0_5, w_37m0_6, w_37m0_14, w_37m0_42] <;> omega))⟩) _ _ _ _ _ _ e
              · rw [if_neg c_29] at e
                try simp (disch := omega) only [↓i_in, ↓i_isCouple, ↓i_isBridge, ↓i_isTheme, ↓i_isBarge, i_lt, i_le, i_eq, i_clamp, i_m1, Int32.toInt_toInt64, Int32.toInt_add, Int32.toInt_sub, Int32.toInt_mul, bm32, Int32.reduceToInt, Int64.reduceToInt, Nat.reduceLT, Nat.reduceEqDiff, reduceIte, u_eq, u_ne, w_4m0_2, w_4m0_3, w_4m0_4, w_4m0_5, w_4m0_6, w_4m0_14, w_4m0_42, o_25_40, o_25_2, o_25_3, o_25_4, o_25_5, o_25_6, o_25_14, o_25_42] at c_29
                have q_57 := FR_stay (B := (G 6).toInt) (by first | omega | (simp (disch := omega) only [↓i_in, ↓i_isCouple, ↓i_isBridge, ↓i_isTheme, ↓i_isBarge, i_lt, i_le, i_eq, i_clamp, i_m1, Int32.toInt_toInt64, Int32.toInt_add, Int32.toInt_sub, Int32.toInt_mul, bm32, Int32.reduceToInt, Int64.reduceToInt, Nat.reduceLT, Nat.reduceEqDiff, reduceIte, u_eq, u_ne, w_4m0_2, w_4m0_3, w_4m0_4, w_4m0_5, w_4m0_6, w_4m0_14, w_4m0_42, o_25_40, o_25_2, o_25_3, o_25_4, o_25_5, o_25_6, o_25_14, o_25_42] <;> omega)) (by omega) i_5 (by first | omega | (simp (disch := omega) only [↓i_in, ↓i_isCouple, ↓i_isBridge, ↓i_isTheme, ↓i_isBarge, i_lt, i_le, i_eq, i_clamp, i_m1, Int32.toInt_toInt64, Int32.toInt_add, Int32.toInt_sub, Int32.toInt_mul, bm32, Int32.reduceToInt, Int64.reduceToInt, Nat.reduceLT, Nat.reduceEqDiff, reduceIte, u_eq, u_ne, w_4m0_2, w_4m0_3, w_4m0_4, w_4m0_5, w_4m0_6, w_4m0_14, w_4m0_42, o_25_40, o_25_2, o_25_3, o_25_4, o_25_5, o_25_6, o_25_14, o_25_42] <;> omega))
                obtain ⟨q_57a, q_57b⟩ := q_57
                exact ih w_4l2 w_4l1 o_25 o_26 (upd w_4m2 (w_4l1 : Int32).toNatClampNeg ((w_4m2 (w_4l1 : Int32).toNatClampNeg) + 1)) w_4m3 (⟨i_25, i_26, (by first | omega | (simp (disch := omega) only [↓i_in, ↓i_isCouple, ↓i_isBridge, ↓i_isTheme, ↓i_isBarge, i_lt, i_le, i_eq, i_clamp, i_m1, Int32.toInt_toInt64, Int32.toInt_add, Int32.toInt_sub, Int32.toInt_mul, bm32, Int32.reduceToInt, Int64.reduceToInt, Nat.reduceLT, Nat.reduceEqDiff, reduceIte, u_eq, u_ne, w_4m0_2, w_4m0_3, w_4m0_4, w_4m0_5, w_4m0_6, w_4m0_14, w_4m0_42, o_25_40, o_25_2, o_25_3, o_25_4, o_25_5, o_25_6, o_25_14, o_25_42] <;> omega)), (by first | omega | (simp (disch := omega) only [↓i_in, ↓i_isCouple, ↓i_isBridge, ↓i_isTheme, ↓i_isBarge, i_lt, i_le, i_eq, i_clamp, i_m1, Int32.toInt_toInt64, Int32.toInt_add, Int32.toInt_sub, Int32.toInt_mul, bm32, Int32.reduceToInt, Int64.reduceToInt, Nat.reduceLT, Nat.reduceEqDiff, reduceIte, u_eq, u_ne, w_4m0_2, w_4m0_3, w_4m0_4, w_4m0_5, w_4m0_6, w_4m0_14, w_4m0_42, o_25_40, o_25_2, o_25_3, o_25_4, o_25_5, o_25_6, o_25_14, o_25_42] <;> omega)), q_57a, (by first | omega | (simp (disch := omega) only [↓i_in, ↓i_isCouple, ↓i_isBridge, ↓i_isTheme, ↓i_isBarge, i_lt, i_le, i_eq, i_clamp, i_m1, Int32.toInt_toInt64, Int32.toInt_add, Int32.toInt_sub, Int32.toInt_mul, bm32, Int32.reduceToInt, Int64.reduceToInt, Nat.reduceLT, Nat.reduceEqDiff, reduceIte, u_eq, u_ne, w_4m0_2, w_4m0_3, w_4m0_4, w_4m0_5, w_4m0_6, w_4m0_14, w_4m0_42, o_25_40, o_25_2, o_25_3, o_25_4, o_25_5, o_25_6, o_25_14, o_25_42] <;> omega)), (by first | omega | (simp (disch := omega) only [↓i_in, ↓i_isCouple, ↓i_isBridge, ↓i_isTheme, ↓i_isBarge, i_lt, i_le, i_eq, i_clamp, i_m1, Int32.toInt_toInt64, Int32.toInt_add, Int32.toInt_sub, Int32.toInt_mul, bm32, Int32.reduceToInt, Int64.reduceToInt, Nat.reduceLT, Nat.reduceEqDiff, reduceIte, u_eq, u_ne, w_4m0_2, w_4m0_3, w_4m0_4, w_4m0_5, w_4m0_6, w_4m0_14, w_4m0_42, o_25_40, o_25_2, o_25_3, o_25_4, o_25_5, o_25_6, o_25_14, o_25_42] <;> omega))⟩) _ _ _ _ _ _ e
          · rw [if_neg c_21] at e
            try simp (disch := omega) only [↓i_in, ↓i_isCouple, ↓i_isBridge, ↓i_isTheme, ↓i_isBarge, i_lt, i_le, i_eq, i_clamp, i_m1, Int32.toInt_toInt64, Int32.toInt_add, Int32.toInt_sub, Int32.toInt_mul, bm32, Int32.reduceToInt, Int64.reduceToInt, Nat.reduceLT, Nat.reduceEqDiff, reduceIte, u_eq, u_ne, w_4m0_2, w_4m0_3, w_4m0_4, w_4m0_5, w_4m0_6, w_4m0_14, w_4m0_42] at c_21
            have q_58 := FR_stay (B := (G 6).toInt) (by first | omega | (simp (disch := omega) only [↓i_in, ↓i_isCouple, ↓i_isBridge, ↓i_isTheme, ↓i_isBarge, i_lt, i_le, i_eq, i_clamp, i_m1, Int32.toInt_toInt64, Int32.toInt_add, Int32.toInt_sub, Int32.toInt_mul, bm32, Int32.reduceToInt, Int64.reduceToInt, Nat.reduceLT, Nat.reduceEqDiff, reduceIte, u_eq, u_ne, w_4m0_2, w_4m0_3, w_4m0_4, w_4m0_5, w_4m0_6, w_4m0_14, w_4m0_42] <;> omega)) (by omega) i_5 (by first | omega | (simp (disch := omega) only [↓i_in, ↓i_isCouple, ↓i_isBridge, ↓i_isTheme, ↓i_isBarge, i_lt, i_le, i_eq, i_clamp, i_m1, Int32.toInt_toInt64, Int32.toInt_add, Int32.toInt_sub, Int32.toInt_mul, bm32, Int32.reduceToInt, Int64.reduceToInt, Nat.reduceLT, Nat.reduceEqDiff, reduceIte, u_eq, u_ne, w_4m0_2, w_4m0_3, w_4m0_4, w_4m0_5, w_4m0_6, w_4m0_14, w_4m0_42] <;> omega))
            obtain ⟨q_58a, q_58b⟩ := q_58
            exact ih w_4l2 w_4l1 w_4m0 w_4m1 (upd w_4m2 (w_4l1 : Int32).toNatClampNeg ((w_4m2 (w_4l1 : Int32).toNatClampNeg) + 1)) w_4m3 (⟨i_1, i_2, (by first | omega | (simp (disch := omega) only [↓i_in, ↓i_isCouple, ↓i_isBridge, ↓i_isTheme, ↓i_isBarge, i_lt, i_le, i_eq, i_clamp, i_m1, Int32.toInt_toInt64, Int32.toInt_add, Int32.toInt_sub, Int32.toInt_mul, bm32, Int32.reduceToInt, Int64.reduceToInt, Nat.reduceLT, Nat.reduceEqDiff, reduceIte, u_eq, u_ne, w_4m0_2, w_4m0_3, w_4m0_4, w_4m0_5, w_4m0_6, w_4m0_14, w_4m0_42] <;> omega)), (by first | omega | (simp (disch := omega) only [↓i_in, ↓i_isCouple, ↓i_isBridge, ↓i_isTheme, ↓i_isBarge, i_lt, i_le, i_eq, i_clamp, i_m1, Int32.toInt_toInt64, Int32.toInt_add, Int32.toInt_sub, Int32.toInt_mul, bm32, Int32.reduceToInt, Int64.reduceToInt, Nat.reduceLT, Nat.reduceEqDiff, reduceIte, u_eq, u_ne, w_4m0_2, w_4m0_3, w_4m0_4, w_4m0_5, w_4m0_6, w_4m0_14, w_4m0_42] <;> omega)), q_58a, (by first | omega | (simp (disch := omega) only [↓i_in, ↓i_isCouple, ↓i_isBridge, ↓i_isTheme, ↓i_isBarge, i_lt, i_le, i_eq, i_clamp, i_m1, Int32.toInt_toInt64, Int32.toInt_add, Int32.toInt_sub, Int32.toInt_mul, bm32, Int32.reduceToInt, Int64.reduceToInt, Nat.reduceLT, Nat.reduceEqDiff, reduceIte, u_eq, u_ne, w_4m0_2, w_4m0_3, w_4m0_4, w_4m0_5, w_4m0_6, w_4m0_14, w_4m0_42] <;> omega)), (by first | omega | (simp (disch := omega) only [↓i_in, ↓i_isCouple, ↓i_isBridge, ↓i_isTheme, ↓i_isBarge, i_lt, i_le, i_eq, i_clamp, i_m1, Int32.toInt_toInt64, Int32.toInt_add, Int32.toInt_sub, Int32.toInt_mul, bm32, Int32.reduceToInt, Int64.reduceToInt, Nat.reduceLT, Nat.reduceEqDiff, reduceIte, u_eq, u_ne, w_4m0_2, w_4m0_3, w_4m0_4, w_4m0_5, w_4m0_6, w_4m0_14, w_4m0_42] <;> omega))⟩) _ _ _ _ _ _ e
end
section
theorem FR_init {B : Int} {f : Nat → Int32} (hB : 0 ≤ B) : FR B (0 : Int32).toInt (upd f (0 : Int32).toNatClampNeg (-1)) := by
  have e : (0 : Int32).toInt = 0 := by decide
  intro j hj
  rw [e] at hj
  have h0 : j = 0 := by omega
  subst h0
  rw [show (0 : Int32).toNatClampNeg = 0 by decide, pk_us, i_m1]
  refine ⟨by omega, by omega, fun z => ?_⟩
  rw [e] at z
  omega
theorem MS_init {f : Nat → Int32} : MS (fm (upd f (0 : Int32).toNatClampNeg (-1)) ((0 : Int32).toInt + 1).toNat) 1000000000000 := by
  unfold MS
  rw [show ((0 : Int32).toInt + 1).toNat = 0 + 1 by decide, fm_s, show (0 : Int32).toNatClampNeg = 0 by decide, pk_us, i_m1, show fm (upd f 0 (-1)) 0 = 0 from rfl]
  decide
theorem s_findOrder {G f0 f10 f8 f11 f12 f38 f39 : Nat → Int32} (h_0 : GI G) (h_1 : RI f11) (h_2 : WI f0) : S_m_findOrder G f0 f10 f8 f11 f12 f38 f39 := by
  unfold S_m_findOrder
  have h0 := h_0
  obtain ⟨_, _, _, _, ⟨e1, e2⟩, _⟩ := h0
  refine ⟨s_copy (by decide) (by decide) (by decide) (by decide), ?_⟩
  refine sl_findOrder_28 h_0 h_1 (fun _ _ _ _ _ _ _ => trivial) 1000000000000 0 0 (upd (upd G 40 0) 41 0) (f_m_copy f0 0 42) (upd f38 (0 : Int32).toNatClampNeg (-1)) f39 ⟨QF_upd (QF_upd (QF.refl _) (by decide) (by decide)) (by decide) (by decide), p_copy h_2 (by decide) (by decide) (by decide) (by decide), by decide, by decide, FR_init e1, (by rw [u_ne (by decide), pk_us]; decide), (by rw [u_ne (by decide), pk_us]; decide)⟩ MS_init
theorem p_findOrder {G f0 f10 f8 f11 f12 f38 f39 : Nat → Int32} (h_0 : GI G) (h_1 : RI f11) (h_2 : WI f0) : ∀ (u1 u2 u3 u4 : Nat → Int32), f_m_findOrder G f0 f10 f8 f11 f12 f38 f39 = (u1, u2, u3, u4) → QF G u1 ∧ WI u2 ∧ (0 ≤ (u1 40).toInt) ∧ ((u1 40).toInt ≤ 7) := by
  intro u1 u2 u3 u4 e
  unfold f_m_findOrder at e
  have h0 := h_0
  obtain ⟨_, _, _, _, ⟨e1, e2⟩, _⟩ := h0
  generalize hx : f_m_findOrder_28 _ _ _ _ _ _ _ _ _ _ _ = x at e
  obtain ⟨a, b, m0, m1, m2, m3⟩ := x
  have q := pl_findOrder_28 h_0 h_1 1000000000000 0 0 (upd (upd G 40 0) 41 0) (f_m_copy f0 0 42) (upd f38 (0 : Int32).toNatClampNeg (-1)) f39 ⟨QF_upd (QF_upd (QF.refl _) (by decide) (by decide)) (by decide) (by decide), p_copy h_2 (by decide) (by decide) (by decide) (by decide), by decide, by decide, FR_init e1, (by rw [u_ne (by decide), pk_us]; decide), (by rw [u_ne (by decide), pk_us]; decide)⟩ _ _ _ _ _ _ hx
  replace e : (m0, m1, m2, m3) = (u1, u2, u3, u4) := e
  cases e
  exact ⟨q.1, q.2.1, q.2.2.2.2.2.1, q.2.2.2.2.2.2⟩
set_option maxHeartbeats 4000000 in
theorem s_order {G : Nat → Int32} {f0 : Nat → Int32} {f10 : Nat → Int32} {f8 : Nat → Int32} {f11 : Nat → Int32} {f12 : Nat → Int32} {f38 : Nat → Int32} {f39 : Nat → Int32} {i_ : Int32} (h_0 : GI G) (h_1 : RI f11) (h_2 : WI f0) : S_m_order G f0 f10 f8 f11 f12 f38 f39 i_ := by
  unfold S_m_order
  have h_0_g := h_0
  obtain ⟨⟨h_0_2a, h_0_2b⟩, ⟨h_0_3a, h_0_3b⟩, ⟨h_0_4a, h_0_4b⟩, ⟨h_0_5a, h_0_5b⟩, ⟨h_0_6a, h_0_6b⟩, ⟨h_0_14a, h_0_14b⟩, ⟨h_0_42a, h_0_42b⟩⟩ := h_0_g
  refine ⟨(s_findOrder h_0 h_1 h_2), ?_⟩
  intro o_4 o_5 o_6 o_7 e_1
  have p_2 := p_findOrder h_0 h_1 h_2 _ _ _ _ e_1.symm
  obtain ⟨i_3, i_4, i_5, i_6⟩ := p_2
  obtain ⟨o_4_2, o_4_3, o_4_4, o_4_5, o_4_6, o_4_14, o_4_42⟩ := QFs i_3
  refine ⟨fun c_7 => ?_, fun c_7 => ?_⟩
  · exact trivial
  · skip
    try simp (disch := omega) only [↓i_in, ↓i_isCouple, ↓i_isBridge, ↓i_isTheme, ↓i_isBarge, i_lt, i_le, i_eq, i_clamp, i_m1, Int32.toInt_toInt64, Int32.toInt_add, Int32.toInt_sub, Int32.toInt_mul, bm32, Int32.reduceToInt, Int64.reduceToInt, Nat.reduceLT, Nat.reduceEqDiff, reduceIte, u_eq, u_ne, o_4_2, o_4_3, o_4_4, o_4_5, o_4_6, o_4_14, o_4_42] at c_7
    refine ⟨s_in, ?_⟩
    refine ⟨fun c_8 => ?_, fun c_8 => ?_⟩
    · exact trivial
    · skip
      try simp (disch := omega) only [↓i_in, ↓i_isCouple, ↓i_isBridge, ↓i_isTheme, ↓i_isBarge, i_lt, i_le, i_eq, i_clamp, i_m1, Int32.toInt_toInt64, Int32.toInt_add, Int32.toInt_sub, Int32.toInt_mul, bm32, Int32.reduceToInt, Int64.reduceToInt, Nat.reduceLT, Nat.reduceEqDiff, reduceIte, u_eq, u_ne, o_4_2, o_4_3, o_4_4, o_4_5, o_4_6, o_4_14, o_4_42] at c_8
      refine ⟨vp_in_iff.mpr (by first | omega | (simp (disch := omega) only [↓i_in, ↓i_isCouple, ↓i_isBridge, ↓i_isTheme, ↓i_isBarge, i_lt, i_le, i_eq, i_clamp, i_m1, Int32.toInt_toInt64, Int32.toInt_add, Int32.toInt_sub, Int32.toInt_mul, bm32, Int32.reduceToInt, Int64.reduceToInt, Nat.reduceLT, Nat.reduceEqDiff, reduceIte, u_eq, u_ne, o_4_2, o_4_3, o_4_4, o_4_5, o_4_6, o_4_14, o_4_42] <;> omega)), ?_⟩
      exact trivial
set_option maxHeartbeats 4000000 in
theorem p_order {G : Nat → Int32} {f0 : Nat → Int32} {f10 : Nat → Int32} {f8 : Nat → Int32} {f11 : Nat → Int32} {f12 : Nat → Int32} {f38 : Nat → Int32} {f39 : Nat → Int32} {i_ : Int32} (h_0 : GI G) (h_1 : RI f11) (h_2 : WI f0) : ∀ (r : Int32) (u1 : (Nat → Int32)) (u2 : (Nat → Int32)) (u3 : (Nat → Int32)) (u4 : (Nat → Int32)), f_m_order G f0 f10 f8 f11 f12 f38 f39 i_ = (r, u1, u2, u3, u4) → QF G u1 ∧ WI u2 := by
  have h_0_g := h_0
  obtain ⟨⟨h_0_2a, h_0_2b⟩, ⟨h_0_3a, h_0_3b⟩, ⟨h_0_4a, h_0_4b⟩, ⟨h_0_5a, h_0_5b⟩, ⟨h_0_6a, h_0_6b⟩, ⟨h_0_14a, h_0_14b⟩, ⟨h_0_42a, h_0_42b⟩⟩ := h_0_g
  intro r u1 u2 u3 u4 e
  unfold f_m_order at e
  generalize x_1 : (f_m_findOrder G f0 f10 f8 f11 f12 f38 f39) = z_2 at e
  obtain ⟨o_4, o_5, o_6, o_7⟩ := z_2
  replace e : ((if i_ = (-1) then ((o_4 41), o_4, o_5, o_6, o_7) else (if (f_m_in i_.toInt64 0 ((((o_4 40) - 1)).toInt64)) = 0 then ((-1), o_4, o_5, o_6, o_7) else ((o_7 (i_ : Int32).toNatClampNeg), o_4, o_5, o_6, o_7)))) = (r, u1, u2, u3, u4) := e
  have p_3 := p_findOrder h_0 h_1 h_2 _ _ _ _ x_1
  obtain ⟨i_4, i_5, i_6, i_7⟩ := p_3
  obtain ⟨o_4_2, o_4_3, o_4_4, o_4_5, o_4_6, o_4_14, o_4_42⟩ := QFs i_4
  by_cases c_8 : i_ = (-1)
  · rw [if_pos c_8] at e
    try simp (disch := omega) only [↓i_in, ↓i_isCouple, ↓i_isBridge, ↓i_isTheme, ↓i_isBarge, i_lt, i_le, i_eq, i_clamp, i_m1, Int32.toInt_toInt64, Int32.toInt_add, Int32.toInt_sub, Int32.toInt_mul, bm32, Int32.reduceToInt, Int64.reduceToInt, Nat.reduceLT, Nat.reduceEqDiff, reduceIte, u_eq, u_ne, o_4_2, o_4_3, o_4_4, o_4_5, o_4_6, o_4_14, o_4_42] at c_8
    cases e
    exact ⟨i_4, i_5⟩
  · rw [if_neg c_8] at e
    try simp (disch := omega) only [↓i_in, ↓i_isCouple, ↓i_isBridge, ↓i_isTheme, ↓i_isBarge, i_lt, i_le, i_eq, i_clamp, i_m1, Int32.toInt_toInt64, Int32.toInt_add, Int32.toInt_sub, Int32.toInt_mul, bm32, Int32.reduceToInt, Int64.reduceToInt, Nat.reduceLT, Nat.reduceEqDiff, reduceIte, u_eq, u_ne, o_4_2, o_4_3, o_4_4, o_4_5, o_4_6, o_4_14, o_4_42] at c_8
    by_cases c_9 : (f_m_in i_.toInt64 0 ((((o_4 40) - 1)).toInt64)) = 0
    · rw [if_pos c_9] at e
      try simp (disch := omega) only [↓i_in, ↓i_isCouple, ↓i_isBridge, ↓i_isTheme, ↓i_isBarge, i_lt, i_le, i_eq, i_clamp, i_m1, Int32.toInt_toInt64, Int32.toInt_add, Int32.toInt_sub, Int32.toInt_mul, bm32, Int32.reduceToInt, Int64.reduceToInt, Nat.reduceLT, Nat.reduceEqDiff, reduceIte, u_eq, u_ne, o_4_2, o_4_3, o_4_4, o_4_5, o_4_6, o_4_14, o_4_42] at c_9
      cases e
      exact ⟨i_4, i_5⟩
    · rw [if_neg c_9] at e
      try simp (disch := omega) only [↓i_in, ↓i_isCouple, ↓i_isBridge, ↓i_isTheme, ↓i_isBarge, i_lt, i_le, i_eq, i_clamp, i_m1, Int32.toInt_toInt64, Int32.toInt_add, Int32.toInt_sub, Int32.toInt_mul, bm32, Int32.reduceToInt, Int64.reduceToInt, Nat.reduceLT, Nat.reduceEqDiff, reduceIte, u_eq, u_ne, o_4_2, o_4_3, o_4_4, o_4_5, o_4_6, o_4_14, o_4_42] at c_9
      cases e
      exact ⟨i_4, i_5⟩
end
section
theorem orb_in {s c : Int32} (h1 : 0 ≤ s.toInt) (h2 : s.toInt < 64) (h3 : 0 ≤ c.toInt) (h4 : c.toInt < 6) : 0 ≤ (s ||| ((1 : Int32) <<< (c &&& 31))).toInt ∧ (s ||| ((1 : Int32) <<< (c &&& 31))).toInt < 64 := by
  have key : ∀ a, a < 64 → ∀ k, k < 6 → 0 ≤ (nI a ||| ((1 : Int32) <<< (nI k &&& 31))).toInt ∧ (nI a ||| ((1 : Int32) <<< (nI k &&& 31))).toInt < 64 := by decide +kernel
  obtain ⟨a, ha, rfl⟩ := nI_of (x := s) (by rw [i_lt]; simp only [Int32.reduceToInt]; omega)
  obtain ⟨k, hk, rfl⟩ := nI_of (x := c) (by rw [i_lt]; simp only [Int32.reduceToInt]; omega)
  rw [nI_toInt ha] at h2
  rw [nI_toInt hk] at h4
  exact key a (by omega) k (by omega)
def WT (C L : Nat → Int32) (e s v c : Int32) : Prop := f_m_has s c = 0 ∧ ¬ C (((6 * e) + c) : Int32).toNatClampNeg = 1000000000 ∧ ¬ L (((64 * (e + 1)) + (s ||| ((1 : Int32) <<< (c &&& 31)))) : Int32).toNatClampNeg = 1000000000 ∧ C (((6 * e) + c) : Int32).toNatClampNeg + L (((64 * (e + 1)) + (s ||| ((1 : Int32) <<< (c &&& 31)))) : Int32).toNatClampNeg = v
def GD (L : Nat → Int32) (e s c : Int32) : Prop := (0 ≤ c.toInt ∧ c.toInt < 6) ∧ ¬ L (((64 * (e + 1)) + (s ||| ((1 : Int32) <<< (c &&& 31)))) : Int32).toNatClampNeg = 1000000000
def WS (C L : Nat → Int32) (e s c l : Int32) : Prop := GD L e s l ∨ ∃ d : Int32, 0 ≤ d.toInt ∧ d.toInt ≤ c.toInt ∧ WT C L e s (L (((64 * e) + s) : Int32).toNatClampNeg) d
theorem dec1 {c : Int32} (h : 0 ≤ c.toInt) : (c + (-1)).toInt = c.toInt - 1 := by
  have := c.toInt_lt
  simp (disch := omega) only [Int32.toInt_add, bm32, i_m1]
  omega
theorem WS_next {C L : Nat → Int32} {e s c l : Int32} (h : WS C L e s c l) (hc : 0 ≤ c.toInt) (hn : ¬ WT C L e s (L (((64 * e) + s) : Int32).toNatClampNeg) c) : WS C L e s (c + (-1)) l := by
  cases h with
  | inl h => exact Or.inl h
  | inr h =>
    obtain ⟨d, h1, h2, h3⟩ := h
    have hne : ¬ d.toInt = c.toInt := fun q => hn (by rw [← i_eq] at q; rw [← q]; exact h3)
    have := dec1 hc
    exact Or.inr ⟨d, h1, by omega, h3⟩
set_option maxHeartbeats 4000000 in
theorem sl_who_279 {G C L : Nat → Int32} {e s : Int32} {K : Int32 → Int32 → (Nat → Int32) → (Nat → Int32) → (Nat → Int32) → Prop} (he : 0 ≤ e.toInt) (he2 : e.toInt ≤ 5) (hs : 0 ≤ s.toInt) (hs2 : s.toInt < 64) (hK : ∀ c l m, QG G m → GD L e s l → K c l m C L) : ∀ (n : Nat) (c l : Int32) (m : Nat → Int32), QG G m → -1 ≤ c.toInt → c.toInt ≤ 5 → WS C L e s c l → (c.toInt + 1).toNat < n → S_m_who_279 e s K n c l m C L := by
  intro n
  induction n with
  | zero => intro c l m _ _ _ _ hm; exact absurd hm (Nat.not_lt_zero _)
  | succ n ih =>
    intro c l m q h1 h2 hW hm
    rw [S_m_who_279_s]
    refine ⟨fun c1 => hK _ _ _ q ?_, fun c1 => ?_⟩
    · simp only [i_lt, Int32.reduceToInt] at c1
      cases hW with
      | inl h => exact h
      | inr h =>
        obtain ⟨d, h3, h4, _⟩ := h
        omega
    · simp only [i_lt, Int32.reduceToInt] at c1
      have c0 : 0 ≤ c.toInt := by omega
      have hd := dec1 c0
      obtain ⟨o1, o2⟩ := orb_in hs hs2 c0 (by omega)
      refine ⟨s_has, fun c2 => ⟨vp_in_iff.mpr (by first | omega | (simp (disch := omega) only [↓i_in, ↓i_isCouple, ↓i_isBridge, ↓i_isTheme, ↓i_isBarge, i_lt, i_le, i_eq, i_clamp, i_m1, Int32.toInt_toInt64, Int32.toInt_add, Int32.toInt_sub, Int32.toInt_mul, bm32, Int32.reduceToInt, Int64.reduceToInt, Nat.reduceLT, Nat.reduceEqDiff, reduceIte, u_eq, u_ne] <;> omega)), fun c3 => ih _ _ _ q (by omega) (by omega) (WS_next hW c0 (fun w => w.2.1 c3)) (by omega), fun c3 => ⟨vp_in_iff.mpr (by first | omega | (simp (disch := omega) only [↓i_in, ↓i_isCouple, ↓i_isBridge, ↓i_isTheme, ↓i_isBarge, i_lt, i_le, i_eq, i_clamp, i_m1, Int32.toInt_toInt64, Int32.toInt_add, Int32.toInt_sub, Int32.toInt_mul, bm32, Int32.reduceToInt, Int64.reduceToInt, Nat.reduceLT, Nat.reduceEqDiff, reduceIte, u_eq, u_ne] <;> omega)), fun c4 => ih _ _ _ q (by omega) (by omega) (WS_next hW c0 (fun w => w.2.2.1 c4)) (by omega), fun c4 => ⟨vp_in_iff.mpr (by first | omega | (simp (disch := omega) only [↓i_in, ↓i_isCouple, ↓i_isBridge, ↓i_isTheme, ↓i_isBarge, i_lt, i_le, i_eq, i_clamp, i_m1, Int32.toInt_toInt64, Int32.toInt_add, Int32.toInt_sub, Int32.toInt_mul, bm32, Int32.reduceToInt, Int64.reduceToInt, Nat.reduceLT, Nat.reduceEqDiff, reduceIte, u_eq, u_ne] <;> omega)), vp_in_iff.mpr (by first | omega | (simp (disch := omega) only [↓i_in, ↓i_isCouple, ↓i_isBridge, ↓i_isTheme, ↓i_isBarge, i_lt, i_le, i_eq, i_clamp, i_m1, Int32.toInt_toInt64, Int32.toInt_add, Int32.toInt_sub, Int32.toInt_mul, bm32, Int32.reduceToInt, Int64.reduceToInt, Nat.reduceLT, Nat.reduceEqDiff, reduceIte, u_eq, u_ne] <;> omega)), vp_in_iff.mpr (by first | omega | (simp (disch := omega) only [↓i_in, ↓i_isCouple, ↓i_isBridge, ↓i_isTheme, ↓i_isBarge, i_lt, i_le, i_eq, i_clamp, i_m1, Int32.toInt_toInt64, Int32.toInt_add, Int32.toInt_sub, Int32.toInt_mul, bm32, Int32.reduceToInt, Int64.reduceToInt, Nat.reduceLT, Nat.reduceEqDiff, reduceIte, u_eq, u_ne] <;> omega)), fun c5 => ih _ _ _ q (by omega) (by omega) (Or.inl ⟨⟨c0, by omega⟩, c4⟩) (by omega), fun c5 => ih _ _ _ q (by omega) (by omega) (WS_next hW c0 (fun w => c5 w.2.2.2)) (by omega)⟩⟩⟩, fun c2 => ih _ _ _ q (by omega) (by omega) (WS_next hW c0 (fun w => c2 w.1)) (by omega)⟩
def WP (n : Int) (C L : Nat → Int32) (e s : Int32) : Prop := ¬ L (((64 * e) + s) : Int32).toNatClampNeg = 1000000000 → ∃ c : Int32, 0 ≤ c.toInt ∧ c.toInt < n ∧ WT C L e s (L (((64 * e) + s) : Int32).toNatClampNeg) c
def TR (n m : Int) (C L : Nat → Int32) (k : Int) : Prop := ∀ e s : Int32, 0 ≤ e.toInt → e.toInt ≤ m → 0 ≤ s.toInt → s.toInt < 64 → k ≤ e.toInt → WP n C L e s
theorem inc1 {c : Int32} (h0 : -10 ≤ c.toInt) (h : c.toInt ≤ 1000) : (c + 1).toInt = c.toInt + 1 := by
  simp (disch := omega) only [Int32.toInt_add, bm32, Int32.reduceToInt]
set_option maxHeartbeats 4000000 in
theorem sl_who_262 {G C L : Nat → Int32} {b_ : Int32} {M : Int} {K : Int32 → Int32 → Int32 → (Nat → Int32) → (Nat → Int32) → (Nat → Int32) → Prop} (hG : GI G) (hb : b_.toInt ≤ M) (hM : M ≤ 5) (hT : TR (G 5).toInt M C L 0) (hK : ∀ e l s m, K e l s m C L) : ∀ (n : Nat) (e l s : Int32) (m : Nat → Int32), QG G m → 0 ≤ e.toInt → e.toInt ≤ 6 → 0 ≤ s.toInt → s.toInt < 64 → (e.toInt ≤ b_.toInt → ¬ L (((64 * e) + s) : Int32).toNatClampNeg = 1000000000) → (7 - e.toInt).toNat < n → S_m_who_262 b_ K n e l s m C L := by
  intro n
  induction n with
  | zero => intro e l s m _ _ _ _ _ _ hm; exact absurd hm (Nat.not_lt_zero _)
  | succ n ih =>
    intro e l s m q h1 h2 h3 h4 hL hm
    rw [S_m_who_262_s]
    refine ⟨fun _ => hK _ _ _ _, fun c1 => ?_⟩
    simp only [i_lt] at c1
    have hi := inc1 (c := e) (by omega) (by omega)
    have hg := hG
    obtain ⟨_, _, _, ⟨g1, g2⟩, _⟩ := hg
    obtain ⟨_, _, _, m5, _, _, _⟩ := QGs q
    have hmm : (m 5 - 1).toInt = (G 5).toInt - 1 := by
      rw [m5]
      simp (disch := omega) only [Int32.toInt_sub, bm32, Int32.reduceToInt]
    obtain ⟨d, d0, d1, wt⟩ := hT e s h1 (by omega) h3 h4 h1 (hL (by omega))
    refine sl_who_279 h1 (by omega) h3 h4 (fun c' l' m' q' gd => ?_) 10 _ _ _ q (by omega) (by omega) (Or.inr ⟨d, d0, by omega, wt⟩) (by omega)
    obtain ⟨o1, o2⟩ := orb_in h3 h4 gd.1.1 gd.1.2
    exact ih _ _ _ _ q' (by omega) (by omega) o1 o2 (fun _ => gd.2) (by omega)
def WQ (n : Int) (C L : Nat → Int32) (e s v : Int32) : Prop := ¬ v = 1000000000 → ∃ c : Int32, 0 ≤ c.toInt ∧ c.toInt < n ∧ WT C L e s v c
theorem WQ_b {n : Int} {C L : Nat → Int32} {e s : Int32} : WQ n C L e s 1000000000 := fun h => absurd rfl h
set_option maxHeartbeats 4000000 in
theorem sl_who_66 {G C L : Nat → Int32} {m_ e s : Int32} {K : Int32 → Int32 → (Nat → Int32) → (Nat → Int32) → (Nat → Int32) → Prop} (hG : GI G) (he : 0 ≤ e.toInt) (hM : m_.toInt ≤ 5) (hs : 0 ≤ s.toInt) (hs2 : s.toInt < 64) (hK : ∀ c v m, QG G m → (e.toInt ≤ m_.toInt → WQ (G 5).toInt C L e s v) → K c v m C L) : ∀ (n : Nat) (c v : Int32) (m : Nat → Int32), QG G m → 0 ≤ c.toInt → c.toInt ≤ 6 → (e.toInt ≤ m_.toInt → WQ (G 5).toInt C L e s v) → (7 - c.toInt).toNat < n → S_m_who_66 m_ e s K n c v m C L := by
  intro n
  induction n with
  | zero => intro c v m _ _ _ _ hm; exact absurd hm (Nat.not_lt_zero _)
  | succ n ih =>
    intro c v m q h1 h2 hW hm
    rw [S_m_who_66_s]
    have hg := hG
    obtain ⟨_, _, _, ⟨g1, g2⟩, _⟩ := hg
    obtain ⟨_, _, _, m5, _, _, _⟩ := QGs q
    have hi := inc1 (c := c) (by omega) (by omega)
    refine ⟨fun c1 => hK _ _ _ q hW, fun c1 => ⟨fun c2 => hK _ _ _ q hW, fun c2 => ?_⟩⟩
    simp only [i_lt, i_le, m5] at c1 c2
    obtain ⟨o1, o2⟩ := orb_in hs hs2 h1 (by omega)
    refine ⟨s_has, fun c3 => ⟨vp_in_iff.mpr (by first | omega | (simp (disch := omega) only [↓i_in, ↓i_isCouple, ↓i_isBridge, ↓i_isTheme, ↓i_isBarge, i_lt, i_le, i_eq, i_clamp, i_m1, Int32.toInt_toInt64, Int32.toInt_add, Int32.toInt_sub, Int32.toInt_mul, bm32, Int32.reduceToInt, Int64.reduceToInt, Nat.reduceLT, Nat.reduceEqDiff, reduceIte, u_eq, u_ne] <;> omega)), fun c4 => ⟨fun _ => ih _ _ _ q (by omega) (by omega) hW (by omega), fun _ => ih _ _ _ q (by omega) (by omega) (fun _ => WQ_b) (by omega)⟩, fun c4 => ⟨vp_in_iff.mpr (by first | omega | (simp (disch := omega) only [↓i_in, ↓i_isCouple, ↓i_isBridge, ↓i_isTheme, ↓i_isBarge, i_lt, i_le, i_eq, i_clamp, i_m1, Int32.toInt_toInt64, Int32.toInt_add, Int32.toInt_sub, Int32.toInt_mul, bm32, Int32.reduceToInt, Int64.reduceToInt, Nat.reduceLT, Nat.reduceEqDiff, reduceIte, u_eq, u_ne] <;> omega)), fun c5 => ⟨fun _ => ih _ _ _ q (by omega) (by omega) hW (by omega), fun _ => ih _ _ _ q (by omega) (by omega) (fun _ => WQ_b) (by omega)⟩, fun c5 => ⟨vp_in_iff.mpr (by first | omega | (simp (disch := omega) only [↓i_in, ↓i_isCouple, ↓i_isBridge, ↓i_isTheme, ↓i_isBarge, i_lt, i_le, i_eq, i_clamp, i_m1, Int32.toInt_toInt64, Int32.toInt_add, Int32.toInt_sub, Int32.toInt_mul, bm32, Int32.reduceToInt, Int64.reduceToInt, Nat.reduceLT, Nat.reduceEqDiff, reduceIte, u_eq, u_ne] <;> omega)), fun _ => ih _ _ _ q (by omega) (by omega) hW (by omega), fun _ => ih _ _ _ q (by omega) (by omega) (fun _ _ => ⟨c, h1, by omega, c3, c5, c4, Int32.add_comm _ _⟩) (by omega)⟩⟩⟩, fun c3 => ⟨fun _ => ih _ _ _ q (by omega) (by omega) hW (by omega), fun _ => ih _ _ _ q (by omega) (by omega) (fun _ => WQ_b) (by omega)⟩⟩
def TL (n m : Int) (C L : Nat → Int32) (e k : Int) : Prop := ∀ x s : Int32, 0 ≤ x.toInt → x.toInt ≤ m → 0 ≤ s.toInt → s.toInt < 64 → (e < x.toInt ∨ (x.toInt = e ∧ s.toInt < k)) → WP n C L x s
theorem WT_upd {C L : Nat → Int32} {e s v c w : Int32} {i : Nat} (h : ¬ (((64 * (e + 1)) + (s ||| ((1 : Int32) <<< (c &&& 31)))) : Int32).toNatClampNeg = i) (q : WT C L e s v c) : WT C (upd L i w) e s v c := by
  unfold WT at q ⊢
  rw [u_ne h]
  exact q
set_option maxHeartbeats 4000000 in
theorem TL_upd {n m : Int} {C L : Nat → Int32} {e k w : Int32} (hn : n ≤ 6) (hm : m ≤ 5) (he : 0 ≤ e.toInt) (he2 : e.toInt ≤ 6) (hk : 0 ≤ k.toInt) (hk2 : k.toInt < 64) (h : TL n m C L e.toInt k.toInt) (hq : e.toInt ≤ m → WQ n C L e k w) : TL n m C (upd L (((64 * e) + k) : Int32).toNatClampNeg w) e.toInt (k.toInt + 1) := by
  intro x s x0 x1 s0 s1 hx
  have hix : ∀ c : Int32, 0 ≤ c.toInt → c.toInt < n → ¬ (((64 * (x + 1)) + (s ||| ((1 : Int32) <<< (c &&& 31)))) : Int32).toNatClampNeg = (((64 * e) + k) : Int32).toNatClampNeg := by
    intro c c0 c1
    obtain ⟨o1, o2⟩ := orb_in s0 s1 c0 (by omega)
    have hi := inc1 (c := x) (by omega) (by omega)
    simp (disch := omega) only [i_clamp, Int32.toInt_add, Int32.toInt_mul, bm32, Int32.reduceToInt]
    omega
  by_cases hc : (((64 * x) + s) : Int32).toNatClampNeg = (((64 * e) + k) : Int32).toNatClampNeg
  · have hxe : x.toInt = e.toInt ∧ s.toInt = k.toInt := by
      simp (disch := omega) only [i_clamp, Int32.toInt_add, Int32.toInt_mul, bm32, Int32.reduceToInt] at hc
      omega
    obtain ⟨e1, e2⟩ := hxe
    rw [← i_eq] at e1 e2
    subst e1
    subst e2
    intro hne
    rw [pk_us] at hne ⊢
    obtain ⟨c, c0, c1, wt⟩ := hq x1 hne
    exact ⟨c, c0, c1, WT_upd (hix c c0 c1) wt⟩
  · intro hne
    rw [u_ne hc] at hne ⊢
    have hx2 : e.toInt < x.toInt ∨ (x.toInt = e.toInt ∧ s.toInt < k.toInt) := by
      simp (disch := omega) only [i_clamp, Int32.toInt_add, Int32.toInt_mul, bm32, Int32.reduceToInt] at hc
      omega
    obtain ⟨c, c0, c1, wt⟩ := h x s x0 x1 s0 s1 hx2 hne
    exact ⟨c, c0, c1, WT_upd (hix c c0 c1) wt⟩
set_option maxHeartbeats 4000000 in
theorem sl_who_42 {G C : Nat → Int32} {m_ e : Int32} {K : Int32 → (Nat → Int32) → (Nat → Int32) → (Nat → Int32) → Prop} (hG : GI G) (he : 0 ≤ e.toInt) (he2 : e.toInt ≤ 6) (hM : m_.toInt ≤ 5) (hK : ∀ s m L, QG G m → TR (G 5).toInt m_.toInt C L e.toInt → K s m C L) : ∀ (n : Nat) (s : Int32) (m L : Nat → Int32), QG G m → 0 ≤ s.toInt → s.toInt ≤ 64 → TL (G 5).toInt m_.toInt C L e.toInt s.toInt → S_m_who_42 m_ e K n s m C L := by
  intro n
  induction n with
  | zero => intro s m L _ _ _ _; exact trivial
  | succ n ih =>
    intro s m L q h1 h2 hT
    rw [S_m_who_42_s]
    have hg := hG
    obtain ⟨_, _, _, ⟨g1, g2⟩, _⟩ := hg
    have hi := inc1 (c := s) (by omega) (by omega)
    refine ⟨fun c1 => hK _ _ _ q ?_, fun c1 => ⟨fun c2 => ?_, fun c2 => ?_⟩⟩
    · simp only [i_le, Int32.reduceToInt] at c1
      intro x t x0 x1 t0 t1 hx
      exact hT x t x0 x1 t0 t1 (by omega)
    · simp only [i_le, Int32.reduceToInt] at c1 c2
      refine sl_who_66 hG he hM h1 (by omega) (fun c v m' q' wq => ⟨vp_in_iff.mpr (by first | omega | (simp (disch := omega) only [↓i_in, ↓i_isCouple, ↓i_isBridge, ↓i_isTheme, ↓i_isBarge, i_lt, i_le, i_eq, i_clamp, i_m1, Int32.toInt_toInt64, Int32.toInt_add, Int32.toInt_sub, Int32.toInt_mul, bm32, Int32.reduceToInt, Int64.reduceToInt, Nat.reduceLT, Nat.reduceEqDiff, reduceIte, u_eq, u_ne] <;> omega)), ih _ _ _ q' (by omega) (by omega) ?_⟩) 10 _ _ _ q (by decide) (by decide) (fun _ => WQ_b) (by decide)
      rw [hi]
      exact TL_upd g2 hM he he2 h1 (by omega) hT wq
    · simp only [i_le, Int32.reduceToInt] at c1 c2
      refine sl_who_66 hG he hM h1 (by omega) (fun c v m' q' wq => ⟨vp_in_iff.mpr (by first | omega | (simp (disch := omega) only [↓i_in, ↓i_isCouple, ↓i_isBridge, ↓i_isTheme, ↓i_isBarge, i_lt, i_le, i_eq, i_clamp, i_m1, Int32.toInt_toInt64, Int32.toInt_add, Int32.toInt_sub, Int32.toInt_mul, bm32, Int32.reduceToInt, Int64.reduceToInt, Nat.reduceLT, Nat.reduceEqDiff, reduceIte, u_eq, u_ne] <;> omega)), ih _ _ _ q' (by omega) (by omega) ?_⟩) 10 _ _ _ q (by decide) (by decide) (fun z => absurd z c2) (by decide)
      rw [hi]
      exact TL_upd g2 hM he he2 h1 (by omega) hT wq
set_option maxHeartbeats 4000000 in
theorem sl_who_35 {G C : Nat → Int32} {m_ : Int32} {K : Int32 → (Nat → Int32) → (Nat → Int32) → (Nat → Int32) → Prop} (hG : GI G) (hM : m_.toInt ≤ 5) (hK : ∀ e m L, QG G m → TR (G 5).toInt m_.toInt C L 0 → K e m C L) : ∀ (n : Nat) (e : Int32) (m L : Nat → Int32), QG G m → -1 ≤ e.toInt → e.toInt ≤ 6 → TR (G 5).toInt m_.toInt C L (e.toInt + 1) → (e.toInt + 1).toNat < n → S_m_who_35 m_ K n e m C L := by
  intro n
  induction n with
  | zero => intro e m L _ _ _ _ hm; exact absurd hm (Nat.not_lt_zero _)
  | succ n ih =>
    intro e m L q h1 h2 hT hm
    rw [S_m_who_35_s]
    refine ⟨fun c1 => hK _ _ _ q ?_, fun c1 => ?_⟩
    · simp only [i_lt, Int32.reduceToInt] at c1
      intro x t x0 x1 t0 t1 _
      exact hT x t x0 x1 t0 t1 (by omega)
    · simp only [i_lt, Int32.reduceToInt] at c1
      have hd := dec1 (c := e) (by omega)
      refine sl_who_42 hG (by omega) h2 hM (fun s m' L' q' tr => ih _ _ _ q' (by omega) (by omega) ?_ (by omega)) _ _ _ _ q (by decide) (by decide) ?_
      · rw [hd]
        intro x t x0 x1 t0 t1 hx
        exact tr x t x0 x1 t0 t1 (by omega)
      · intro x t x0 x1 t0 t1 hx
        refine hT x t x0 x1 t0 t1 ?_
        simp only [Int32.reduceToInt] at hx
        omega
set_option maxHeartbeats 4000000 in
theorem s_who {G f0 f10 f8 f37 f36 : Nat → Int32} {m_ b_ : Int32} (hG : GI G) : S_m_who G f0 f10 f8 f37 f36 m_ b_ := by
  have hg := hG
  obtain ⟨_, ⟨b1, b2⟩, _, ⟨g1, g2⟩, _⟩ := hg
  unfold S_m_who
  refine ⟨s_isBridge, fun _ => trivial, fun c1 => ?_⟩
  have hm : 0 ≤ m_.toInt ∧ m_.toInt ≤ 5 := by
    simp (disch := omega) only [↓i_isBridge, Int32.toInt_sub, bm32, Int32.reduceToInt] at c1
    omega
  obtain ⟨m0, m1⟩ := hm
  have hi := inc1 (c := m_) (by omega) (by omega)
  refine ⟨fun c2 => ⟨s_layCosts hG, fun o1 o2 e => ?_⟩, fun c2 => ⟨s_in, fun _ => trivial, fun c3 => ⟨s_layCosts hG, fun o1 o2 e => ?_⟩⟩⟩
  · have q := p_layCosts hG _ _ e.symm
    refine sl_who_35 hG m1 (fun l m L q' tr => ⟨fun _ => ⟨fun _ => trivial, fun _ => trivial⟩, fun h => ⟨fun _ => ⟨fun _ => trivial, fun _ => trivial⟩, fun hb => absurd c2 hb⟩⟩) 10 (m_ + 1) o1 f36 q (by omega) (by omega) (fun x t x0 x1 t0 t1 hx => absurd hx (by omega)) (by omega)
  · have q := p_layCosts hG _ _ e.symm
    simp only [↓i_in, Int32.toInt_toInt64, Int64.reduceToInt] at c3
    refine sl_who_35 hG m1 (fun l m L q' tr => ⟨fun _ => ⟨fun _ => trivial, fun _ => trivial⟩, fun h => ⟨fun _ => ⟨fun _ => trivial, fun _ => trivial⟩, fun hb => ?_⟩⟩) 10 (m_ + 1) o1 f36 q (by omega) (by omega) (fun x t x0 x1 t0 t1 hx => absurd hx (by omega)) (by omega)
    refine sl_who_262 (M := m_.toInt) hG (by omega) m1 tr (fun _ _ _ _ => trivial) 10 0 (-1) 0 m q' (by decide) (by decide) (by decide) (by decide) (fun _ => h) (by decide)
set_option maxHeartbeats 4000000 in
theorem pl_who_279 {G : Nat → Int32} {w262xl5 : Int32} {w262xl3 : Int32} : ∀ (n : Nat) w279xl6 w279xl4 w279xm0 w279xm1 w279xm2, (QG G w279xm0) → ∀ r0 r1 r2 r3 r4, f_m_who_279 w262xl5 w262xl3 n w279xl6 w279xl4 w279xm0 w279xm1 w279xm2 = (r0, r1, r2, r3, r4) → QG G r2 := by
  intro n
  induction n with
  | zero =>
    intro w279xl6 w279xl4 w279xm0 w279xm1 w279xm2 hI r0 r1 r2 r3 r4 e
    replace e : (w279xl6, w279xl4, w279xm0, w279xm1, w279xm2) = (r0, r1, r2, r3, r4) := e
    cases e
    exact hI
  | succ n ih =>
    intro w279xl6 w279xl4 w279xm0 w279xm1 w279xm2 hI r0 r1 r2 r3 r4 e
    rw [f_m_who_279_s] at e
    have hI0 := hI
    have i_1 := hI0
    obtain ⟨w279xm0_2, w279xm0_3, w279xm0_4, w279xm0_5, w279xm0_6, w279xm0_14, w279xm0_42⟩ := QGs i_1
    by_cases c_2 : w279xl6 < 0
    · rw [if_pos c_2] at e
      try simp (disch := omega) only [↓i_in, ↓i_isCouple, ↓i_isBridge, ↓i_isTheme, ↓i_isBarge, i_lt, i_le, i_eq, i_clamp, i_upd, i_m1, Int32.toInt_toInt64, Int32.toInt_add, Int32.toInt_sub, Int32.toInt_mul, bm32, Int32.reduceToInt, Int64.reduceToInt, Nat.reduceLT, Nat.reduceEqDiff, reduceIte, w279xm0_2, w279xm0_3, w279xm0_4, w279xm0_5, w279xm0_6, w279xm0_14, w279xm0_42] at c_2
      cases e
      exact hI
    · rw [if_neg c_2] at e
      try simp (disch := omega) only [↓i_in, ↓i_isCouple, ↓i_isBridge, ↓i_isTheme, ↓i_isBarge, i_lt, i_le, i_eq, i_clamp, i_upd, i_m1, Int32.toInt_toInt64, Int32.toInt_add, Int32.toInt_sub, Int32.toInt_mul, bm32, Int32.reduceToInt, Int64.reduceToInt, Nat.reduceLT, Nat.reduceEqDiff, reduceIte, w279xm0_2, w279xm0_3, w279xm0_4, w279xm0_5, w279xm0_6, w279xm0_14, w279xm0_42] at c_2
      by_cases c_3 : (f_m_has w262xl3 w279xl6) = 0
      · rw [if_pos c_3] at e
        try simp (disch := omega) only [↓i_in, ↓i_isCouple, ↓i_isBridge, ↓i_isTheme, ↓i_isBarge, i_lt, i_le, i_eq, i_clamp, i_upd, i_m1, Int32.toInt_toInt64, Int32.toInt_add, Int32.toInt_sub, Int32.toInt_mul, bm32, Int32.reduceToInt, Int64.reduceToInt, Nat.reduceLT, Nat.reduceEqDiff, reduceIte, w279xm0_2, w279xm0_3, w279xm0_4, w279xm0_5, w279xm0_6, w279xm0_14, w279xm0_42] at c_3
        by_cases c_4 : (w279xm1 (((6 * w262xl5) + w279xl6) : Int32).toNatClampNeg) = 1000000000
        · rw [if_pos c_4] at e
          try simp (disch := omega) only [↓i_in, ↓i_isCouple, ↓i_isBridge, ↓i_isTheme, ↓i_isBarge, i_lt, i_le, i_eq, i_clamp, i_upd, i_m1, Int32.toInt_toInt64, Int32.toInt_add, Int32.toInt_sub, Int32.toInt_mul, bm32, Int32.reduceToInt, Int64.reduceToInt, Nat.reduceLT, Nat.reduceEqDiff, reduceIte, w279xm0_2, w279xm0_3, w279xm0_4, w279xm0_5, w279xm0_6, w279xm0_14, w279xm0_42] at c_4
          exact ih (w279xl6 + (-1)) w279xl4 w279xm0 w279xm1 w279xm2 i_1 _ _ _ _ _ e
        · rw [if_neg c_4] at e
          try simp (disch := omega) only [↓i_in, ↓i_isCouple, ↓i_isBridge, ↓i_isTheme, ↓i_isBarge, i_lt, i_le, i_eq, i_clamp, i_upd, i_m1, Int32.toInt_toInt64, Int32.toInt_add, Int32.toInt_sub, Int32.toInt_mul, bm32, Int32.reduceToInt, Int64.reduceToInt, Nat.reduceLT, Nat.reduceEqDiff, reduceIte, w279xm0_2, w279xm0_3, w279xm0_4, w279xm0_5, w279xm0_6, w279xm0_14, w279xm0_42] at c_4
          by_cases c_5 : (w279xm2 (((64 * (w262xl5 + 1)) + (w262xl3 ||| ((1 : Int32) <<< (w279xl6 &&& 31)))) : Int32).toNatClampNeg) = 1000000000
          · rw [if_pos c_5] at e
            try simp (disch := omega) only [↓i_in, ↓i_isCouple, ↓i_isBridge, ↓i_isTheme, ↓i_isBarge, i_lt, i_le, i_eq, i_clamp, i_upd, i_m1, Int32.toInt_toInt64, Int32.toInt_add, Int32.toInt_sub, Int32.toInt_mul, bm32, Int32.reduceToInt, Int64.reduceToInt, Nat.reduceLT, Nat.reduceEqDiff, reduceIte, w279xm0_2, w279xm0_3, w279xm0_4, w279xm0_5, w279xm0_6, w279xm0_14, w279xm0_42] at c_5
            exact ih (w279xl6 + (-1)) w279xl4 w279xm0 w279xm1 w279xm2 i_1 _ _ _ _ _ e
          · rw [if_neg c_5] at e
            try simp (disch := omega) only [↓i_in, ↓i_isCouple, ↓i_isBridge, ↓i_isTheme, ↓i_isBarge, i_lt, i_le, i_eq, i_clamp, i_upd, i_m1, Int32.toInt_toInt64, Int32.toInt_add, Int32.toInt_sub, Int32.toInt_mul, bm32, Int32.reduceToInt, Int64.reduceToInt, Nat.reduceLT, Nat.reduceEqDiff, reduceIte, w279xm0_2, w279xm0_3, w279xm0_4, w279xm0_5, w279xm0_6, w279xm0_14, w279xm0_42] at c_5
            by_cases c_6 : ((w279xm1 (((6 * w262xl5) + w279xl6) : Int32).toNatClampNeg) + (w279xm2 (((64 * (w262xl5 + 1)) + (w262xl3 ||| ((1 : Int32) <<< (w279xl6 &&& 31)))) : Int32).toNatClampNeg)) = (w279xm2 (((64 * w262xl5) + w262xl3) : Int32).toNatClampNeg)
            · rw [if_pos c_6] at e
              try simp (disch := omega) only [↓i_in, ↓i_isCouple, ↓i_isBridge, ↓i_isTheme, ↓i_isBarge, i_lt, i_le, i_eq, i_clamp, i_upd, i_m1, Int32.toInt_toInt64, Int32.toInt_add, Int32.toInt_sub, Int32.toInt_mul, bm32, Int32.reduceToInt, Int64.reduceToInt, Nat.reduceLT, Nat.reduceEqDiff, reduceIte, w279xm0_2, w279xm0_3, w279xm0_4, w279xm0_5, w279xm0_6, w279xm0_14, w279xm0_42] at c_6
              exact ih (w279xl6 + (-1)) w279xl6 w279xm0 w279xm1 w279xm2 i_1 _ _ _ _ _ e
            · rw [if_neg c_6] at e
              try simp (disch := omega) only [↓i_in, ↓i_isCouple, ↓i_isBridge, ↓i_isTheme, ↓i_isBarge, i_lt, i_le, i_eq, i_clamp, i_upd, i_m1, Int32.toInt_toInt64, Int32.toInt_add, Int32.toInt_sub, Int32.toInt_mul, bm32, Int32.reduceToInt, Int64.reduceToInt, Nat.reduceLT, Nat.reduceEqDiff, reduceIte, w279xm0_2, w279xm0_3, w279xm0_4, w279xm0_5, w279xm0_6, w279xm0_14, w279xm0_42] at c_6
              exact ih (w279xl6 + (-1)) w279xl4 w279xm0 w279xm1 w279xm2 i_1 _ _ _ _ _ e
      · rw [if_neg c_3] at e
        try simp (disch := omega) only [↓i_in, ↓i_isCouple, ↓i_isBridge, ↓i_isTheme, ↓i_isBarge, i_lt, i_le, i_eq, i_clamp, i_upd, i_m1, Int32.toInt_toInt64, Int32.toInt_add, Int32.toInt_sub, Int32.toInt_mul, bm32, Int32.reduceToInt, Int64.reduceToInt, Nat.reduceLT, Nat.reduceEqDiff, reduceIte, w279xm0_2, w279xm0_3, w279xm0_4, w279xm0_5, w279xm0_6, w279xm0_14, w279xm0_42] at c_3
        exact ih (w279xl6 + (-1)) w279xl4 w279xm0 w279xm1 w279xm2 i_1 _ _ _ _ _ e
set_option maxHeartbeats 4000000 in
theorem pl_who_262 {G : Nat → Int32} {b_ : Int32} : ∀ (n : Nat) w262xl5 w262xl4 w262xl3 w262xm0 w262xm1 w262xm2, (QG G w262xm0) → ∀ r0 r1 r2 r3 r4 r5, f_m_who_262 b_ n w262xl5 w262xl4 w262xl3 w262xm0 w262xm1 w262xm2 = (r0, r1, r2, r3, r4, r5) → QG G r3 := by
  intro n
  induction n with
  | zero =>
    intro w262xl5 w262xl4 w262xl3 w262xm0 w262xm1 w262xm2 hI r0 r1 r2 r3 r4 r5 e
    replace e : (w262xl5, w262xl4, w262xl3, w262xm0, w262xm1, w262xm2) = (r0, r1, r2, r3, r4, r5) := e
    cases e
    exact hI
  | succ n ih =>
    intro w262xl5 w262xl4 w262xl3 w262xm0 w262xm1 w262xm2 hI r0 r1 r2 r3 r4 r5 e
    rw [f_m_who_262_s] at e
    have hI0 := hI
    have i_1 := hI0
    obtain ⟨w262xm0_2, w262xm0_3, w262xm0_4, w262xm0_5, w262xm0_6, w262xm0_14, w262xm0_42⟩ := QGs i_1
    by_cases c_2 : b_ < w262xl5
    · rw [if_pos c_2] at e
      try simp (disch := omega) only [↓i_in, ↓i_isCouple, ↓i_isBridge, ↓i_isTheme, ↓i_isBarge, i_lt, i_le, i_eq, i_clamp, i_upd, i_m1, Int32.toInt_toInt64, Int32.toInt_add, Int32.toInt_sub, Int32.toInt_mul, bm32, Int32.reduceToInt, Int64.reduceToInt, Nat.reduceLT, Nat.reduceEqDiff, reduceIte, w262xm0_2, w262xm0_3, w262xm0_4, w262xm0_5, w262xm0_6, w262xm0_14, w262xm0_42] at c_2
      cases e
      exact hI
    · rw [if_neg c_2] at e
      try simp (disch := omega) only [↓i_in, ↓i_isCouple, ↓i_isBridge, ↓i_isTheme, ↓i_isBarge, i_lt, i_le, i_eq, i_clamp, i_upd, i_m1, Int32.toInt_toInt64, Int32.toInt_add, Int32.toInt_sub, Int32.toInt_mul, bm32, Int32.reduceToInt, Int64.reduceToInt, Nat.reduceLT, Nat.reduceEqDiff, reduceIte, w262xm0_2, w262xm0_3, w262xm0_4, w262xm0_5, w262xm0_6, w262xm0_14, w262xm0_42] at c_2
      generalize x_3 : (f_m_who_279 w262xl5 w262xl3 10 ((w262xm0 5) - 1) (-1) w262xm0 w262xm1 w262xm2) = z_4 at e
      obtain ⟨w279xl6, w279xl4, w279xm0, w279xm1, w279xm2⟩ := z_4
      replace e : ((f_m_who_262 b_ n (w262xl5 + 1) w279xl4 (w262xl3 ||| ((1 : Int32) <<< (w279xl4 &&& 31))) w279xm0 w279xm1 w279xm2)) = (r0, r1, r2, r3, r4, r5) := e
      have p_5 := pl_who_279 10 ((w262xm0 5) - 1) (-1) w262xm0 w262xm1 w262xm2 i_1 _ _ _ _ _ x_3
      have i_6 := p_5
      obtain ⟨w279xm0_2, w279xm0_3, w279xm0_4, w279xm0_5, w279xm0_6, w279xm0_14, w279xm0_42⟩ := QGs i_6
      exact ih (w262xl5 + 1) w279xl4 (w262xl3 ||| ((1 : Int32) <<< (w279xl4 &&& 31))) w279xm0 w279xm1 w279xm2 i_6 _ _ _ _ _ _ e
set_option maxHeartbeats 4000000 in
theorem pl_who_66 {G : Nat → Int32} {m_ : Int32} {w35xl3 : Int32} {w42xl4 : Int32} : ∀ (n : Nat) w66xl6 w66xl5 w66xm0 w66xm1 w66xm2, (QG G w66xm0) → ∀ r0 r1 r2 r3 r4, f_m_who_66 m_ w35xl3 w42xl4 n w66xl6 w66xl5 w66xm0 w66xm1 w66xm2 = (r0, r1, r2, r3, r4) → QG G r2 := by
  intro n
  induction n with
  | zero =>
    intro w66xl6 w66xl5 w66xm0 w66xm1 w66xm2 hI r0 r1 r2 r3 r4 e
    replace e : (w66xl6, w66xl5, w66xm0, w66xm1, w66xm2) = (r0, r1, r2, r3, r4) := e
    cases e
    exact hI
  | succ n ih =>
    intro w66xl6 w66xl5 w66xm0 w66xm1 w66xm2 hI r0 r1 r2 r3 r4 e
    rw [f_m_who_66_s] at e
    have hI0 := hI
    have i_1 := hI0
    obtain ⟨w66xm0_2, w66xm0_3, w66xm0_4, w66xm0_5, w66xm0_6, w66xm0_14, w66xm0_42⟩ := QGs i_1
    by_cases c_2 : (w66xm0 5) ≤ w66xl6
    · rw [if_pos c_2] at e
      try simp (disch := omega) only [↓i_in, ↓i_isCouple, ↓i_isBridge, ↓i_isTheme, ↓i_isBarge, i_lt, i_le, i_eq, i_clamp, i_upd, i_m1, Int32.toInt_toInt64, Int32.toInt_add, Int32.toInt_sub, Int32.toInt_mul, bm32, Int32.reduceToInt, Int64.reduceToInt, Nat.reduceLT, Nat.reduceEqDiff, reduceIte, w66xm0_2, w66xm0_3, w66xm0_4, w66xm0_5, w66xm0_6, w66xm0_14, w66xm0_42] at c_2
      cases e
      exact hI
    · rw [if_neg c_2] at e
      try simp (disch := omega) only [↓i_in, ↓i_isCouple, ↓i_isBridge, ↓i_isTheme, ↓i_isBarge, i_lt, i_le, i_eq, i_clamp, i_upd, i_m1, Int32.toInt_toInt64, Int32.toInt_add, Int32.toInt_sub, Int32.toInt_mul, bm32, Int32.reduceToInt, Int64.reduceToInt, Nat.reduceLT, Nat.reduceEqDiff, reduceIte, w66xm0_2, w66xm0_3, w66xm0_4, w66xm0_5, w66xm0_6, w66xm0_14, w66xm0_42] at c_2
      by_cases c_3 : m_ < w35xl3
      · rw [if_pos c_3] at e
        try simp (disch := omega) only [↓i_in, ↓i_isCouple, ↓i_isBridge, ↓i_isTheme, ↓i_isBarge, i_lt, i_le, i_eq, i_clamp, i_upd, i_m1, Int32.toInt_toInt64, Int32.toInt_add, Int32.toInt_sub, Int32.toInt_mul, bm32, Int32.reduceToInt, Int64.reduceToInt, Nat.reduceLT, Nat.reduceEqDiff, reduceIte, w66xm0_2, w66xm0_3, w66xm0_4, w66xm0_5, w66xm0_6, w66xm0_14, w66xm0_42] at c_3
        cases e
        exact hI
      · rw [if_neg c_3] at e
        try simp (disch := omega) only [↓i_in, ↓i_isCouple, ↓i_isBridge, ↓i_isTheme, ↓i_isBarge, i_lt, i_le, i_eq, i_clamp, i_upd, i_m1, Int32.toInt_toInt64, Int32.toInt_add, Int32.toInt_sub, Int32.toInt_mul, bm32, Int32.reduceToInt, Int64.reduceToInt, Nat.reduceLT, Nat.reduceEqDiff, reduceIte, w66xm0_2, w66xm0_3, w66xm0_4, w66xm0_5, w66xm0_6, w66xm0_14, w66xm0_42] at c_3
        by_cases c_4 : (f_m_has w42xl4 w66xl6) = 0
        · rw [if_pos c_4] at e
          try simp (disch := omega) only [↓i_in, ↓i_isCouple, ↓i_isBridge, ↓i_isTheme, ↓i_isBarge, i_lt, i_le, i_eq, i_clamp, i_upd, i_m1, Int32.toInt_toInt64, Int32.toInt_add, Int32.toInt_sub, Int32.toInt_mul, bm32, Int32.reduceToInt, Int64.reduceToInt, Nat.reduceLT, Nat.reduceEqDiff, reduceIte, w66xm0_2, w66xm0_3, w66xm0_4, w66xm0_5, w66xm0_6, w66xm0_14, w66xm0_42] at c_4
          by_cases c_5 : (w66xm2 (((64 * (w35xl3 + 1)) + (w42xl4 ||| ((1 : Int32) <<< (w66xl6 &&& 31)))) : Int32).toNatClampNeg) = 1000000000
          · rw [if_pos c_5] at e
            try simp (disch := omega) only [↓i_in, ↓i_isCouple, ↓i_isBridge, ↓i_isTheme, ↓i_isBarge, i_lt, i_le, i_eq, i_clamp, i_upd, i_m1, Int32.toInt_toInt64, Int32.toInt_add, Int32.toInt_sub, Int32.toInt_mul, bm32, Int32.reduceToInt, Int64.reduceToInt, Nat.reduceLT, Nat.reduceEqDiff, reduceIte, w66xm0_2, w66xm0_3, w66xm0_4, w66xm0_5, w66xm0_6, w66xm0_14, w66xm0_42] at c_5
            by_cases c_6 : w66xl5 ≤ 1000000000
            · rw [if_pos c_6] at e
              try simp (disch := omega) only [↓i_in, ↓i_isCouple, ↓i_isBridge, ↓i_isTheme, ↓i_isBarge, i_lt, i_le, i_eq, i_clamp, i_upd, i_m1, Int32.toInt_toInt64, Int32.toInt_add, Int32.toInt_sub, Int32.toInt_mul, bm32, Int32.reduceToInt, Int64.reduceToInt, Nat.reduceLT, Nat.reduceEqDiff, reduceIte, w66xm0_2, w66xm0_3, w66xm0_4, w66xm0_5, w66xm0_6, w66xm0_14, w66xm0_42] at c_6
              exact ih (w66xl6 + 1) w66xl5 w66xm0 w66xm1 w66xm2 i_1 _ _ _ _ _ e
            · rw [if_neg c_6] at e
              try simp (disch := omega) only [↓i_in, ↓i_isCouple, ↓i_isBridge, ↓i_isTheme, ↓i_isBarge, i_lt, i_le, i_eq, i_clamp, i_upd, i_m1, Int32.toInt_toInt64, Int32.toInt_add, Int32.toInt_sub, Int32.toInt_mul, bm32, Int32.reduceToInt, Int64.reduceToInt, Nat.reduceLT, Nat.reduceEqDiff, reduceIte, w66xm0_2, w66xm0_3, w66xm0_4, w66xm0_5, w66xm0_6, w66xm0_14, w66xm0_42] at c_6
              exact ih (w66xl6 + 1) 1000000000 w66xm0 w66xm1 w66xm2 i_1 _ _ _ _ _ e
          · rw [if_neg c_5] at e
            try simp (disch := omega) only [↓i_in, ↓i_isCouple, ↓i_isBridge, ↓i_isTheme, ↓i_isBarge, i_lt, i_le, i_eq, i_clamp, i_upd, i_m1, Int32.toInt_toInt64, Int32.toInt_add, Int32.toInt_sub, Int32.toInt_mul, bm32, Int32.reduceToInt, Int64.reduceToInt, Nat.reduceLT, Nat.reduceEqDiff, reduceIte, w66xm0_2, w66xm0_3, w66xm0_4, w66xm0_5, w66xm0_6, w66xm0_14, w66xm0_42] at c_5
            by_cases c_7 : (w66xm1 (((6 * w35xl3) + w66xl6) : Int32).toNatClampNeg) = 1000000000
            · rw [if_pos c_7] at e
              try simp (disch := omega) only [↓i_in, ↓i_isCouple, ↓i_isBridge, ↓i_isTheme, ↓i_isBarge, i_lt, i_le, i_eq, i_clamp, i_upd, i_m1, Int32.toInt_toInt64, Int32.toInt_add, Int32.toInt_sub, Int32.toInt_mul, bm32, Int32.reduceToInt, Int64.reduceToInt, Nat.reduceLT, Nat.reduceEqDiff, reduceIte, w66xm0_2, w66xm0_3, w66xm0_4, w66xm0_5, w66xm0_6, w66xm0_14, w66xm0_42] at c_7
              by_cases c_8 : w66xl5 ≤ 1000000000
              · rw [if_pos c_8] at e
                try simp (disch := omega) only [↓i_in, ↓i_isCouple, ↓i_isBridge, ↓i_isTheme, ↓i_isBarge, i_lt, i_le, i_eq, i_clamp, i_upd, i_m1, Int32.toInt_toInt64, Int32.toInt_add, Int32.toInt_sub, Int32.toInt_mul, bm32, Int32.reduceToInt, Int64.reduceToInt, Nat.reduceLT, Nat.reduceEqDiff, reduceIte, w66xm0_2, w66xm0_3, w66xm0_4, w66xm0_5, w66xm0_6, w66xm0_14, w66xm0_42] at c_8
                exact ih (w66xl6 + 1) w66xl5 w66xm0 w66xm1 w66xm2 i_1 _ _ _ _ _ e
              · rw [if_neg c_8] at e
                try simp (disch := omega) only [↓i_in, ↓i_isCouple, ↓i_isBridge, ↓i_isTheme, ↓i_isBarge, i_lt, i_le, i_eq, i_clamp, i_upd, i_m1, Int32.toInt_toInt64, Int32.toInt_add, Int32.toInt_sub, Int32.toInt_mul, bm32, Int32.reduceToInt, Int64.reduceToInt, Nat.reduceLT, Nat.reduceEqDiff, reduceIte, w66xm0_2, w66xm0_3, w66xm0_4, w66xm0_5, w66xm0_6, w66xm0_14, w66xm0_42] at c_8
                exact ih (w66xl6 + 1) 1000000000 w66xm0 w66xm1 w66xm2 i_1 _ _ _ _ _ e
            · rw [if_neg c_7] at e
              try simp (disch := omega) only [↓i_in, ↓i_isCouple, ↓i_isBridge, ↓i_isTheme, ↓i_isBarge, i_lt, i_le, i_eq, i_clamp, i_upd, i_m1, Int32.toInt_toInt64, Int32.toInt_add, Int32.toInt_sub, Int32.toInt_mul, bm32, Int32.reduceToInt, Int64.reduceToInt, Nat.reduceLT, Nat.reduceEqDiff, reduceIte, w66xm0_2, w66xm0_3, w66xm0_4, w66xm0_5, w66xm0_6, w66xm0_14, w66xm0_42] at c_7
              by_cases c_9 : w66xl5 ≤ ((w66xm2 (((64 * (w35xl3 + 1)) + (w42xl4 ||| ((1 : Int32) <<< (w66xl6 &&& 31)))) : Int32).toNatClampNeg) + (w66xm1 (((6 * w35xl3) + w66xl6) : Int32).toNatClampNeg))
              · rw [if_pos c_9] at e
                try simp (disch := omega) only [↓i_in, ↓i_isCouple, ↓i_isBridge, ↓i_isTheme, ↓i_isBarge, i_lt, i_le, i_eq, i_clamp, i_upd, i_m1, Int32.toInt_toInt64, Int32.toInt_add, Int32.toInt_sub, Int32.toInt_mul, bm32, Int32.reduceToInt, Int64.reduceToInt, Nat.reduceLT, Nat.reduceEqDiff, reduceIte, w66xm0_2, w66xm0_3, w66xm0_4, w66xm0_5, w66xm0_6, w66xm0_14, w66xm0_42] at c_9
                exact ih (w66xl6 + 1) w66xl5 w66xm0 w66xm1 w66xm2 i_1 _ _ _ _ _ e
              · rw [if_neg c_9] at e
                try simp (disch := omega) only [↓i_in, ↓i_isCouple, ↓i_isBridge, ↓i_isTheme, ↓i_isBarge, i_lt, i_le, i_eq, i_clamp, i_upd, i_m1, Int32.toInt_toInt64, Int32.toInt_add, Int32.toInt_sub, Int32.toInt_mul, bm32, Int32.reduceToInt, Int64.reduceToInt, Nat.reduceLT, Nat.reduceEqDiff, reduceIte, w66xm0_2, w66xm0_3, w66xm0_4, w66xm0_5, w66xm0_6, w66xm0_14, w66xm0_42] at c_9
                exact ih (w66xl6 + 1) ((w66xm2 (((64 * (w35xl3 + 1)) + (w42xl4 ||| ((1 : Int32) <<< (w66xl6 &&& 31)))) : Int32).toNatClampNeg) + (w66xm1 (((6 * w35xl3) + w66xl6) : Int32).toNatClampNeg)) w66xm0 w66xm1 w66xm2 i_1 _ _ _ _ _ e
        · rw [if_neg c_4] at e
          try simp (disch := omega) only [↓i_in, ↓i_isCouple, ↓i_isBridge, ↓i_isTheme, ↓i_isBarge, i_lt, i_le, i_eq, i_clamp, i_upd, i_m1, Int32.toInt_toInt64, Int32.toInt_add, Int32.toInt_sub, Int32.toInt_mul, bm32, Int32.reduceToInt, Int64.reduceToInt, Nat.reduceLT, Nat.reduceEqDiff, reduceIte, w66xm0_2, w66xm0_3, w66xm0_4, w66xm0_5, w66xm0_6, w66xm0_14, w66xm0_42] at c_4
          by_cases c_10 : w66xl5 ≤ 1000000000
          · rw [if_pos c_10] at e
            try simp (disch := omega) only [↓i_in, ↓i_isCouple, ↓i_isBridge, ↓i_isTheme, ↓i_isBarge, i_lt, i_le, i_eq, i_clamp, i_upd, i_m1, Int32.toInt_toInt64, Int32.toInt_add, Int32.toInt_sub, Int32.toInt_mul, bm32, Int32.reduceToInt, Int64.reduceToInt, Nat.reduceLT, Nat.reduceEqDiff, reduceIte, w66xm0_2, w66xm0_3, w66xm0_4, w66xm0_5, w66xm0_6, w66xm0_14, w66xm0_42] at c_10
            exact ih (w66xl6 + 1) w66xl5 w66xm0 w66xm1 w66xm2 i_1 _ _ _ _ _ e
          · rw [if_neg c_10] at e
            try simp (disch := omega) only [↓i_in, ↓i_isCouple, ↓i_isBridge, ↓i_isTheme, ↓i_isBarge, i_lt, i_le, i_eq, i_clamp, i_upd, i_m1, Int32.toInt_toInt64, Int32.toInt_add, Int32.toInt_sub, Int32.toInt_mul, bm32, Int32.reduceToInt, Int64.reduceToInt, Nat.reduceLT, Nat.reduceEqDiff, reduceIte, w66xm0_2, w66xm0_3, w66xm0_4, w66xm0_5, w66xm0_6, w66xm0_14, w66xm0_42] at c_10
            exact ih (w66xl6 + 1) 1000000000 w66xm0 w66xm1 w66xm2 i_1 _ _ _ _ _ e
set_option maxHeartbeats 4000000 in
theorem pl_who_42 {G : Nat → Int32} {m_ : Int32} {w35xl3 : Int32} : ∀ (n : Nat) w42xl4 w42xm0 w42xm1 w42xm2, (QG G w42xm0) → ∀ r0 r1 r2 r3, f_m_who_42 m_ w35xl3 n w42xl4 w42xm0 w42xm1 w42xm2 = (r0, r1, r2, r3) → QG G r1 := by
  intro n
  induction n with
  | zero =>
    intro w42xl4 w42xm0 w42xm1 w42xm2 hI r0 r1 r2 r3 e
    replace e : (w42xl4, w42xm0, w42xm1, w42xm2) = (r0, r1, r2, r3) := e
    cases e
    exact hI
  | succ n ih =>
    intro w42xl4 w42xm0 w42xm1 w42xm2 hI r0 r1 r2 r3 e
    rw [f_m_who_42_s] at e
    have hI0 := hI
    have i_1 := hI0
    obtain ⟨w42xm0_2, w42xm0_3, w42xm0_4, w42xm0_5, w42xm0_6, w42xm0_14, w42xm0_42⟩ := QGs i_1
    by_cases c_2 : 64 ≤ w42xl4
    · rw [if_pos c_2] at e
      try simp (disch := omega) only [↓i_in, ↓i_isCouple, ↓i_isBridge, ↓i_isTheme, ↓i_isBarge, i_lt, i_le, i_eq, i_clamp, i_upd, i_m1, Int32.toInt_toInt64, Int32.toInt_add, Int32.toInt_sub, Int32.toInt_mul, bm32, Int32.reduceToInt, Int64.reduceToInt, Nat.reduceLT, Nat.reduceEqDiff, reduceIte, w42xm0_2, w42xm0_3, w42xm0_4, w42xm0_5, w42xm0_6, w42xm0_14, w42xm0_42] at c_2
      cases e
      exact hI
    · rw [if_neg c_2] at e
      try simp (disch := omega) only [↓i_in, ↓i_isCouple, ↓i_isBridge, ↓i_isTheme, ↓i_isBarge, i_lt, i_le, i_eq, i_clamp, i_upd, i_m1, Int32.toInt_toInt64, Int32.toInt_add, Int32.toInt_sub, Int32.toInt_mul, bm32, Int32.reduceToInt, Int64.reduceToInt, Nat.reduceLT, Nat.reduceEqDiff, reduceIte, w42xm0_2, w42xm0_3, w42xm0_4, w42xm0_5, w42xm0_6, w42xm0_14, w42xm0_42] at c_2
      by_cases c_3 : w35xl3 ≤ m_
      · rw [if_pos c_3] at e
        try simp (disch := omega) only [↓i_in, ↓i_isCouple, ↓i_isBridge, ↓i_isTheme, ↓i_isBarge, i_lt, i_le, i_eq, i_clamp, i_upd, i_m1, Int32.toInt_toInt64, Int32.toInt_add, Int32.toInt_sub, Int32.toInt_mul, bm32, Int32.reduceToInt, Int64.reduceToInt, Nat.reduceLT, Nat.reduceEqDiff, reduceIte, w42xm0_2, w42xm0_3, w42xm0_4, w42xm0_5, w42xm0_6, w42xm0_14, w42xm0_42] at c_3
        generalize x_4 : (f_m_who_66 m_ w35xl3 w42xl4 10 0 1000000000 w42xm0 w42xm1 w42xm2) = z_5 at e
        obtain ⟨w66xl6, w66xl5, w66xm0, w66xm1, w66xm2⟩ := z_5
        replace e : ((f_m_who_42 m_ w35xl3 n (w42xl4 + 1) w66xm0 w66xm1 (upd w66xm2 (((64 * w35xl3) + w42xl4) : Int32).toNatClampNeg w66xl5))) = (r0, r1, r2, r3) := e
        have p_6 := pl_who_66 10 0 1000000000 w42xm0 w42xm1 w42xm2 i_1 _ _ _ _ _ x_4
        have i_7 := p_6
        obtain ⟨w66xm0_2, w66xm0_3, w66xm0_4, w66xm0_5, w66xm0_6, w66xm0_14, w66xm0_42⟩ := QGs i_7
        exact ih (w42xl4 + 1) w66xm0 w66xm1 (upd w66xm2 (((64 * w35xl3) + w42xl4) : Int32).toNatClampNeg w66xl5) i_7 _ _ _ _ e
      · rw [if_neg c_3] at e
        try simp (disch := omega) only [↓i_in, ↓i_isCouple, ↓i_isBridge, ↓i_isTheme, ↓i_isBarge, i_lt, i_le, i_eq, i_clamp, i_upd, i_m1, Int32.toInt_toInt64, Int32.toInt_add, Int32.toInt_sub, Int32.toInt_mul, bm32, Int32.reduceToInt, Int64.reduceToInt, Nat.reduceLT, Nat.reduceEqDiff, reduceIte, w42xm0_2, w42xm0_3, w42xm0_4, w42xm0_5, w42xm0_6, w42xm0_14, w42xm0_42] at c_3
        generalize x_8 : (f_m_who_66 m_ w35xl3 w42xl4 10 0 0 w42xm0 w42xm1 w42xm2) = z_9 at e
        obtain ⟨w66xl6, w66xl5, w66xm0, w66xm1, w66xm2⟩ := z_9
        replace e : ((f_m_who_42 m_ w35xl3 n (w42xl4 + 1) w66xm0 w66xm1 (upd w66xm2 (((64 * w35xl3) + w42xl4) : Int32).toNatClampNeg w66xl5))) = (r0, r1, r2, r3) := e
        have p_10 := pl_who_66 10 0 0 w42xm0 w42xm1 w42xm2 i_1 _ _ _ _ _ x_8
        have i_11 := p_10
        obtain ⟨w66xm0_2, w66xm0_3, w66xm0_4, w66xm0_5, w66xm0_6, w66xm0_14, w66xm0_42⟩ := QGs i_11
        exact ih (w42xl4 + 1) w66xm0 w66xm1 (upd w66xm2 (((64 * w35xl3) + w42xl4) : Int32).toNatClampNeg w66xl5) i_11 _ _ _ _ e
set_option maxHeartbeats 4000000 in
theorem pl_who_35 {G : Nat → Int32} {m_ : Int32} : ∀ (n : Nat) w35xl3 w35xm0 w35xm1 w35xm2, (QG G w35xm0) → ∀ r0 r1 r2 r3, f_m_who_35 m_ n w35xl3 w35xm0 w35xm1 w35xm2 = (r0, r1, r2, r3) → QG G r1 := by
  intro n
  induction n with
  | zero =>
    intro w35xl3 w35xm0 w35xm1 w35xm2 hI r0 r1 r2 r3 e
    replace e : (w35xl3, w35xm0, w35xm1, w35xm2) = (r0, r1, r2, r3) := e
    cases e
    exact hI
  | succ n ih =>
    intro w35xl3 w35xm0 w35xm1 w35xm2 hI r0 r1 r2 r3 e
    rw [f_m_who_35_s] at e
    have hI0 := hI
    have i_1 := hI0
    obtain ⟨w35xm0_2, w35xm0_3, w35xm0_4, w35xm0_5, w35xm0_6, w35xm0_14, w35xm0_42⟩ := QGs i_1
    by_cases c_2 : w35xl3 < 0
    · rw [if_pos c_2] at e
      try simp (disch := omega) only [↓i_in, ↓i_isCouple, ↓i_isBridge, ↓i_isTheme, ↓i_isBarge, i_lt, i_le, i_eq, i_clamp, i_upd, i_m1, Int32.toInt_toInt64, Int32.toInt_add, Int32.toInt_sub, Int32.toInt_mul, bm32, Int32.reduceToInt, Int64.reduceToInt, Nat.reduceLT, Nat.reduceEqDiff, reduceIte, w35xm0_2, w35xm0_3, w35xm0_4, w35xm0_5, w35xm0_6, w35xm0_14, w35xm0_42] at c_2
      cases e
      exact hI
    · rw [if_neg c_2] at e
      try simp (disch := omega) only [↓i_in, ↓i_isCouple, ↓i_isBridge, ↓i_isTheme, ↓i_isBarge, i_lt, i_le, i_eq, i_clamp, i_upd, i_m1, Int32.toInt_toInt64, Int32.toInt_add, Int32.toInt_sub, Int32.toInt_mul, bm32, Int32.reduceToInt, Int64.reduceToInt, Nat.reduceLT, Nat.reduceEqDiff, reduceIte, w35xm0_2, w35xm0_3, w35xm0_4, w35xm0_5, w35xm0_6, w35xm0_14, w35xm0_42] at c_2
      generalize x_3 : (f_m_who_42 m_ w35xl3 (((64 : Int32).toInt - (0 : Int32).toInt).toNat + 1) 0 w35xm0 w35xm1 w35xm2) = z_4 at e
      obtain ⟨w42xl4, w42xm0, w42xm1, w42xm2⟩ := z_4
      replace e : ((f_m_who_35 m_ n (w35xl3 + (-1)) w42xm0 w42xm1 w42xm2)) = (r0, r1, r2, r3) := e
      have p_5 := pl_who_42 (((64 : Int32).toInt - (0 : Int32).toInt).toNat + 1) 0 w35xm0 w35xm1 w35xm2 i_1 _ _ _ _ x_3
      have i_6 := p_5
      obtain ⟨w42xm0_2, w42xm0_3, w42xm0_4, w42xm0_5, w42xm0_6, w42xm0_14, w42xm0_42⟩ := QGs i_6
      exact ih (w35xl3 + (-1)) w42xm0 w42xm1 w42xm2 i_6 _ _ _ _ e
set_option maxHeartbeats 4000000 in
theorem p_who {G : Nat → Int32} {f0 : Nat → Int32} {f10 : Nat → Int32} {f8 : Nat → Int32} {f37 : Nat → Int32} {f36 : Nat → Int32} {m_ : Int32} {b_ : Int32} (h_0 : GI G) : ∀ (r : Int32) (u : (Nat → Int32)) (v : (Nat → Int32)) (w : (Nat → Int32)), f_m_who G f0 f10 f8 f37 f36 m_ b_ = (r, u, v, w) → QG G u := by
  have h_0_g := h_0
  obtain ⟨⟨h_0_2a, h_0_2b⟩, ⟨h_0_3a, h_0_3b⟩, ⟨h_0_4a, h_0_4b⟩, ⟨h_0_5a, h_0_5b⟩, ⟨h_0_6a, h_0_6b⟩, ⟨h_0_14a, h_0_14b⟩, ⟨h_0_42a, h_0_42b⟩⟩ := h_0_g
  intro r u v w e
  unfold f_m_who at e
  by_cases c_1 : (f_m_isBridge G m_) = 0
  · rw [if_pos c_1] at e
    try simp (disch := omega) only [↓i_in, ↓i_isCouple, ↓i_isBridge, ↓i_isTheme, ↓i_isBarge, i_lt, i_le, i_eq, i_clamp, i_upd, i_m1, Int32.toInt_toInt64, Int32.toInt_add, Int32.toInt_sub, Int32.toInt_mul, bm32, Int32.reduceToInt, Int64.reduceToInt, Nat.reduceLT, Nat.reduceEqDiff, reduceIte] at c_1
    cases e
    exact (QG.refl _)
  · rw [if_neg c_1] at e
    try simp (disch := omega) only [↓i_in, ↓i_isCouple, ↓i_isBridge, ↓i_isTheme, ↓i_isBarge, i_lt, i_le, i_eq, i_clamp, i_upd, i_m1, Int32.toInt_toInt64, Int32.toInt_add, Int32.toInt_sub, Int32.toInt_mul, bm32, Int32.reduceToInt, Int64.reduceToInt, Nat.reduceLT, Nat.reduceEqDiff, reduceIte] at c_1
    by_cases c_2 : b_ = (-1)
    · rw [if_pos c_2] at e
      try simp (disch := omega) only [↓i_in, ↓i_isCouple, ↓i_isBridge, ↓i_isTheme, ↓i_isBarge, i_lt, i_le, i_eq, i_clamp, i_upd, i_m1, Int32.toInt_toInt64, Int32.toInt_add, Int32.toInt_sub, Int32.toInt_mul, bm32, Int32.reduceToInt, Int64.reduceToInt, Nat.reduceLT, Nat.reduceEqDiff, reduceIte] at c_2
      generalize x_3 : (f_m_layCosts G f0 f10 f8 f37) = z_4 at e
      obtain ⟨o_9, o_10⟩ := z_4
      replace e : ((match ((f_m_who_35 m_ 10 (m_ + 1) o_9 o_10 f36) : Int32 × (Nat → Int32) × (Nat → Int32) × (Nat → Int32)) with | (w35xl3, w35xm0, w35xm1, w35xm2) => (if (w35xm2 (0 : Int32).toNatClampNeg) = 1000000000 then (if (w35xm2 (0 : Int32).toNatClampNeg) = 1000000000 then ((-1), w35xm0, w35xm1, w35xm2) else ((w35xm2 (0 : Int32).toNatClampNeg), w35xm0, w35xm1, w35xm2)) else (if b_ = (-1) then (if (w35xm2 (0 : Int32).toNatClampNeg) = 1000000000 then ((-1), w35xm0, w35xm1, w35xm2) else ((w35xm2 (0 : Int32).toNatClampNeg), w35xm0, w35xm1, w35xm2)) else (match ((f_m_who_262 b_ 10 0 (-1) 0 w35xm0 w35xm1 w35xm2) : Int32 × Int32 × Int32 × (Nat → Int32) × (Nat → Int32) × (Nat → Int32)) with | (w262xl5, w262xl4, w262xl3, w262xm0, w262xm1, w262xm2) => (w262xl4, w262xm0, w262xm1, w262xm2)))))) = (r, u, v, w) := e
      have p_5 := p_layCosts h_0 _ _ x_3
      have i_6 := p_5
      obtain ⟨o_9_2, o_9_3, o_9_4, o_9_5, o_9_6, o_9_14, o_9_42⟩ := QGs i_6
      generalize x_7 : (f_m_who_35 m_ 10 (m_ + 1) o_9 o_10 f36) = z_8 at e
      obtain ⟨w35xl3, w35xm0, w35xm1, w35xm2⟩ := z_8
      replace e : ((if (w35xm2 (0 : Int32).toNatClampNeg) = 1000000000 then (if (w35xm2 (0 : Int32).toNatClampNeg) = 1000000000 then ((-1), w35xm0, w35xm1, w35xm2) else ((w35xm2 (0 : Int32).toNatClampNeg), w35xm0, w35xm1, w35xm2)) else (if b_ = (-1) then (if (w35xm2 (0 : Int32).toNatClampNeg) = 1000000000 then ((-1), w35xm0, w35xm1, w35xm2) else ((w35xm2 (0 : Int32).toNatClampNeg), w35xm0, w35xm1, w35xm2)) else (match ((f_m_who_262 b_ 10 0 (-1) 0 w35xm0 w35xm1 w35xm2) : Int32 × Int32 × Int32 × (Nat → Int32) × (Nat → Int32) × (Nat → Int32)) with | (w262xl5, w262xl4, w262xl3, w262xm0, w262xm1, w262xm2) => (w262xl4, w262xm0, w262xm1, w262xm2))))) = (r, u, v, w) := e
      have p_9 := pl_who_35 10 (m_ + 1) o_9 o_10 f36 i_6 _ _ _ _ x_7
      have i_10 := p_9
      obtain ⟨w35xm0_2, w35xm0_3, w35xm0_4, w35xm0_5, w35xm0_6, w35xm0_14, w35xm0_42⟩ := QGs i_10
      by_cases c_11 : (w35xm2 (0 : Int32).toNatClampNeg) = 1000000000
      · rw [if_pos c_11] at e
        try simp (disch := omega) only [↓i_in, ↓i_isCouple, ↓i_isBridge, ↓i_isTheme, ↓i_isBarge, i_lt, i_le, i_eq, i_clamp, i_upd, i_m1, Int32.toInt_toInt64, Int32.toInt_add, Int32.toInt_sub, Int32.toInt_mul, bm32, Int32.reduceToInt, Int64.reduceToInt, Nat.reduceLT, Nat.reduceEqDiff, reduceIte, o_9_2, o_9_3, o_9_4, o_9_5, o_9_6, o_9_14, o_9_42, w35xm0_2, w35xm0_3, w35xm0_4, w35xm0_5, w35xm0_6, w35xm0_14, w35xm0_42] at c_11
        by_cases c_12 : (w35xm2 (0 : Int32).toNatClampNeg) = 1000000000
        · rw [if_pos c_12] at e
          try simp (disch := omega) only [↓i_in, ↓i_isCouple, ↓i_isBridge, ↓i_isTheme, ↓i_isBarge, i_lt, i_le, i_eq, i_clamp, i_upd, i_m1, Int32.toInt_toInt64, Int32.toInt_add, Int32.toInt_sub, Int32.toInt_mul, bm32, Int32.reduceToInt, Int64.reduceToInt, Nat.reduceLT, Nat.reduceEqDiff, reduceIte, o_9_2, o_9_3, o_9_4, o_9_5, o_9_6, o_9_14, o_9_42, w35xm0_2, w35xm0_3, w35xm0_4, w35xm0_5, w35xm0_6, w35xm0_14, w35xm0_42] at c_12
          cases e
          exact i_10
        · rw [if_neg c_12] at e
          try simp (disch := omega) only [↓i_in, ↓i_isCouple, ↓i_isBridge, ↓i_isTheme, ↓i_isBarge, i_lt, i_le, i_eq, i_clamp, i_upd, i_m1, Int32.toInt_toInt64, Int32.toInt_add, Int32.toInt_sub, Int32.toInt_mul, bm32, Int32.reduceToInt, Int64.reduceToInt, Nat.reduceLT, Nat.reduceEqDiff, reduceIte, o_9_2, o_9_3, o_9_4, o_9_5, o_9_6, o_9_14, o_9_42, w35xm0_2, w35xm0_3, w35xm0_4, w35xm0_5, w35xm0_6, w35xm0_14, w35xm0_42] at c_12
          cases e
          exact i_10
      · rw [if_neg c_11] at e
        try simp (disch := omega) only [↓i_in, ↓i_isCouple, ↓i_isBridge, ↓i_isTheme, ↓i_isBarge, i_lt, i_le, i_eq, i_clamp, i_upd, i_m1, Int32.toInt_toInt64, Int32.toInt_add, Int32.toInt_sub, Int32.toInt_mul, bm32, Int32.reduceToInt, Int64.reduceToInt, Nat.reduceLT, Nat.reduceEqDiff, reduceIte, o_9_2, o_9_3, o_9_4, o_9_5, o_9_6, o_9_14, o_9_42, w35xm0_2, w35xm0_3, w35xm0_4, w35xm0_5, w35xm0_6, w35xm0_14, w35xm0_42] at c_11
        by_cases c_13 : b_ = (-1)
        · rw [if_pos c_13] at e
          try simp (disch := omega) only [↓i_in, ↓i_isCouple, ↓i_isBridge, ↓i_isTheme, ↓i_isBarge, i_lt, i_le, i_eq, i_clamp, i_upd, i_m1, Int32.toInt_toInt64, Int32.toInt_add, Int32.toInt_sub, Int32.toInt_mul, bm32, Int32.reduceToInt, Int64.reduceToInt, Nat.reduceLT, Nat.reduceEqDiff, reduceIte, o_9_2, o_9_3, o_9_4, o_9_5, o_9_6, o_9_14, o_9_42, w35xm0_2, w35xm0_3, w35xm0_4, w35xm0_5, w35xm0_6, w35xm0_14, w35xm0_42] at c_13
          by_cases c_14 : (w35xm2 (0 : Int32).toNatClampNeg) = 1000000000
          · rw [if_pos c_14] at e
            try simp (disch := omega) only [↓i_in, ↓i_isCouple, ↓i_isBridge, ↓i_isTheme, ↓i_isBarge, i_lt, i_le, i_eq, i_clamp, i_upd, i_m1, Int32.toInt_toInt64, Int32.toInt_add, Int32.toInt_sub, Int32.toInt_mul, bm32, Int32.reduceToInt, Int64.reduceToInt, Nat.reduceLT, Nat.reduceEqDiff, reduceIte, o_9_2, o_9_3, o_9_4, o_9_5, o_9_6, o_9_14, o_9_42, w35xm0_2, w35xm0_3, w35xm0_4, w35xm0_5, w35xm0_6, w35xm0_14, w35xm0_42] at c_14
            cases e
            exact i_10
          · rw [if_neg c_14] at e
            try simp (disch := omega) only [↓i_in, ↓i_isCouple, ↓i_isBridge, ↓i_isTheme, ↓i_isBarge, i_lt, i_le, i_eq, i_clamp, i_upd, i_m1, Int32.toInt_toInt64, Int32.toInt_add, Int32.toInt_sub, Int32.toInt_mul, bm32, Int32.reduceToInt, Int64.reduceToInt, Nat.reduceLT, Nat.reduceEqDiff, reduceIte, o_9_2, o_9_3, o_9_4, o_9_5, o_9_6, o_9_14, o_9_42, w35xm0_2, w35xm0_3, w35xm0_4, w35xm0_5, w35xm0_6, w35xm0_14, w35xm0_42] at c_14
            cases e
            exact i_10
        · rw [if_neg c_13] at e
          try simp (disch := omega) only [↓i_in, ↓i_isCouple, ↓i_isBridge, ↓i_isTheme, ↓i_isBarge, i_lt, i_le, i_eq, i_clamp, i_upd, i_m1, Int32.toInt_toInt64, Int32.toInt_add, Int32.toInt_sub, Int32.toInt_mul, bm32, Int32.reduceToInt, Int64.reduceToInt, Nat.reduceLT, Nat.reduceEqDiff, reduceIte, o_9_2, o_9_3, o_9_4, o_9_5, o_9_6, o_9_14, o_9_42, w35xm0_2, w35xm0_3, w35xm0_4, w35xm0_5, w35xm0_6, w35xm0_14, w35xm0_42] at c_13
          generalize x_15 : (f_m_who_262 b_ 10 0 (-1) 0 w35xm0 w35xm1 w35xm2) = z_16 at e
          obtain ⟨w262xl5, w262xl4, w262xl3, w262xm0, w262xm1, w262xm2⟩ := z_16
          replace e : ((w262xl4, w262xm0, w262xm1, w262xm2)) = (r, u, v, w) := e
          have p_17 := pl_who_262 10 0 (-1) 0 w35xm0 w35xm1 w35xm2 i_10 _ _ _ _ _ _ x_15
          have i_18 := p_17
          obtain ⟨w262xm0_2, w262xm0_3, w262xm0_4, w262xm0_5, w262xm0_6, w262xm0_14, w262xm0_42⟩ := QGs i_18
          cases e
          exact i_18
    · rw [if_neg c_2] at e
      try simp (disch := omega) only [↓i_in, ↓i_isCouple, ↓i_isBridge, ↓i_isTheme, ↓i_isBarge, i_lt, i_le, i_eq, i_clamp, i_upd, i_m1, Int32.toInt_toInt64, Int32.toInt_add, Int32.toInt_sub, Int32.toInt_mul, bm32, Int32.reduceToInt, Int64.reduceToInt, Nat.reduceLT, Nat.reduceEqDiff, reduceIte] at c_2
      by_cases c_19 : (f_m_in b_.toInt64 0 m_.toInt64) = 0
      · rw [if_pos c_19] at e
        try simp (disch := omega) only [↓i_in, ↓i_isCouple, ↓i_isBridge, ↓i_isTheme, ↓i_isBarge, i_lt, i_le, i_eq, i_clamp, i_upd, i_m1, Int32.toInt_toInt64, Int32.toInt_add, Int32.toInt_sub, Int32.toInt_mul, bm32, Int32.reduceToInt, Int64.reduceToInt, Nat.reduceLT, Nat.reduceEqDiff, reduceIte] at c_19
        cases e
        exact (QG.refl _)
      · rw [if_neg c_19] at e
        try simp (disch := omega) only [↓i_in, ↓i_isCouple, ↓i_isBridge, ↓i_isTheme, ↓i_isBarge, i_lt, i_le, i_eq, i_clamp, i_upd, i_m1, Int32.toInt_toInt64, Int32.toInt_add, Int32.toInt_sub, Int32.toInt_mul, bm32, Int32.reduceToInt, Int64.reduceToInt, Nat.reduceLT, Nat.reduceEqDiff, reduceIte] at c_19
        generalize x_20 : (f_m_layCosts G f0 f10 f8 f37) = z_21 at e
        obtain ⟨o_77, o_78⟩ := z_21
        replace e : ((match ((f_m_who_35 m_ 10 (m_ + 1) o_77 o_78 f36) : Int32 × (Nat → Int32) × (Nat → Int32) × (Nat → Int32)) with | (w35xl3, w35xm0, w35xm1, w35xm2) => (if (w35xm2 (0 : Int32).toNatClampNeg) = 1000000000 then (if (w35xm2 (0 : Int32).toNatClampNeg) = 1000000000 then ((-1), w35xm0, w35xm1, w35xm2) else ((w35xm2 (0 : Int32).toNatClampNeg), w35xm0, w35xm1, w35xm2)) else (if b_ = (-1) then (if (w35xm2 (0 : Int32).toNatClampNeg) = 1000000000 then ((-1), w35xm0, w35xm1, w35xm2) else ((w35xm2 (0 : Int32).toNatClampNeg), w35xm0, w35xm1, w35xm2)) else (match ((f_m_who_262 b_ 10 0 (-1) 0 w35xm0 w35xm1 w35xm2) : Int32 × Int32 × Int32 × (Nat → Int32) × (Nat → Int32) × (Nat → Int32)) with | (w262xl5, w262xl4, w262xl3, w262xm0, w262xm1, w262xm2) => (w262xl4, w262xm0, w262xm1, w262xm2)))))) = (r, u, v, w) := e
        have p_22 := p_layCosts h_0 _ _ x_20
        have i_23 := p_22
        obtain ⟨o_77_2, o_77_3, o_77_4, o_77_5, o_77_6, o_77_14, o_77_42⟩ := QGs i_23
        generalize x_24 : (f_m_who_35 m_ 10 (m_ + 1) o_77 o_78 f36) = z_25 at e
        obtain ⟨w35xl3, w35xm0, w35xm1, w35xm2⟩ := z_25
        replace e : ((if (w35xm2 (0 : Int32).toNatClampNeg) = 1000000000 then (if (w35xm2 (0 : Int32).toNatClampNeg) = 1000000000 then ((-1), w35xm0, w35xm1, w35xm2) else ((w35xm2 (0 : Int32).toNatClampNeg), w35xm0, w35xm1, w35xm2)) else (if b_ = (-1) then (if (w35xm2 (0 : Int32).toNatClampNeg) = 1000000000 then ((-1), w35xm0, w35xm1, w35xm2) else ((w35xm2 (0 : Int32).toNatClampNeg), w35xm0, w35xm1, w35xm2)) else (match ((f_m_who_262 b_ 10 0 (-1) 0 w35xm0 w35xm1 w35xm2) : Int32 × Int32 × Int32 × (Nat → Int32) × (Nat → Int32) × (Nat → Int32)) with | (w262xl5, w262xl4, w262xl3, w262xm0, w262xm1, w262xm2) => (w262xl4, w262xm0, w262xm1, w262xm2))))) = (r, u, v, w) := e
        have p_26 := pl_who_35 10 (m_ + 1) o_77 o_78 f36 i_23 _ _ _ _ x_24
        have i_27 := p_26
        obtain ⟨w35xm0_2, w35xm0_3, w35xm0_4, w35xm0_5, w35xm0_6, w35xm0_14, w35xm0_42⟩ := QGs i_27
        by_cases c_28 : (w35xm2 (0 : Int32).toNatClampNeg) = 1000000000
        · rw [if_pos c_28] at e
          try simp (disch := omega) only [↓i_in, ↓i_isCouple, ↓i_isBridge, ↓i_isTheme, ↓i_isBarge, i_lt, i_le, i_eq, i_clamp, i_upd, i_m1, Int32.toInt_toInt64, Int32.toInt_add, Int32.toInt_sub, Int32.toInt_mul, bm32, Int32.reduceToInt, Int64.reduceToInt, Nat.reduceLT, Nat.reduceEqDiff, reduceIte, o_77_2, o_77_3, o_77_4, o_77_5, o_77_6, o_77_14, o_77_42, w35xm0_2, w35xm0_3, w35xm0_4, w35xm0_5, w35xm0_6, w35xm0_14, w35xm0_42] at c_28
          by_cases c_29 : (w35xm2 (0 : Int32).toNatClampNeg) = 1000000000
          · rw [if_pos c_29] at e
            try simp (disch := omega) only [↓i_in, ↓i_isCouple, ↓i_isBridge, ↓i_isTheme, ↓i_isBarge, i_lt, i_le, i_eq, i_clamp, i_upd, i_m1, Int32.toInt_toInt64, Int32.toInt_add, Int32.toInt_sub, Int32.toInt_mul, bm32, Int32.reduceToInt, Int64.reduceToInt, Nat.reduceLT, Nat.reduceEqDiff, reduceIte, o_77_2, o_77_3, o_77_4, o_77_5, o_77_6, o_77_14, o_77_42, w35xm0_2, w35xm0_3, w35xm0_4, w35xm0_5, w35xm0_6, w35xm0_14, w35xm0_42] at c_29
            cases e
            exact i_27
          · rw [if_neg c_29] at e
            try simp (disch := omega) only [↓i_in, ↓i_isCouple, ↓i_isBridge, ↓i_isTheme, ↓i_isBarge, i_lt, i_le, i_eq, i_clamp, i_upd, i_m1, Int32.toInt_toInt64, Int32.toInt_add, Int32.toInt_sub, Int32.toInt_mul, bm32, Int32.reduceToInt, Int64.reduceToInt, Nat.reduceLT, Nat.reduceEqDiff, reduceIte, o_77_2, o_77_3, o_77_4, o_77_5, o_77_6, o_77_14, o_77_42, w35xm0_2, w35xm0_3, w35xm0_4, w35xm0_5, w35xm0_6, w35xm0_14, w35xm0_42] at c_29
            cases e
            exact i_27
        · rw [if_neg c_28] at e
          try simp (disch := omega) only [↓i_in, ↓i_isCouple, ↓i_isBridge, ↓i_isTheme, ↓i_isBarge, i_lt, i_le, i_eq, i_clamp, i_upd, i_m1, Int32.toInt_toInt64, Int32.toInt_add, Int32.toInt_sub, Int32.toInt_mul, bm32, Int32.reduceToInt, Int64.reduceToInt, Nat.reduceLT, Nat.reduceEqDiff, reduceIte, o_77_2, o_77_3, o_77_4, o_77_5, o_77_6, o_77_14, o_77_42, w35xm0_2, w35xm0_3, w35xm0_4, w35xm0_5, w35xm0_6, w35xm0_14, w35xm0_42] at c_28
          by_cases c_30 : b_ = (-1)
          · rw [if_pos c_30] at e
            try simp (disch := omega) only [↓i_in, ↓i_isCouple, ↓i_isBridge, ↓i_isTheme, ↓i_isBarge, i_lt, i_le, i_eq, i_clamp, i_upd, i_m1, Int32.toInt_toInt64, Int32.toInt_add, Int32.toInt_sub, Int32.toInt_mul, bm32, Int32.reduceToInt, Int64.reduceToInt, Nat.reduceLT, Nat.reduceEqDiff, reduceIte, o_77_2, o_77_3, o_77_4, o_77_5, o_77_6, o_77_14, o_77_42, w35xm0_2, w35xm0_3, w35xm0_4, w35xm0_5, w35xm0_6, w35xm0_14, w35xm0_42] at c_30
            by_cases c_31 : (w35xm2 (0 : Int32).toNatClampNeg) = 1000000000
            · rw [if_pos c_31] at e
              try simp (disch := omega) only [↓i_in, ↓i_isCouple, ↓i_isBridge, ↓i_isTheme, ↓i_isBarge, i_lt, i_le, i_eq, i_clamp, i_upd, i_m1, Int32.toInt_toInt64, Int32.toInt_add, Int32.toInt_sub, Int32.toInt_mul, bm32, Int32.reduceToInt, Int64.reduceToInt, Nat.reduceLT, Nat.reduceEqDiff, reduceIte, o_77_2, o_77_3, o_77_4, o_77_5, o_77_6, o_77_14, o_77_42, w35xm0_2, w35xm0_3, w35xm0_4, w35xm0_5, w35xm0_6, w35xm0_14, w35xm0_42] at c_31
              cases e
              exact i_27
            · rw [if_neg c_31] at e
              try simp (disch := omega) only [↓i_in, ↓i_isCouple, ↓i_isBridge, ↓i_isTheme, ↓i_isBarge, i_lt, i_le, i_eq, i_clamp, i_upd, i_m1, Int32.toInt_toInt64, Int32.toInt_add, Int32.toInt_sub, Int32.toInt_mul, bm32, Int32.reduceToInt, Int64.reduceToInt, Nat.reduceLT, Nat.reduceEqDiff, reduceIte, o_77_2, o_77_3, o_77_4, o_77_5, o_77_6, o_77_14, o_77_42, w35xm0_2, w35xm0_3, w35xm0_4, w35xm0_5, w35xm0_6, w35xm0_14, w35xm0_42] at c_31
              cases e
              exact i_27
          · rw [if_neg c_30] at e
            try simp (disch := omega) only [↓i_in, ↓i_isCouple, ↓i_isBridge, ↓i_isTheme, ↓i_isBarge, i_lt, i_le, i_eq, i_clamp, i_upd, i_m1, Int32.toInt_toInt64, Int32.toInt_add, Int32.toInt_sub, Int32.toInt_mul, bm32, Int32.reduceToInt, Int64.reduceToInt, Nat.reduceLT, Nat.reduceEqDiff, reduceIte, o_77_2, o_77_3, o_77_4, o_77_5, o_77_6, o_77_14, o_77_42, w35xm0_2, w35xm0_3, w35xm0_4, w35xm0_5, w35xm0_6, w35xm0_14, w35xm0_42] at c_30
            generalize x_32 : (f_m_who_262 b_ 10 0 (-1) 0 w35xm0 w35xm1 w35xm2) = z_33 at e
            obtain ⟨w262xl5, w262xl4, w262xl3, w262xm0, w262xm1, w262xm2⟩ := z_33
            replace e : ((w262xl4, w262xm0, w262xm1, w262xm2)) = (r, u, v, w) := e
            have p_34 := pl_who_262 10 0 (-1) 0 w35xm0 w35xm1 w35xm2 i_27 _ _ _ _ _ _ x_32
            have i_35 := p_34
            obtain ⟨w262xm0_2, w262xm0_3, w262xm0_4, w262xm0_5, w262xm0_6, w262xm0_14, w262xm0_42⟩ := QGs i_35
            cases e
            exact i_35
end
