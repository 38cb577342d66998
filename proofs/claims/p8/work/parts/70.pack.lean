section
theorem bm32 {z : Int} (h1 : -2147483648 ≤ z) (h2 : z < 2147483648) : z.bmod (2 ^ 32) = z := by
  rw [Int.bmod_eq_of_le] <;> omega
theorem i_lt (a b : Int32) : a < b ↔ a.toInt < b.toInt := Int32.lt_iff_toInt_lt
theorem i_le (a b : Int32) : a ≤ b ↔ a.toInt ≤ b.toInt := Int32.le_iff_toInt_le
theorem i_eq (a b : Int32) : a = b ↔ a.toInt = b.toInt := Int32.toInt_inj.symm
theorem i_clamp (a : Int32) : a.toNatClampNeg = a.toInt.toNat := rfl
theorem i_m1 : (-1 : Int32).toInt = -1 := by decide
theorem i_upd (f : Nat → Int32) (k j : Nat) (x : Int32) : upd f k x j = if j = k then x else f j := rfl
theorem i_in (x y z : Int64) : f_m_in x y z = 0 ↔ ¬ (y.toInt ≤ x.toInt ∧ x.toInt ≤ z.toInt) := by
  unfold f_m_in
  rw [← Int64.le_iff_toInt_le, ← Int64.le_iff_toInt_le]
  by_cases h : lg_cmp x y < 0
  · rw [if_pos h]
    have h2 := (lg_cmp_lt x y).mp h
    refine ⟨fun _ q => ?_, fun _ => rfl⟩
    exact absurd q.1 (Int64.not_le.mpr h2)
  · rw [if_neg h]
    have h2 : y ≤ x := Int64.not_lt.mp (fun q => h ((lg_cmp_lt x y).mpr q))
    by_cases h3 : 0 < lg_cmp x z
    · rw [if_pos h3]
      have h4 := (lg_cmp_gt x z).mp h3
      exact ⟨fun _ q => absurd q.2 (Int64.not_le.mpr h4), fun _ => rfl⟩
    · rw [if_neg h3]
      have h4 : x ≤ z := Int64.not_lt.mp (fun q => h3 ((lg_cmp_gt x z).mpr q))
      exact ⟨fun q => absurd q (by decide), fun q => absurd ⟨h2, h4⟩ q⟩
theorem i_isCouple (G : Nat → Int32) (v : Int32) : f_m_isCouple G v = 0 ↔ ¬ (0 ≤ v.toInt ∧ v.toInt ≤ (G 5 - 1).toInt) := by
  unfold f_m_isCouple
  rw [i_in, Int32.toInt_toInt64, Int32.toInt_toInt64]
  exact Iff.rfl
theorem i_isBridge (G : Nat → Int32) (v : Int32) : f_m_isBridge G v = 0 ↔ ¬ (0 ≤ v.toInt ∧ v.toInt ≤ (G 3 - 1).toInt) := by
  unfold f_m_isBridge
  rw [i_in, Int32.toInt_toInt64, Int32.toInt_toInt64]
  exact Iff.rfl
theorem i_isTheme (G : Nat → Int32) (v : Int32) : f_m_isTheme G v = 0 ↔ ¬ (0 ≤ v.toInt ∧ v.toInt ≤ (G 4 - 1).toInt) := by
  unfold f_m_isTheme
  rw [i_in, Int32.toInt_toInt64, Int32.toInt_toInt64]
  exact Iff.rfl
theorem i_isBarge (G : Nat → Int32) (v : Int32) : f_m_isBarge G v = 0 ↔ ¬ (0 ≤ v.toInt ∧ v.toInt ≤ (G 6 - 1).toInt) := by
  unfold f_m_isBarge
  rw [i_in, Int32.toInt_toInt64, Int32.toInt_toInt64]
  exact Iff.rfl
def QG (G H : Nat → Int32) : Prop := ∀ k, k < 32 ∨ 36 ≤ k → H k = G k
theorem QG.refl (G : Nat → Int32) : QG G G := fun _ _ => rfl
theorem QG.trans {A B C : Nat → Int32} (h : QG A B) (q : QG B C) : QG A C := fun k hk => (q k hk).trans (h k hk)
theorem QG_upd {A B : Nat → Int32} {k : Nat} {x : Int32} (h : QG A B) (h1 : 32 ≤ k) (h2 : k < 36) : QG A (upd B k x) := fun j hj => (pk_un (by omega)).trans (h j hj)
theorem QGs {G H : Nat → Int32} (h : QG G H) : H 2 = G 2 ∧ H 3 = G 3 ∧ H 4 = G 4 ∧ H 5 = G 5 ∧ H 6 = G 6 ∧ H 14 = G 14 ∧ H 42 = G 42 := ⟨h 2 (by decide), h 3 (by decide), h 4 (by decide), h 5 (by decide), h 6 (by decide), h 14 (by decide), h 42 (by decide)⟩
def GI (G : Nat → Int32) : Prop := (0 ≤ (G 2).toInt ∧ (G 2).toInt ≤ 20) ∧ (0 ≤ (G 3).toInt ∧ (G 3).toInt ≤ 6) ∧ (0 ≤ (G 4).toInt ∧ (G 4).toInt ≤ 5) ∧ (0 ≤ (G 5).toInt ∧ (G 5).toInt ≤ 6) ∧ (0 ≤ (G 6).toInt ∧ (G 6).toInt ≤ 7) ∧ (0 ≤ (G 14).toInt ∧ (G 14).toInt ≤ 240) ∧ (0 ≤ (G 42).toInt ∧ (G 42).toInt ≤ 15)
theorem GI.of {G H : Nat → Int32} (q : QG G H) (h : GI G) : GI H := by
  obtain ⟨a, b, c, d, e, f, g⟩ := QGs q
  unfold GI
  rw [a, b, c, d, e, f, g]
  exact h
def QF (G H : Nat → Int32) : Prop := ∀ k, k < 32 ∨ k = 42 → H k = G k
theorem QG.w {G H : Nat → Int32} (h : QG G H) : QF G H := fun k hk => h k (by omega)
theorem QF.refl (G : Nat → Int32) : QF G G := fun _ _ => rfl
theorem QF.trans {A B C : Nat → Int32} (h : QF A B) (q : QF B C) : QF A C := fun k hk => (q k hk).trans (h k hk)
theorem QF_upd {A B : Nat → Int32} {k : Nat} {x : Int32} (h : QF A B) (h1 : 32 ≤ k) (h2 : k ≠ 42) : QF A (upd B k x) := fun j hj => (pk_un (by omega)).trans (h j hj)
theorem QFs {G H : Nat → Int32} (h : QF G H) : H 2 = G 2 ∧ H 3 = G 3 ∧ H 4 = G 4 ∧ H 5 = G 5 ∧ H 6 = G 6 ∧ H 14 = G 14 ∧ H 42 = G 42 := ⟨h 2 (by decide), h 3 (by decide), h 4 (by decide), h 5 (by decide), h 6 (by decide), h 14 (by decide), h 42 (by decide)⟩
theorem GI.off {G H : Nat → Int32} (q : QF G H) (h : GI G) : GI H := by
  obtain ⟨a, b, c, d, e, f, g⟩ := QFs q
  unfold GI
  rw [a, b, c, d, e, f, g]
  exact h
theorem GI_upd {G : Nat → Int32} {k : Nat} {x : Int32} (h : GI G) (hk : k ≠ 2 ∧ k ≠ 3 ∧ k ≠ 4 ∧ k ≠ 5 ∧ k ≠ 6 ∧ k ≠ 14 ∧ k ≠ 42) : GI (upd G k x) := by
  unfold GI
  rw [pk_un (f := G) hk.1.symm, pk_un (f := G) hk.2.1.symm, pk_un (f := G) hk.2.2.1.symm, pk_un (f := G) hk.2.2.2.1.symm, pk_un (f := G) hk.2.2.2.2.1.symm, pk_un (f := G) hk.2.2.2.2.2.1.symm, pk_un (f := G) hk.2.2.2.2.2.2.symm]
  exact h
theorem GI_u2 {G : Nat → Int32} {x : Int32} (h : GI G) (h1 : 0 ≤ x.toInt) (h2 : x.toInt ≤ 20) : GI (upd G 2 x) := by
  obtain ⟨⟨a1, a2⟩, ⟨b1, b2⟩, ⟨c1, c2⟩, ⟨d1, d2⟩, ⟨e1, e2⟩, ⟨f1, f2⟩, ⟨g1, g2⟩⟩ := h
  unfold GI
  simp only [i_upd, Nat.reduceEqDiff, reduceIte]
  omega
theorem GI_u3 {G : Nat → Int32} {x : Int32} (h : GI G) (h1 : 0 ≤ x.toInt) (h2 : x.toInt ≤ 6) : GI (upd G 3 x) := by
  obtain ⟨⟨a1, a2⟩, ⟨b1, b2⟩, ⟨c1, c2⟩, ⟨d1, d2⟩, ⟨e1, e2⟩, ⟨f1, f2⟩, ⟨g1, g2⟩⟩ := h
  unfold GI
  simp only [i_upd, Nat.reduceEqDiff, reduceIte]
  omega
theorem GI_u4 {G : Nat → Int32} {x : Int32} (h : GI G) (h1 : 0 ≤ x.toInt) (h2 : x.toInt ≤ 5) : GI (upd G 4 x) := by
  obtain ⟨⟨a1, a2⟩, ⟨b1, b2⟩, ⟨c1, c2⟩, ⟨d1, d2⟩, ⟨e1, e2⟩, ⟨f1, f2⟩, ⟨g1, g2⟩⟩ := h
  unfold GI
  simp only [i_upd, Nat.reduceEqDiff, reduceIte]
  omega
theorem GI_u5 {G : Nat → Int32} {x : Int32} (h : GI G) (h1 : 0 ≤ x.toInt) (h2 : x.toInt ≤ 6) : GI (upd G 5 x) := by
  obtain ⟨⟨a1, a2⟩, ⟨b1, b2⟩, ⟨c1, c2⟩, ⟨d1, d2⟩, ⟨e1, e2⟩, ⟨f1, f2⟩, ⟨g1, g2⟩⟩ := h
  unfold GI
  simp only [i_upd, Nat.reduceEqDiff, reduceIte]
  omega
theorem GI_u6 {G : Nat → Int32} {x : Int32} (h : GI G) (h1 : 0 ≤ x.toInt) (h2 : x.toInt ≤ 7) : GI (upd G 6 x) := by
  obtain ⟨⟨a1, a2⟩, ⟨b1, b2⟩, ⟨c1, c2⟩, ⟨d1, d2⟩, ⟨e1, e2⟩, ⟨f1, f2⟩, ⟨g1, g2⟩⟩ := h
  unfold GI
  simp only [i_upd, Nat.reduceEqDiff, reduceIte]
  omega
theorem GI_u14 {G : Nat → Int32} {x : Int32} (h : GI G) (h1 : 0 ≤ x.toInt) (h2 : x.toInt ≤ 240) : GI (upd G 14 x) := by
  obtain ⟨⟨a1, a2⟩, ⟨b1, b2⟩, ⟨c1, c2⟩, ⟨d1, d2⟩, ⟨e1, e2⟩, ⟨f1, f2⟩, ⟨g1, g2⟩⟩ := h
  unfold GI
  simp only [i_upd, Nat.reduceEqDiff, reduceIte]
  omega
theorem GI_u42 {G : Nat → Int32} {x : Int32} (h : GI G) (h1 : 0 ≤ x.toInt) (h2 : x.toInt ≤ 15) : GI (upd G 42 x) := by
  obtain ⟨⟨a1, a2⟩, ⟨b1, b2⟩, ⟨c1, c2⟩, ⟨d1, d2⟩, ⟨e1, e2⟩, ⟨f1, f2⟩, ⟨g1, g2⟩⟩ := h
  unfold GI
  simp only [i_upd, Nat.reduceEqDiff, reduceIte]
  omega
def OKv (i : Nat) (x : Int32) : Prop := (12 ≤ i % 42 ∧ i % 42 < 18 → 0 ≤ x.toInt ∧ x.toInt ≤ 4) ∧ (i % 42 = 41 → 0 ≤ x.toInt)
theorem OKv.mk {i : Nat} {x : Int32} (h : (12 ≤ i % 42 ∧ i % 42 < 18 → 0 ≤ x.toInt ∧ x.toInt ≤ 4) ∧ (i % 42 = 41 → 0 ≤ x.toInt)) : OKv i x := h
theorem OKv.out {i : Nat} {x : Int32} (h : ¬ (12 ≤ i % 42 ∧ i % 42 < 18) ∧ ¬ i % 42 = 41) : OKv i x := ⟨fun q => absurd q h.1, fun q => absurd q h.2⟩
theorem OKv.z {i : Nat} : OKv i 0 := ⟨fun _ => by decide, fun _ => by decide⟩
theorem OKv.same {i j : Nat} {x : Int32} (e : i % 42 = j % 42) (h : OKv j x) : OKv i x := by
  unfold OKv at h ⊢
  rw [e]
  exact h
def WI (w : Nat → Int32) : Prop := ∀ i, OKv i (w i)
theorem WI_upd {w : Nat → Int32} {i : Nat} {x : Int32} (h : WI w) (hx : OKv i x) : WI (upd w i x) := by
  intro j
  by_cases q : j = i
  · subst q
    rw [pk_us]
    exact hx
  · rw [pk_un q]
    exact h j
def RI (f : Nat → Int32) : Prop := ∀ i, 0 ≤ (f i).toInt ∧ (f i).toInt ≤ 5
theorem RI_upd {w : Nat → Int32} {i : Nat} {x : Int32} (h : RI w) (h1 : 0 ≤ x.toInt) (h2 : x.toInt ≤ 5) : RI (upd w i x) := by
  intro j
  by_cases q : j = i
  · subst q
    rw [pk_us]
    exact ⟨h1, h2⟩
  · rw [pk_un q]
    exact h j
set_option maxHeartbeats 4000000 in
theorem s_in {x : Int64} {y : Int64} {z : Int64} : S_m_in x y z := by
  unfold S_m_in
  refine ⟨fun c_1 => ?_, fun c_1 => ?_⟩
  · exact trivial
  · skip
    try simp (disch := omega) only [↓i_in, ↓i_isCouple, ↓i_isBridge, ↓i_isTheme, ↓i_isBarge, i_lt, i_le, i_eq, i_clamp, i_upd, i_m1, Int32.toInt_toInt64, Int32.toInt_add, Int32.toInt_sub, Int32.toInt_mul, bm32, Int32.reduceToInt, Int64.reduceToInt, Nat.reduceLT, Nat.reduceEqDiff, reduceIte] at c_1
    refine ⟨fun c_2 => ?_, fun c_2 => ?_⟩
    · exact trivial
    · exact trivial
set_option maxHeartbeats 4000000 in
theorem s_has {s_ : Int32} {k_ : Int32} : S_m_has s_ k_ := by
  unfold S_m_has
  refine ⟨fun c_1 => ?_, fun c_1 => ?_⟩
  · exact trivial
  · exact trivial
set_option maxHeartbeats 4000000 in
theorem s_isBridge {G : Nat → Int32} {v_ : Int32} : S_m_isBridge G v_ := by
  unfold S_m_isBridge
  refine ⟨s_in, ?_⟩
  exact trivial
set_option maxHeartbeats 4000000 in
theorem s_isCouple {G : Nat → Int32} {v_ : Int32} : S_m_isCouple G v_ := by
  unfold S_m_isCouple
  refine ⟨s_in, ?_⟩
  exact trivial
set_option maxHeartbeats 4000000 in
theorem s_isTheme {G : Nat → Int32} {v_ : Int32} : S_m_isTheme G v_ := by
  unfold S_m_isTheme
  refine ⟨s_in, ?_⟩
  exact trivial
set_option maxHeartbeats 4000000 in
theorem s_isBarge {G : Nat → Int32} {v_ : Int32} : S_m_isBarge G v_ := by
  unfold S_m_isBarge
  refine ⟨s_in, ?_⟩
  exact trivial
set_option maxHeartbeats 4000000 in
theorem s_isDone {f0 : Nat → Int32} {c_ : Int32} : S_m_isDone f0 c_ := by
  unfold S_m_isDone
  refine ⟨s_has, ?_⟩
  exact trivial
set_option maxHeartbeats 4000000 in
theorem s_fails {G : Nat → Int32} {k_ : Int32} {p_ : Int32} : S_m_fails G k_ p_ := by
  unfold S_m_fails
  exact trivial
set_option maxHeartbeats 4000000 in
theorem s_fault {G : Nat → Int32} : S_m_fault G := by
  unfold S_m_fault
  exact trivial
set_option maxHeartbeats 4000000 in
theorem s_tear {G : Nat → Int32} : S_m_tear G := by
  unfold S_m_tear
  exact trivial
set_option maxHeartbeats 4000000 in
theorem s_seed {f0 : Nat → Int32} {v_ : Int32} : S_m_seed f0 v_ := by
  unfold S_m_seed
  refine ⟨fun c_1 => ?_, fun c_1 => ?_⟩
  · exact trivial
  · exact trivial
set_option maxHeartbeats 4000000 in
theorem sl_ones_4 {s_ : Int32} {K : Int32 → Int32 → Prop} (hK : ∀ w_1l2 w_1l1, True → K w_1l2 w_1l1) : ∀ (n : Nat) w_1l2 w_1l1, True → S_m_ones_4 s_ K n w_1l2 w_1l1 := by
  intro n
  induction n with
  | zero => intro w_1l2 w_1l1 hI; exact trivial
  | succ n ih =>
    intro w_1l2 w_1l1 hI
    rw [S_m_ones_4_s]
    have hI0 := hI
    refine ⟨fun c_1 => ?_, fun c_1 => ?_⟩
    · skip
      try simp (disch := omega) only [↓i_in, ↓i_isCouple, ↓i_isBridge, ↓i_isTheme, ↓i_isBarge, i_lt, i_le, i_eq, i_clamp, i_upd, i_m1, Int32.toInt_toInt64, Int32.toInt_add, Int32.toInt_sub, Int32.toInt_mul, bm32, Int32.reduceToInt, Int64.reduceToInt, Nat.reduceLT, Nat.reduceEqDiff, reduceIte] at c_1
      exact hK w_1l2 w_1l1 hI
    · skip
      try simp (disch := omega) only [↓i_in, ↓i_isCouple, ↓i_isBridge, ↓i_isTheme, ↓i_isBarge, i_lt, i_le, i_eq, i_clamp, i_upd, i_m1, Int32.toInt_toInt64, Int32.toInt_add, Int32.toInt_sub, Int32.toInt_mul, bm32, Int32.reduceToInt, Int64.reduceToInt, Nat.reduceLT, Nat.reduceEqDiff, reduceIte] at c_1
      exact ih (w_1l2 + 1) (w_1l1 + ((s_ >>> (w_1l2 &&& 31)) &&& 1)) trivial
set_option maxHeartbeats 4000000 in
theorem s_ones {s_ : Int32} : S_m_ones s_ := by
  unfold S_m_ones
  refine sl_ones_4 ?_ (((6 : Int32).toInt - (0 : Int32).toInt).toNat + 1) 0 0 trivial
  intro w_1l2 w_1l1 i_1
  exact trivial
set_option maxHeartbeats 4000000 in
theorem sl_copy_2 {from_ : Int32} {to_ : Int32} {K : Int32 → (Nat → Int32) → Prop} (h_0 : 0 ≤ from_.toInt) (h_1 : from_.toInt ≤ 1260) (h_2 : 0 ≤ to_.toInt) (h_3 : to_.toInt ≤ 1260) (hK : ∀ w_1l3 w_1m0, ((0 ≤ w_1l3.toInt) ∧ (w_1l3.toInt ≤ 42)) → K w_1l3 w_1m0) : ∀ (n : Nat) w_1l3 w_1m0, ((0 ≤ w_1l3.toInt) ∧ (w_1l3.toInt ≤ 42)) → S_m_copy_2 from_ to_ K n w_1l3 w_1m0 := by
  intro n
  induction n with
  | zero => intro w_1l3 w_1m0 hI; exact trivial
  | succ n ih =>
    intro w_1l3 w_1m0 hI
    rw [S_m_copy_2_s]
    have hI0 := hI
    obtain ⟨i_1, i_2⟩ := hI0
    refine ⟨fun c_3 => ?_, fun c_3 => ?_⟩
    · skip
      try simp (disch := omega) only [↓i_in, ↓i_isCouple, ↓i_isBridge, ↓i_isTheme, ↓i_isBarge, i_lt, i_le, i_eq, i_clamp, i_upd, i_m1, Int32.toInt_toInt64, Int32.toInt_add, Int32.toInt_sub, Int32.toInt_mul, bm32, Int32.reduceToInt, Int64.reduceToInt, Nat.reduceLT, Nat.reduceEqDiff, reduceIte] at c_3
      exact hK w_1l3 w_1m0 hI
    · skip
      try simp (disch := omega) only [↓i_in, ↓i_isCouple, ↓i_isBridge, ↓i_isTheme, ↓i_isBarge, i_lt, i_le, i_eq, i_clamp, i_upd, i_m1, Int32.toInt_toInt64, Int32.toInt_add, Int32.toInt_sub, Int32.toInt_mul, bm32, Int32.reduceToInt, Int64.reduceToInt, Nat.reduceLT, Nat.reduceEqDiff, reduceIte] at c_3
      refine ⟨vp_in_iff.mpr (by first | omega | (simp (disch := omega) only [↓i_in, ↓i_isCouple, ↓i_isBridge, ↓i_isTheme, ↓i_isBarge, i_lt, i_le, i_eq, i_clamp, i_upd, i_m1, Int32.toInt_toInt64, Int32.toInt_add, Int32.toInt_sub, Int32.toInt_mul, bm32, Int32.reduceToInt, Int64.reduceToInt, Nat.reduceLT, Nat.reduceEqDiff, reduceIte] <;> omega)), ?_⟩
      refine ⟨vp_in_iff.mpr (by first | omega | (simp (disch := omega) only [↓i_in, ↓i_isCouple, ↓i_isBridge, ↓i_isTheme, ↓i_isBarge, i_lt, i_le, i_eq, i_clamp, i_upd, i_m1, Int32.toInt_toInt64, Int32.toInt_add, Int32.toInt_sub, Int32.toInt_mul, bm32, Int32.reduceToInt, Int64.reduceToInt, Nat.reduceLT, Nat.reduceEqDiff, reduceIte] <;> omega)), ?_⟩
      exact ih (w_1l3 + 1) (upd w_1m0 ((to_ + w_1l3) : Int32).toNatClampNeg (w_1m0 ((from_ + w_1l3) : Int32).toNatClampNeg)) (⟨(by first | omega | (simp (disch := omega) only [↓i_in, ↓i_isCouple, ↓i_isBridge, ↓i_isTheme, ↓i_isBarge, i_lt, i_le, i_eq, i_clamp, i_upd, i_m1, Int32.toInt_toInt64, Int32.toInt_add, Int32.toInt_sub, Int32.toInt_mul, bm32, Int32.reduceToInt, Int64.reduceToInt, Nat.reduceLT, Nat.reduceEqDiff, reduceIte] <;> omega)), (by first | omega | (simp (disch := omega) only [↓i_in, ↓i_isCouple, ↓i_isBridge, ↓i_isTheme, ↓i_isBarge, i_lt, i_le, i_eq, i_clamp, i_upd, i_m1, Int32.toInt_toInt64, Int32.toInt_add, Int32.toInt_sub, Int32.toInt_mul, bm32, Int32.reduceToInt, Int64.reduceToInt, Nat.reduceLT, Nat.reduceEqDiff, reduceIte] <;> omega))⟩)
set_option maxHeartbeats 4000000 in
theorem s_copy {f0 : Nat → Int32} {from_ : Int32} {to_ : Int32} (h_0 : 0 ≤ from_.toInt) (h_1 : from_.toInt ≤ 1260) (h_2 : 0 ≤ to_.toInt) (h_3 : to_.toInt ≤ 1260) : S_m_copy f0 from_ to_ := by
  unfold S_m_copy
  refine sl_copy_2 (by first | omega | (simp (disch := omega) only [↓i_in, ↓i_isCouple, ↓i_isBridge, ↓i_isTheme, ↓i_isBarge, i_lt, i_le, i_eq, i_clamp, i_upd, i_m1, Int32.toInt_toInt64, Int32.toInt_add, Int32.toInt_sub, Int32.toInt_mul, bm32, Int32.reduceToInt, Int64.reduceToInt, Nat.reduceLT, Nat.reduceEqDiff, reduceIte] <;> omega)) (by first | omega | (simp (disch := omega) only [↓i_in, ↓i_isCouple, ↓i_isBridge, ↓i_isTheme, ↓i_isBarge, i_lt, i_le, i_eq, i_clamp, i_upd, i_m1, Int32.toInt_toInt64, Int32.toInt_add, Int32.toInt_sub, Int32.toInt_mul, bm32, Int32.reduceToInt, Int64.reduceToInt, Nat.reduceLT, Nat.reduceEqDiff, reduceIte] <;> omega)) (by first | omega | (simp (disch := omega) only [↓i_in, ↓i_isCouple, ↓i_isBridge, ↓i_isTheme, ↓i_isBarge, i_lt, i_le, i_eq, i_clamp, i_upd, i_m1, Int32.toInt_toInt64, Int32.toInt_add, Int32.toInt_sub, Int32.toInt_mul, bm32, Int32.reduceToInt, Int64.reduceToInt, Nat.reduceLT, Nat.reduceEqDiff, reduceIte] <;> omega)) (by first | omega | (simp (disch := omega) only [↓i_in, ↓i_isCouple, ↓i_isBridge, ↓i_isTheme, ↓i_isBarge, i_lt, i_le, i_eq, i_clamp, i_upd, i_m1, Int32.toInt_toInt64, Int32.toInt_add, Int32.toInt_sub, Int32.toInt_mul, bm32, Int32.reduceToInt, Int64.reduceToInt, Nat.reduceLT, Nat.reduceEqDiff, reduceIte] <;> omega)) ?_ (((42 : Int32).toInt - (0 : Int32).toInt).toNat + 1) 0 f0 (⟨(by first | omega | (simp (disch := omega) only [↓i_in, ↓i_isCouple, ↓i_isBridge, ↓i_isTheme, ↓i_isBarge, i_lt, i_le, i_eq, i_clamp, i_upd, i_m1, Int32.toInt_toInt64, Int32.toInt_add, Int32.toInt_sub, Int32.toInt_mul, bm32, Int32.reduceToInt, Int64.reduceToInt, Nat.reduceLT, Nat.reduceEqDiff, reduceIte] <;> omega)), (by first | omega | (simp (disch := omega) only [↓i_in, ↓i_isCouple, ↓i_isBridge, ↓i_isTheme, ↓i_isBarge, i_lt, i_le, i_eq, i_clamp, i_upd, i_m1, Int32.toInt_toInt64, Int32.toInt_add, Int32.toInt_sub, Int32.toInt_mul, bm32, Int32.reduceToInt, Int64.reduceToInt, Nat.reduceLT, Nat.reduceEqDiff, reduceIte] <;> omega))⟩)
  intro w_1l3 w_1m0 i_1
  obtain ⟨i_2, i_3⟩ := i_1
  exact trivial
set_option maxHeartbeats 4000000 in
theorem s_letterAt {G : Nat → Int32} {f13 : Nat → Int32} {k_ : Int32} (h_0 : (G 14).toInt ≤ 240) (h_1 : 0 ≤ k_.toInt) : S_m_letterAt G f13 k_ := by
  unfold S_m_letterAt
  refine ⟨fun c_1 => ?_, fun c_1 => ?_⟩
  · exact trivial
  · skip
    try simp (disch := omega) only [↓i_in, ↓i_isCouple, ↓i_isBridge, ↓i_isTheme, ↓i_isBarge, i_lt, i_le, i_eq, i_clamp, i_upd, i_m1, Int32.toInt_toInt64, Int32.toInt_add, Int32.toInt_sub, Int32.toInt_mul, bm32, Int32.reduceToInt, Int64.reduceToInt, Nat.reduceLT, Nat.reduceEqDiff, reduceIte] at c_1
    refine ⟨vp_in_iff.mpr (by first | omega | (simp (disch := omega) only [↓i_in, ↓i_isCouple, ↓i_isBridge, ↓i_isTheme, ↓i_isBarge, i_lt, i_le, i_eq, i_clamp, i_upd, i_m1, Int32.toInt_toInt64, Int32.toInt_add, Int32.toInt_sub, Int32.toInt_mul, bm32, Int32.reduceToInt, Int64.reduceToInt, Nat.reduceLT, Nat.reduceEqDiff, reduceIte] <;> omega)), ?_⟩
    exact trivial
end
section
theorem rem32 {a d : Int32} (ha : 0 ≤ a.toInt) (hd : 0 < d.toInt) : (a - a / d * d).toInt = a.toInt % d.toInt := by
  have hne : d ≠ -1 := by
    intro h
    rw [h] at hd
    exact absurd hd (by decide)
  have hq : (a / d).toInt = a.toInt / d.toInt := by
    rw [Int32.toInt_div_of_ne_right a d hne, Int.tdiv_eq_ediv_of_nonneg ha]
  have h1 := Int.emod_add_mul_ediv a.toInt d.toInt
  have h2 := Int.emod_nonneg a.toInt (show d.toInt ≠ 0 by omega)
  have h3 := Int.emod_lt_of_pos a.toInt hd
  have h4 := a.toInt_lt
  have h5 : 0 ≤ d.toInt * (a.toInt / d.toInt) := Int.mul_nonneg (by omega) (Int.ediv_nonneg ha (by omega))
  have hm : (a / d * d).toInt = d.toInt * (a.toInt / d.toInt) := by
    rw [Int32.toInt_mul, hq, Int.mul_comm]
    exact bm32 (by omega) (by omega)
  rw [Int32.toInt_sub, hm]
  refine (bm32 (by omega) (by omega)).trans (by omega)
theorem bm64 {z : Int} (h1 : -9223372036854775808 ≤ z) (h2 : z < 9223372036854775808) : z.bmod (2 ^ 64) = z := by
  rw [Int.bmod_eq_of_le] <;> omega
theorem rem64 {a d : Int64} (ha : 0 ≤ a.toInt) (hd : 0 < d.toInt) : (a - a / d * d).toInt = a.toInt % d.toInt := by
  have hne : d ≠ -1 := by
    intro h
    rw [h] at hd
    exact absurd hd (by decide)
  have hq : (a / d).toInt = a.toInt / d.toInt := by
    rw [Int64.toInt_div_of_ne_right a d hne, Int.tdiv_eq_ediv_of_nonneg ha]
  have h1 := Int.emod_add_mul_ediv a.toInt d.toInt
  have h2 := Int.emod_nonneg a.toInt (show d.toInt ≠ 0 by omega)
  have h3 := Int.emod_lt_of_pos a.toInt hd
  have h4 := a.toInt_lt
  have h5 : 0 ≤ d.toInt * (a.toInt / d.toInt) := Int.mul_nonneg (by omega) (Int.ediv_nonneg ha (by omega))
  have hm : (a / d * d).toInt = d.toInt * (a.toInt / d.toInt) := by
    rw [Int64.toInt_mul, hq, Int.mul_comm]
    exact bm64 (by omega) (by omega)
  rw [Int64.toInt_sub, hm]
  refine (bm64 (by omega) (by omega)).trans (by omega)
theorem nextSeed {s : Int32} (hs : 0 ≤ s.toInt) : 0 ≤ ((((s.toInt64 * 1103515245) + 12345) - ((s.toInt64 * 1103515245) + 12345) / 2147483648 * 2147483648).toInt32).toInt := by
  have h4 := s.toInt_lt
  have hm : (s.toInt64 * 1103515245).toInt = s.toInt * 1103515245 := by
    rw [Int64.toInt_mul, Int32.toInt_toInt64, show (1103515245 : Int64).toInt = 1103515245 by decide]
    exact bm64 (by omega) (by omega)
  have ha : ((s.toInt64 * 1103515245) + 12345).toInt = s.toInt * 1103515245 + 12345 := by
    rw [Int64.toInt_add, hm]
    exact bm64 (by simp only [Int64.reduceToInt]; omega) (by simp only [Int64.reduceToInt]; omega)
  have hr := rem64 (a := (s.toInt64 * 1103515245) + 12345) (d := 2147483648) (by rw [ha]; omega) (by decide)
  rw [Int64.toInt_toInt32, hr]
  have e : (2147483648 : Int64).toInt = 2147483648 := by decide
  rw [e, bm32 (by omega) (by omega)]
  omega
theorem p_draw {f0 : Nat → Int32} {n_ : Int32} (h_0 : WI f0) (h_1 : 0 < n_.toInt) : ∀ (r : Int32) (u : Nat → Int32), f_m_draw f0 n_ = (r, u) → (0 ≤ r.toInt) ∧ (r.toInt < n_.toInt) ∧ WI u := by
  intro r u e
  unfold f_m_draw at e
  have hs := nextSeed (s := f0 (41 : Int32).toNatClampNeg) ((h_0 (41 : Int32).toNatClampNeg).2 (by decide))
  rw [pk_us] at e
  generalize hx : ((((((f0 (41 : Int32).toNatClampNeg)).toInt64 * 1103515245) + 12345) - ((((f0 (41 : Int32).toNatClampNeg)).toInt64 * 1103515245) + 12345) / 2147483648 * 2147483648)).toInt32 = x at e hs
  cases e
  have hd : 0 ≤ (x / 65536).toInt := by
    rw [Int32.toInt_div_of_ne_right x 65536 (by decide), Int.tdiv_eq_ediv_of_nonneg hs]
    exact Int.ediv_nonneg hs (by decide)
  have hr := rem32 (a := x / 65536) hd h_1
  have h2 := Int.emod_nonneg (x / 65536).toInt (show n_.toInt ≠ 0 by omega)
  have h3 := Int.emod_lt_of_pos (x / 65536).toInt h_1
  rw [hr]
  refine ⟨h2, h3, WI_upd h_0 (OKv.mk ⟨fun q => absurd q (by decide), fun _ => hs⟩)⟩
set_option maxHeartbeats 4000000 in
theorem s_draw {f0 : Nat → Int32} {n_ : Int32} (h_0 : 0 < n_.toInt) : S_m_draw f0 n_ := by
  unfold S_m_draw
  refine ⟨(by first | omega | (simp (disch := omega) only [↓i_in, ↓i_isCouple, ↓i_isBridge, ↓i_isTheme, ↓i_isBarge, i_lt, i_le, i_eq, i_clamp, i_upd, i_m1, Int32.toInt_toInt64, Int32.toInt_add, Int32.toInt_sub, Int32.toInt_mul, bm32, Int32.reduceToInt, Int64.reduceToInt, Nat.reduceLT, Nat.reduceEqDiff, reduceIte] <;> omega)), ?_⟩
  exact trivial
theorem pl_copy_2 {from_ to_ : Int32} (h1 : 0 ≤ from_.toInt ∧ from_.toInt ≤ 1260) (h2 : from_.toInt % 42 = 0) (h3 : 0 ≤ to_.toInt ∧ to_.toInt ≤ 1260) (h4 : to_.toInt % 42 = 0) : ∀ (n : Nat) (l : Int32) (w : Nat → Int32), WI w → 0 ≤ l.toInt → l.toInt ≤ 42 → WI (f_m_copy_2 from_ to_ n l w).2 := by
  intro n
  induction n with
  | zero => intro l w h _ _; exact h
  | succ n ih =>
    intro l w h a b
    rw [f_m_copy_2_s]
    by_cases c : 42 ≤ l
    · rw [if_pos c]
      exact h
    · rw [if_neg c]
      simp only [i_le, Int32.reduceToInt] at c
      refine ih _ _ (WI_upd h (OKv.same ?_ (h _))) ?_ ?_
      · simp (disch := omega) only [i_clamp, Int32.toInt_add, bm32]
        omega
      · simp (disch := omega) only [Int32.toInt_add, bm32, Int32.reduceToInt]
        omega
      · simp (disch := omega) only [Int32.toInt_add, bm32, Int32.reduceToInt]
        omega
theorem p_copy {f0 : Nat → Int32} {from_ to_ : Int32} (h : WI f0) (h1 : 0 ≤ from_.toInt ∧ from_.toInt ≤ 1260) (h2 : from_.toInt % 42 = 0) (h3 : 0 ≤ to_.toInt ∧ to_.toInt ≤ 1260) (h4 : to_.toInt % 42 = 0) : WI (f_m_copy f0 from_ to_) := by
  unfold f_m_copy
  have q := pl_copy_2 h1 h2 h3 h4 (((42 : Int32).toInt - (0 : Int32).toInt).toNat + 1) 0 f0 h (by decide) (by decide)
  generalize f_m_copy_2 _ _ _ _ _ = x at q
  obtain ⟨a, b⟩ := x
  exact q
theorem p_grieves {f0 : Nat → Int32} {c_ m_ : Int32} (h : WI f0) (h1 : 0 ≤ c_.toInt) (h2 : c_.toInt < 6) : WI (f_m_grieves f0 c_ m_) := by
  have hk : ∀ x, OKv ((0 + c_) : Int32).toNatClampNeg x := fun x => OKv.out (by simp (disch := omega) only [i_clamp, Int32.toInt_add, bm32, Int32.reduceToInt]; omega)
  unfold f_m_grieves
  repeat' split
  all_goals exact WI_upd h (hk _)
set_option maxHeartbeats 4000000 in
theorem s_grieves {f0 : Nat → Int32} {c_ : Int32} {m_ : Int32} (h_0 : 0 ≤ c_.toInt) (h_1 : c_.toInt < 6) : S_m_grieves f0 c_ m_ := by
  unfold S_m_grieves
  refine ⟨vp_in_iff.mpr (by first | omega | (simp (disch := omega) only [↓i_in, ↓i_isCouple, ↓i_isBridge, ↓i_isTheme, ↓i_isBarge, i_lt, i_le, i_eq, i_clamp, i_upd, i_m1, Int32.toInt_toInt64, Int32.toInt_add, Int32.toInt_sub, Int32.toInt_mul, bm32, Int32.reduceToInt, Int64.reduceToInt, Nat.reduceLT, Nat.reduceEqDiff, reduceIte] <;> omega)), ?_⟩
  refine ⟨s_isDone, ?_⟩
  refine ⟨fun c_1 => ?_, fun c_1 => ?_⟩
  · skip
    try simp (disch := omega) only [↓i_in, ↓i_isCouple, ↓i_isBridge, ↓i_isTheme, ↓i_isBarge, i_lt, i_le, i_eq, i_clamp, i_upd, i_m1, Int32.toInt_toInt64, Int32.toInt_add, Int32.toInt_sub, Int32.toInt_mul, bm32, Int32.reduceToInt, Int64.reduceToInt, Nat.reduceLT, Nat.reduceEqDiff, reduceIte] at c_1
    refine ⟨fun c_2 => ?_, fun c_2 => ?_⟩
    · skip
      try simp (disch := omega) only [↓i_in, ↓i_isCouple, ↓i_isBridge, ↓i_isTheme, ↓i_isBarge, i_lt, i_le, i_eq, i_clamp, i_upd, i_m1, Int32.toInt_toInt64, Int32.toInt_add, Int32.toInt_sub, Int32.toInt_mul, bm32, Int32.reduceToInt, Int64.reduceToInt, Nat.reduceLT, Nat.reduceEqDiff, reduceIte] at c_2
      refine ⟨vp_in_iff.mpr (by first | omega | (simp (disch := omega) only [↓i_in, ↓i_isCouple, ↓i_isBridge, ↓i_isTheme, ↓i_isBarge, i_lt, i_le, i_eq, i_clamp, i_upd, i_m1, Int32.toInt_toInt64, Int32.toInt_add, Int32.toInt_sub, Int32.toInt_mul, bm32, Int32.reduceToInt, Int64.reduceToInt, Nat.reduceLT, Nat.reduceEqDiff, reduceIte] <;> omega)), ?_⟩
      exact trivial
    · skip
      try simp (disch := omega) only [↓i_in, ↓i_isCouple, ↓i_isBridge, ↓i_isTheme, ↓i_isBarge, i_lt, i_le, i_eq, i_clamp, i_upd, i_m1, Int32.toInt_toInt64, Int32.toInt_add, Int32.toInt_sub, Int32.toInt_mul, bm32, Int32.reduceToInt, Int64.reduceToInt, Nat.reduceLT, Nat.reduceEqDiff, reduceIte] at c_2
      refine ⟨vp_in_iff.mpr (by first | omega | (simp (disch := omega) only [↓i_in, ↓i_isCouple, ↓i_isBridge, ↓i_isTheme, ↓i_isBarge, i_lt, i_le, i_eq, i_clamp, i_upd, i_m1, Int32.toInt_toInt64, Int32.toInt_add, Int32.toInt_sub, Int32.toInt_mul, bm32, Int32.reduceToInt, Int64.reduceToInt, Nat.reduceLT, Nat.reduceEqDiff, reduceIte] <;> omega)), ?_⟩
      exact trivial
  · skip
    try simp (disch := omega) only [↓i_in, ↓i_isCouple, ↓i_isBridge, ↓i_isTheme, ↓i_isBarge, i_lt, i_le, i_eq, i_clamp, i_upd, i_m1, Int32.toInt_toInt64, Int32.toInt_add, Int32.toInt_sub, Int32.toInt_mul, bm32, Int32.reduceToInt, Int64.reduceToInt, Nat.reduceLT, Nat.reduceEqDiff, reduceIte] at c_1
    refine ⟨vp_in_iff.mpr (by first | omega | (simp (disch := omega) only [↓i_in, ↓i_isCouple, ↓i_isBridge, ↓i_isTheme, ↓i_isBarge, i_lt, i_le, i_eq, i_clamp, i_upd, i_m1, Int32.toInt_toInt64, Int32.toInt_add, Int32.toInt_sub, Int32.toInt_mul, bm32, Int32.reduceToInt, Int64.reduceToInt, Nat.reduceLT, Nat.reduceEqDiff, reduceIte] <;> omega)), ?_⟩
    exact trivial
set_option maxHeartbeats 4000000 in
theorem sl_begins_10  {K : Int32 → (Nat → Int32) → Prop} (hK : ∀ w_1l2 w_1m0, (WI w_1m0 ∧ (0 ≤ w_1l2.toInt) ∧ (w_1l2.toInt ≤ 42)) → K w_1l2 w_1m0) : ∀ (n : Nat) w_1l2 w_1m0, (WI w_1m0 ∧ (0 ≤ w_1l2.toInt) ∧ (w_1l2.toInt ≤ 42)) → S_m_begins_10  K n w_1l2 w_1m0 := by
  intro n
  induction n with
  | zero => intro w_1l2 w_1m0 hI; exact trivial
  | succ n ih =>
    intro w_1l2 w_1m0 hI
    rw [S_m_begins_10_s]
    have hI0 := hI
    obtain ⟨i_1, i_2, i_3⟩ := hI0
    refine ⟨fun c_4 => ?_, fun c_4 => ?_⟩
    · skip
      try simp (disch := omega) only [↓i_in, ↓i_isCouple, ↓i_isBridge, ↓i_isTheme, ↓i_isBarge, i_lt, i_le, i_eq, i_clamp, i_upd, i_m1, Int32.toInt_toInt64, Int32.toInt_add, Int32.toInt_sub, Int32.toInt_mul, bm32, Int32.reduceToInt, Int64.reduceToInt, Nat.reduceLT, Nat.reduceEqDiff, reduceIte] at c_4
      exact hK w_1l2 w_1m0 hI
    · skip
      try simp (disch := omega) only [↓i_in, ↓i_isCouple, ↓i_isBridge, ↓i_isTheme, ↓i_isBarge, i_lt, i_le, i_eq, i_clamp, i_upd, i_m1, Int32.toInt_toInt64, Int32.toInt_add, Int32.toInt_sub, Int32.toInt_mul, bm32, Int32.reduceToInt, Int64.reduceToInt, Nat.reduceLT, Nat.reduceEqDiff, reduceIte] at c_4
      refine ⟨vp_in_iff.mpr (by first | omega | (simp (disch := omega) only [↓i_in, ↓i_isCouple, ↓i_isBridge, ↓i_isTheme, ↓i_isBarge, i_lt, i_le, i_eq, i_clamp, i_upd, i_m1, Int32.toInt_toInt64, Int32.toInt_add, Int32.toInt_sub, Int32.toInt_mul, bm32, Int32.reduceToInt, Int64.reduceToInt, Nat.reduceLT, Nat.reduceEqDiff, reduceIte] <;> omega)), ?_⟩
      exact ih (w_1l2 + 1) (upd w_1m0 (w_1l2 : Int32).toNatClampNeg 0) (⟨(WI_upd i_1 OKv.z), (by first | omega | (simp (disch := omega) only [↓i_in, ↓i_isCouple, ↓i_isBridge, ↓i_isTheme, ↓i_isBarge, i_lt, i_le, i_eq, i_clamp, i_upd, i_m1, Int32.toInt_toInt64, Int32.toInt_add, Int32.toInt_sub, Int32.toInt_mul, bm32, Int32.reduceToInt, Int64.reduceToInt, Nat.reduceLT, Nat.reduceEqDiff, reduceIte] <;> omega)), (by first | omega | (simp (disch := omega) only [↓i_in, ↓i_isCouple, ↓i_isBridge, ↓i_isTheme, ↓i_isBarge, i_lt, i_le, i_eq, i_clamp, i_upd, i_m1, Int32.toInt_toInt64, Int32.toInt_add, Int32.toInt_sub, Int32.toInt_mul, bm32, Int32.reduceToInt, Int64.reduceToInt, Nat.reduceLT, Nat.reduceEqDiff, reduceIte] <;> omega))⟩)
set_option maxHeartbeats 4000000 in
theorem pl_begins_10  : ∀ (n : Nat) w_1l2 w_1m0, (WI w_1m0 ∧ (0 ≤ w_1l2.toInt) ∧ (w_1l2.toInt ≤ 42)) → ∀ r0 r1, f_m_begins_10  n w_1l2 w_1m0 = (r0, r1) → WI r1 ∧ (0 ≤ r0.toInt) ∧ (r0.toInt ≤ 42) := by
  intro n
  induction n with
  | zero =>
    intro w_1l2 w_1m0 hI r0 r1 e
    replace e : (w_1l2, w_1m0) = (r0, r1) := e
    cases e
    exact hI
  | succ n ih =>
    intro w_1l2 w_1m0 hI r0 r1 e
    rw [f_m_begins_10_s] at e
    have hI0 := hI
    obtain ⟨i_1, i_2, i_3⟩ := hI0
    by_cases c_4 : 42 ≤ w_1l2
    · rw [if_pos c_4] at e
      try simp (disch := omega) only [↓i_in, ↓i_isCouple, ↓i_isBridge, ↓i_isTheme, ↓i_isBarge, i_lt, i_le, i_eq, i_clamp, i_upd, i_m1, Int32.toInt_toInt64, Int32.toInt_add, Int32.toInt_sub, Int32.toInt_mul, bm32, Int32.reduceToInt, Int64.reduceToInt, Nat.reduceLT, Nat.reduceEqDiff, reduceIte] at c_4
      cases e
      exact hI
    · rw [if_neg c_4] at e
      try simp (disch := omega) only [↓i_in, ↓i_isCouple, ↓i_isBridge, ↓i_isTheme, ↓i_isBarge, i_lt, i_le, i_eq, i_clamp, i_upd, i_m1, Int32.toInt_toInt64, Int32.toInt_add, Int32.toInt_sub, Int32.toInt_mul, bm32, Int32.reduceToInt, Int64.reduceToInt, Nat.reduceLT, Nat.reduceEqDiff, reduceIte] at c_4
      exact ih (w_1l2 + 1) (upd w_1m0 (w_1l2 : Int32).toNatClampNeg 0) (⟨(WI_upd i_1 OKv.z), (by first | omega | (simp (disch := omega) only [↓i_in, ↓i_isCouple, ↓i_isBridge, ↓i_isTheme, ↓i_isBarge, i_lt, i_le, i_eq, i_clamp, i_upd, i_m1, Int32.toInt_toInt64, Int32.toInt_add, Int32.toInt_sub, Int32.toInt_mul, bm32, Int32.reduceToInt, Int64.reduceToInt, Nat.reduceLT, Nat.reduceEqDiff, reduceIte] <;> omega)), (by first | omega | (simp (disch := omega) only [↓i_in, ↓i_isCouple, ↓i_isBridge, ↓i_isTheme, ↓i_isBarge, i_lt, i_le, i_eq, i_clamp, i_upd, i_m1, Int32.toInt_toInt64, Int32.toInt_add, Int32.toInt_sub, Int32.toInt_mul, bm32, Int32.reduceToInt, Int64.reduceToInt, Nat.reduceLT, Nat.reduceEqDiff, reduceIte] <;> omega))⟩) _ _ e
set_option maxHeartbeats 4000000 in
theorem sl_begins_31 {G : Nat → Int32} {f9 : Nat → Int32} {K : Int32 → (Nat → Int32) → Prop} (hK : ∀ w_2l2 w_2m0, (WI w_2m0 ∧ (0 ≤ w_2l2.toInt) ∧ (w_2l2.toInt ≤ 6)) → K w_2l2 w_2m0) : ∀ (n : Nat) w_2l2 w_2m0, (WI w_2m0 ∧ (0 ≤ w_2l2.toInt) ∧ (w_2l2.toInt ≤ 6)) → S_m_begins_31 G f9 K n w_2l2 w_2m0 := by
  intro n
  induction n with
  | zero => intro w_2l2 w_2m0 hI; exact trivial
  | succ n ih =>
    intro w_2l2 w_2m0 hI
    rw [S_m_begins_31_s]
    have hI0 := hI
    obtain ⟨i_1, i_2, i_3⟩ := hI0
    refine ⟨fun c_4 => ?_, fun c_4 => ?_⟩
    · skip
      try simp (disch := omega) only [↓i_in, ↓i_isCouple, ↓i_isBridge, ↓i_isTheme, ↓i_isBarge, i_lt, i_le, i_eq, i_clamp, i_upd, i_m1, Int32.toInt_toInt64, Int32.toInt_add, Int32.toInt_sub, Int32.toInt_mul, bm32, Int32.reduceToInt, Int64.reduceToInt, Nat.reduceLT, Nat.reduceEqDiff, reduceIte] at c_4
      exact hK w_2l2 w_2m0 hI
    · skip
      try simp (disch := omega) only [↓i_in, ↓i_isCouple, ↓i_isBridge, ↓i_isTheme, ↓i_isBarge, i_lt, i_le, i_eq, i_clamp, i_upd, i_m1, Int32.toInt_toInt64, Int32.toInt_add, Int32.toInt_sub, Int32.toInt_mul, bm32, Int32.reduceToInt, Int64.reduceToInt, Nat.reduceLT, Nat.reduceEqDiff, reduceIte] at c_4
      refine ⟨fun c_5 => ?_, fun c_5 => ?_⟩
      · skip
        try simp (disch := omega) only [↓i_in, ↓i_isCouple, ↓i_isBridge, ↓i_isTheme, ↓i_isBarge, i_lt, i_le, i_eq, i_clamp, i_upd, i_m1, Int32.toInt_toInt64, Int32.toInt_add, Int32.toInt_sub, Int32.toInt_mul, bm32, Int32.reduceToInt, Int64.reduceToInt, Nat.reduceLT, Nat.reduceEqDiff, reduceIte] at c_5
        refine ⟨vp_in_iff.mpr (by first | omega | (simp (disch := omega) only [↓i_in, ↓i_isCouple, ↓i_isBridge, ↓i_isTheme, ↓i_isBarge, i_lt, i_le, i_eq, i_clamp, i_upd, i_m1, Int32.toInt_toInt64, Int32.toInt_add, Int32.toInt_sub, Int32.toInt_mul, bm32, Int32.reduceToInt, Int64.reduceToInt, Nat.reduceLT, Nat.reduceEqDiff, reduceIte] <;> omega)), ?_⟩
        refine ⟨vp_in_iff.mpr (by first | omega | (simp (disch := omega) only [↓i_in, ↓i_isCouple, ↓i_isBridge, ↓i_isTheme, ↓i_isBarge, i_lt, i_le, i_eq, i_clamp, i_upd, i_m1, Int32.toInt_toInt64, Int32.toInt_add, Int32.toInt_sub, Int32.toInt_mul, bm32, Int32.reduceToInt, Int64.reduceToInt, Nat.reduceLT, Nat.reduceEqDiff, reduceIte] <;> omega)), ?_⟩
        exact ih (w_2l2 + 1) (upd (upd w_2m0 ((0 + w_2l2) : Int32).toNatClampNeg 0) ((6 + w_2l2) : Int32).toNatClampNeg (-1)) (⟨(WI_upd (WI_upd i_1 OKv.z) (by first | (refine OKv.out ?_; (first | omega | (simp (disch := omega) only [↓i_in, ↓i_isCouple, ↓i_isBridge, ↓i_isTheme, ↓i_isBarge, i_lt, i_le, i_eq, i_clamp, i_upd, i_m1, Int32.toInt_toInt64, Int32.toInt_add, Int32.toInt_sub, Int32.toInt_mul, bm32, Int32.reduceToInt, Int64.reduceToInt, Nat.reduceLT, Nat.reduceEqDiff, reduceIte] <;> omega))) | (refine OKv.mk ?_; (first | omega | (simp (disch := omega) only [↓i_in, ↓i_isCouple, ↓i_isBridge, ↓i_isTheme, ↓i_isBarge, i_lt, i_le, i_eq, i_clamp, i_upd, i_m1, Int32.toInt_toInt64, Int32.toInt_add, Int32.toInt_sub, Int32.toInt_mul, bm32, Int32.reduceToInt, Int64.reduceToInt, Nat.reduceLT, Nat.reduceEqDiff, reduceIte] <;> omega))))), (by first | omega | (simp (disch := omega) only [↓i_in, ↓i_isCouple, ↓i_isBridge, ↓i_isTheme, ↓i_isBarge, i_lt, i_le, i_eq, i_clamp, i_upd, i_m1, Int32.toInt_toInt64, Int32.toInt_add, Int32.toInt_sub, Int32.toInt_mul, bm32, Int32.reduceToInt, Int64.reduceToInt, Nat.reduceLT, Nat.reduceEqDiff, reduceIte] <;> omega)), (by first | omega | (simp (disch := omega) only [↓i_in, ↓i_isCouple, ↓i_isBridge, ↓i_isTheme, ↓i_isBarge, i_lt, i_le, i_eq, i_clamp, i_upd, i_m1, Int32.toInt_toInt64, Int32.toInt_add, Int32.toInt_sub, Int32.toInt_mul, bm32, Int32.reduceToInt, Int64.reduceToInt, Nat.reduceLT, Nat.reduceEqDiff, reduceIte] <;> omega))⟩)
      · skip
        try simp (disch := omega) only [↓i_in, ↓i_isCouple, ↓i_isBridge, ↓i_isTheme, ↓i_isBarge, i_lt, i_le, i_eq, i_clamp, i_upd, i_m1, Int32.toInt_toInt64, Int32.toInt_add, Int32.toInt_sub, Int32.toInt_mul, bm32, Int32.reduceToInt, Int64.reduceToInt, Nat.reduceLT, Nat.reduceEqDiff, reduceIte] at c_5
        refine ⟨vp_in_iff.mpr (by first | omega | (simp (disch := omega) only [↓i_in, ↓i_isCouple, ↓i_isBridge, ↓i_isTheme, ↓i_isBarge, i_lt, i_le, i_eq, i_clamp, i_upd, i_m1, Int32.toInt_toInt64, Int32.toInt_add, Int32.toInt_sub, Int32.toInt_mul, bm32, Int32.reduceToInt, Int64.reduceToInt, Nat.reduceLT, Nat.reduceEqDiff, reduceIte] <;> omega)), ?_⟩
        refine ⟨vp_in_iff.mpr (by first | omega | (simp (disch := omega) only [↓i_in, ↓i_isCouple, ↓i_isBridge, ↓i_isTheme, ↓i_isBarge, i_lt, i_le, i_eq, i_clamp, i_upd, i_m1, Int32.toInt_toInt64, Int32.toInt_add, Int32.toInt_sub, Int32.toInt_mul, bm32, Int32.reduceToInt, Int64.reduceToInt, Nat.reduceLT, Nat.reduceEqDiff, reduceIte] <;> omega)), ?_⟩
        refine ⟨vp_in_iff.mpr (by first | omega | (simp (disch := omega) only [↓i_in, ↓i_isCouple, ↓i_isBridge, ↓i_isTheme, ↓i_isBarge, i_lt, i_le, i_eq, i_clamp, i_upd, i_m1, Int32.toInt_toInt64, Int32.toInt_add, Int32.toInt_sub, Int32.toInt_mul, bm32, Int32.reduceToInt, Int64.reduceToInt, Nat.reduceLT, Nat.reduceEqDiff, reduceIte] <;> omega)), ?_⟩
        exact ih (w_2l2 + 1) (upd (upd w_2m0 ((0 + w_2l2) : Int32).toNatClampNeg (f9 (w_2l2 : Int32).toNatClampNeg)) ((6 + w_2l2) : Int32).toNatClampNeg (-1)) (⟨(WI_upd (WI_upd i_1 (by first | (refine OKv.out ?_; (first | omega | (simp (disch := omega) only [↓i_in, ↓i_isCouple, ↓i_isBridge, ↓i_isTheme, ↓i_isBarge, i_lt, i_le, i_eq, i_clamp, i_upd, i_m1, Int32.toInt_toInt64, Int32.toInt_add, Int32.toInt_sub, Int32.toInt_mul, bm32, Int32.reduceToInt, Int64.reduceToInt, Nat.reduceLT, Nat.reduceEqDiff, reduceIte] <;> omega))) | (refine OKv.mk ?_; (first | omega | (simp (disch := omega) only [↓i_in, ↓i_isCouple, ↓i_isBridge, ↓i_isTheme, ↓i_isBarge, i_lt, i_le, i_eq, i_clamp, i_upd, i_m1, Int32.toInt_toInt64, Int32.toInt_add, Int32.toInt_sub, Int32.toInt_mul, bm32, Int32.reduceToInt, Int64.reduceToInt, Nat.reduceLT, Nat.reduceEqDiff, reduceIte] <;> omega))))) (by first | (refine OKv.out ?_; (first | omega | (simp (disch := omega) only [↓i_in, ↓i_isCouple, ↓i_isBridge, ↓i_isTheme, ↓i_isBarge, i_lt, i_le, i_eq, i_clamp, i_upd, i_m1, Int32.toInt_toInt64, Int32.toInt_add, Int32.toInt_sub, Int32.toInt_mul, bm32, Int32.reduceToInt, Int64.reduceToInt, Nat.reduceLT, Nat.reduceEqDiff, reduceIte] <;> omega))) | (refine OKv.mk ?_; (first | omega | (simp (disch := omega) only [↓i_in, ↓i_isCouple, ↓i_isBridge, ↓i_isTheme, ↓i_isBarge, i_lt, i_le, i_eq, i_clamp, i_upd, i_m1, Int32.toInt_toInt64, Int32.toInt_add, Int32.toInt_sub, Int32.toInt_mul, bm32, Int32.reduceToInt, Int64.reduceToInt, Nat.reduceLT, Nat.reduceEqDiff, reduceIte] <;> omega))))), (by first | omega | (simp (disch := omega) only [↓i_in, ↓i_isCouple, ↓i_isBridge, ↓i_isTheme, ↓i_isBarge, i_lt, i_le, i_eq, i_clamp, i_upd, i_m1, Int32.toInt_toInt64, Int32.toInt_add, Int32.toInt_sub, Int32.toInt_mul, bm32, Int32.reduceToInt, Int64.reduceToInt, Nat.reduceLT, Nat.reduceEqDiff, reduceIte] <;> omega)), (by first | omega | (simp (disch := omega) only [↓i_in, ↓i_isCouple, ↓i_isBridge, ↓i_isTheme, ↓i_isBarge, i_lt, i_le, i_eq, i_clamp, i_upd, i_m1, Int32.toInt_toInt64, Int32.toInt_add, Int32.toInt_sub, Int32.toInt_mul, bm32, Int32.reduceToInt, Int64.reduceToInt, Nat.reduceLT, Nat.reduceEqDiff, reduceIte] <;> omega))⟩)
set_option maxHeartbeats 4000000 in
theorem pl_begins_31 {G : Nat → Int32} {f9 : Nat → Int32} : ∀ (n : Nat) w_2l2 w_2m0, (WI w_2m0 ∧ (0 ≤ w_2l2.toInt) ∧ (w_2l2.toInt ≤ 6)) → ∀ r0 r1, f_m_begins_31 G f9 n w_2l2 w_2m0 = (r0, r1) → WI r1 ∧ (0 ≤ r0.toInt) ∧ (r0.toInt ≤ 6) := by
  intro n
  induction n with
  | zero =>
    intro w_2l2 w_2m0 hI r0 r1 e
    replace e : (w_2l2, w_2m0) = (r0, r1) := e
    cases e
    exact hI
  | succ n ih =>
    intro w_2l2 w_2m0 hI r0 r1 e
    rw [f_m_begins_31_s] at e
    have hI0 := hI
    obtain ⟨i_1, i_2, i_3⟩ := hI0
    by_cases c_4 : 6 ≤ w_2l2
    · rw [if_pos c_4] at e
      try simp (disch := omega) only [↓i_in, ↓i_isCouple, ↓i_isBridge, ↓i_isTheme, ↓i_isBarge, i_lt, i_le, i_eq, i_clamp, i_upd, i_m1, Int32.toInt_toInt64, Int32.toInt_add, Int32.toInt_sub, Int32.toInt_mul, bm32, Int32.reduceToInt, Int64.reduceToInt, Nat.reduceLT, Nat.reduceEqDiff, reduceIte] at c_4
      cases e
      exact hI
    · rw [if_neg c_4] at e
      try simp (disch := omega) only [↓i_in, ↓i_isCouple, ↓i_isBridge, ↓i_isTheme, ↓i_isBarge, i_lt, i_le, i_eq, i_clamp, i_upd, i_m1, Int32.toInt_toInt64, Int32.toInt_add, Int32.toInt_sub, Int32.toInt_mul, bm32, Int32.reduceToInt, Int64.reduceToInt, Nat.reduceLT, Nat.reduceEqDiff, reduceIte] at c_4
      by_cases c_5 : (G 5) ≤ w_2l2
      · rw [if_pos c_5] at e
        try simp (disch := omega) only [↓i_in, ↓i_isCouple, ↓i_isBridge, ↓i_isTheme, ↓i_isBarge, i_lt, i_le, i_eq, i_clamp, i_upd, i_m1, Int32.toInt_toInt64, Int32.toInt_add, Int32.toInt_sub, Int32.toInt_mul, bm32, Int32.reduceToInt, Int64.reduceToInt, Nat.reduceLT, Nat.reduceEqDiff, reduceIte] at c_5
        exact ih (w_2l2 + 1) (upd (upd w_2m0 ((0 + w_2l2) : Int32).toNatClampNeg 0) ((6 + w_2l2) : Int32).toNatClampNeg (-1)) (⟨(WI_upd (WI_upd i_1 OKv.z) (by first | (refine OKv.out ?_; (first | omega | (simp (disch := omega) only [↓i_in, ↓i_isCouple, ↓i_isBridge, ↓i_isTheme, ↓i_isBarge, i_lt, i_le, i_eq, i_clamp, i_upd, i_m1, Int32.toInt_toInt64, Int32.toInt_add, Int32.toInt_sub, Int32.toInt_mul, bm32, Int32.reduceToInt, Int64.reduceToInt, Nat.reduceLT, Nat.reduceEqDiff, reduceIte] <;> omega))) | (refine OKv.mk ?_; (first | omega | (simp (disch := omega) only [↓i_in, ↓i_isCouple, ↓i_isBridge, ↓i_isTheme, ↓i_isBarge, i_lt, i_le, i_eq, i_clamp, i_upd, i_m1, Int32.toInt_toInt64, Int32.toInt_add, Int32.toInt_sub, Int32.toInt_mul, bm32, Int32.reduceToInt, Int64.reduceToInt, Nat.reduceLT, Nat.reduceEqDiff, reduceIte] <;> omega))))), (by first | omega | (simp (disch := omega) only [↓i_in, ↓i_isCouple, ↓i_isBridge, ↓i_isTheme, ↓i_isBarge, i_lt, i_le, i_eq, i_clamp, i_upd, i_m1, Int32.toInt_toInt64, Int32.toInt_add, Int32.toInt_sub, Int32.toInt_mul, bm32, Int32.reduceToInt, Int64.reduceToInt, Nat.reduceLT, Nat.reduceEqDiff, reduceIte] <;> omega)), (by first | omega | (simp (disch := omega) only [↓i_in, ↓i_isCouple, ↓i_isBridge, ↓i_isTheme, ↓i_isBarge, i_lt, i_le, i_eq, i_clamp, i_upd, i_m1, Int32.toInt_toInt64, Int32.toInt_add, Int32.toInt_sub, Int32.toInt_mul, bm32, Int32.reduceToInt, Int64.reduceToInt, Nat.reduceLT, Nat.reduceEqDiff, reduceIte] <;> omega))⟩) _ _ e
      · rw [if_neg c_5] at e
        try simp (disch := omega) only [↓i_in, ↓i_isCouple, ↓i_isBridge, ↓i_isTheme, ↓i_isBarge, i_lt, i_le, i_eq, i_clamp, i_upd, i_m1, Int32.toInt_toInt64, Int32.toInt_add, Int32.toInt_sub, Int32.toInt_mul, bm32, Int32.reduceToInt, Int64.reduceToInt, Nat.reduceLT, Nat.reduceEqDiff, reduceIte] at c_5
        exact ih (w_2l2 + 1) (upd (upd w_2m0 ((0 + w_2l2) : Int32).toNatClampNeg (f9 (w_2l2 : Int32).toNatClampNeg)) ((6 + w_2l2) : Int32).toNatClampNeg (-1)) (⟨(WI_upd (WI_upd i_1 (by first | (refine OKv.out ?_; (first | omega | (simp (disch := omega) only [↓i_in, ↓i_isCouple, ↓i_isBridge, ↓i_isTheme, ↓i_isBarge, i_lt, i_le, i_eq, i_clamp, i_upd, i_m1, Int32.toInt_toInt64, Int32.toInt_add, Int32.toInt_sub, Int32.toInt_mul, bm32, Int32.reduceToInt, Int64.reduceToInt, Nat.reduceLT, Nat.reduceEqDiff, reduceIte] <;> omega))) | (refine OKv.mk ?_; (first | omega | (simp (disch := omega) only [↓i_in, ↓i_isCouple, ↓i_isBridge, ↓i_isTheme, ↓i_isBarge, i_lt, i_le, i_eq, i_clamp, i_upd, i_m1, Int32.toInt_toInt64, Int32.toInt_add, Int32.toInt_sub, Int32.toInt_mul, bm32, Int32.reduceToInt, Int64.reduceToInt, Nat.reduceLT, Nat.reduceEqDiff, reduceIte] <;> omega))))) (by first | (refine OKv.out ?_; (first | omega | (simp (disch := omega) only [↓i_in, ↓i_isCouple, ↓i_isBridge, ↓i_isTheme, ↓i_isBarge, i_lt, i_le, i_eq, i_clamp, i_upd, i_m1, Int32.toInt_toInt64, Int32.toInt_add, Int32.toInt_sub, Int32.toInt_mul, bm32, Int32.reduceToInt, Int64.reduceToInt, Nat.reduceLT, Nat.reduceEqDiff, reduceIte] <;> omega))) | (refine OKv.mk ?_; (first | omega | (simp (disch := omega) only [↓i_in, ↓i_isCouple, ↓i_isBridge, ↓i_isTheme, ↓i_isBarge, i_lt, i_le, i_eq, i_clamp, i_upd, i_m1, Int32.toInt_toInt64, Int32.toInt_add, Int32.toInt_sub, Int32.toInt_mul, bm32, Int32.reduceToInt, Int64.reduceToInt, Nat.reduceLT, Nat.reduceEqDiff, reduceIte] <;> omega))))), (by first | omega | (simp (disch := omega) only [↓i_in, ↓i_isCouple, ↓i_isBridge, ↓i_isTheme, ↓i_isBarge, i_lt, i_le, i_eq, i_clamp, i_upd, i_m1, Int32.toInt_toInt64, Int32.toInt_add, Int32.toInt_sub, Int32.toInt_mul, bm32, Int32.reduceToInt, Int64.reduceToInt, Nat.reduceLT, Nat.reduceEqDiff, reduceIte] <;> omega)), (by first | omega | (simp (disch := omega) only [↓i_in, ↓i_isCouple, ↓i_isBridge, ↓i_isTheme, ↓i_isBarge, i_lt, i_le, i_eq, i_clamp, i_upd, i_m1, Int32.toInt_toInt64, Int32.toInt_add, Int32.toInt_sub, Int32.toInt_mul, bm32, Int32.reduceToInt, Int64.reduceToInt, Nat.reduceLT, Nat.reduceEqDiff, reduceIte] <;> omega))⟩) _ _ e
set_option maxHeartbeats 4000000 in
theorem sl_begins_81  {K : Int32 → (Nat → Int32) → Prop} (hK : ∀ w_3l2 w_3m0, (WI w_3m0 ∧ (0 ≤ w_3l2.toInt) ∧ (w_3l2.toInt ≤ 7)) → K w_3l2 w_3m0) : ∀ (n : Nat) w_3l2 w_3m0, (WI w_3m0 ∧ (0 ≤ w_3l2.toInt) ∧ (w_3l2.toInt ≤ 7)) → S_m_begins_81  K n w_3l2 w_3m0 := by
  intro n
  induction n with
  | zero => intro w_3l2 w_3m0 hI; exact trivial
  | succ n ih =>
    intro w_3l2 w_3m0 hI
    rw [S_m_begins_81_s]
    have hI0 := hI
    obtain ⟨i_1, i_2, i_3⟩ := hI0
    refine ⟨fun c_4 => ?_, fun c_4 => ?_⟩
    · skip
      try simp (disch := omega) only [↓i_in, ↓i_isCouple, ↓i_isBridge, ↓i_isTheme, ↓i_isBarge, i_lt, i_le, i_eq, i_clamp, i_upd, i_m1, Int32.toInt_toInt64, Int32.toInt_add, Int32.toInt_sub, Int32.toInt_mul, bm32, Int32.reduceToInt, Int64.reduceToInt, Nat.reduceLT, Nat.reduceEqDiff, reduceIte] at c_4
      exact hK w_3l2 w_3m0 hI
    · skip
      try simp (disch := omega) only [↓i_in, ↓i_isCouple, ↓i_isBridge, ↓i_isTheme, ↓i_isBarge, i_lt, i_le, i_eq, i_clamp, i_upd, i_m1, Int32.toInt_toInt64, Int32.toInt_add, Int32.toInt_sub, Int32.toInt_mul, bm32, Int32.reduceToInt, Int64.reduceToInt, Nat.reduceLT, Nat.reduceEqDiff, reduceIte] at c_4
      refine ⟨vp_in_iff.mpr (by first | omega | (simp (disch := omega) only [↓i_in, ↓i_isCouple, ↓i_isBridge, ↓i_isTheme, ↓i_isBarge, i_lt, i_le, i_eq, i_clamp, i_upd, i_m1, Int32.toInt_toInt64, Int32.toInt_add, Int32.toInt_sub, Int32.toInt_mul, bm32, Int32.reduceToInt, Int64.reduceToInt, Nat.reduceLT, Nat.reduceEqDiff, reduceIte] <;> omega)), ?_⟩
      refine ⟨vp_in_iff.mpr (by first | omega | (simp (disch := omega) only [↓i_in, ↓i_isCouple, ↓i_isBridge, ↓i_isTheme, ↓i_isBarge, i_lt, i_le, i_eq, i_clamp, i_upd, i_m1, Int32.toInt_toInt64, Int32.toInt_add, Int32.toInt_sub, Int32.toInt_mul, bm32, Int32.reduceToInt, Int64.reduceToInt, Nat.reduceLT, Nat.reduceEqDiff, reduceIte] <;> omega)), ?_⟩
      exact ih (w_3l2 + 1) (upd (upd w_3m0 ((27 + w_3l2) : Int32).toNatClampNeg (-1)) ((34 + w_3l2) : Int32).toNatClampNeg (-1)) (⟨(WI_upd (WI_upd i_1 (by first | (refine OKv.out ?_; (first | omega | (simp (disch := omega) only [↓i_in, ↓i_isCouple, ↓i_isBridge, ↓i_isTheme, ↓i_isBarge, i_lt, i_le, i_eq, i_clamp, i_upd, i_m1, Int32.toInt_toInt64, Int32.toInt_add, Int32.toInt_sub, Int32.toInt_mul, bm32, Int32.reduceToInt, Int64.reduceToInt, Nat.reduceLT, Nat.reduceEqDiff, reduceIte] <;> omega))) | (refine OKv.mk ?_; (first | omega | (simp (disch := omega) only [↓i_in, ↓i_isCouple, ↓i_isBridge, ↓i_isTheme, ↓i_isBarge, i_lt, i_le, i_eq, i_clamp, i_upd, i_m1, Int32.toInt_toInt64, Int32.toInt_add, Int32.toInt_sub, Int32.toInt_mul, bm32, Int32.reduceToInt, Int64.reduceToInt, Nat.reduceLT, Nat.reduceEqDiff, reduceIte] <;> omega))))) (by first | (refine OKv.out ?_; (first | omega | (simp (disch := omega) only [↓i_in, ↓i_isCouple, ↓i_isBridge, ↓i_isTheme, ↓i_isBarge, i_lt, i_le, i_eq, i_clamp, i_upd, i_m1, Int32.toInt_toInt64, Int32.toInt_add, Int32.toInt_sub, Int32.toInt_mul, bm32, Int32.reduceToInt, Int64.reduceToInt, Nat.reduceLT, Nat.reduceEqDiff, reduceIte] <;> omega))) | (refine OKv.mk ?_; (first | omega | (simp (disch := omega) only [↓i_in, ↓i_isCouple, ↓i_isBridge, ↓i_isTheme, ↓i_isBarge, i_lt, i_le, i_eq, i_clamp, i_upd, i_m1, Int32.toInt_toInt64, Int32.toInt_add, Int32.toInt_sub, Int32.toInt_mul, bm32, Int32.reduceToInt, Int64.reduceToInt, Nat.reduceLT, Nat.reduceEqDiff, reduceIte] <;> omega))))), (by first | omega | (simp (disch := omega) only [↓i_in, ↓i_isCouple, ↓i_isBridge, ↓i_isTheme, ↓i_isBarge, i_lt, i_le, i_eq, i_clamp, i_upd, i_m1, Int32.toInt_toInt64, Int32.toInt_add, Int32.toInt_sub, Int32.toInt_mul, bm32, Int32.reduceToInt, Int64.reduceToInt, Nat.reduceLT, Nat.reduceEqDiff, reduceIte] <;> omega)), (by first | omega | (simp (disch := omega) only [↓i_in, ↓i_isCouple, ↓i_isBridge, ↓i_isTheme, ↓i_isBarge, i_lt, i_le, i_eq, i_clamp, i_upd, i_m1, Int32.toInt_toInt64, Int32.toInt_add, Int32.toInt_sub, Int32.toInt_mul, bm32, Int32.reduceToInt, Int64.reduceToInt, Nat.reduceLT, Nat.reduceEqDiff, reduceIte] <;> omega))⟩)
set_option maxHeartbeats 4000000 in
theorem pl_begins_81  : ∀ (n : Nat) w_3l2 w_3m0, (WI w_3m0 ∧ (0 ≤ w_3l2.toInt) ∧ (w_3l2.toInt ≤ 7)) → ∀ r0 r1, f_m_begins_81  n w_3l2 w_3m0 = (r0, r1) → WI r1 ∧ (0 ≤ r0.toInt) ∧ (r0.toInt ≤ 7) := by
  intro n
  induction n with
  | zero =>
    intro w_3l2 w_3m0 hI r0 r1 e
    replace e : (w_3l2, w_3m0) = (r0, r1) := e
    cases e
    exact hI
  | succ n ih =>
    intro w_3l2 w_3m0 hI r0 r1 e
    rw [f_m_begins_81_s] at e
    have hI0 := hI
    obtain ⟨i_1, i_2, i_3⟩ := hI0
    by_cases c_4 : 7 ≤ w_3l2
    · rw [if_pos c_4] at e
      try simp (disch := omega) only [↓i_in, ↓i_isCouple, ↓i_isBridge, ↓i_isTheme, ↓i_isBarge, i_lt, i_le, i_eq, i_clamp, i_upd, i_m1, Int32.toInt_toInt64, Int32.toInt_add, Int32.toInt_sub, Int32.toInt_mul, bm32, Int32.reduceToInt, Int64.reduceToInt, Nat.reduceLT, Nat.reduceEqDiff, reduceIte] at c_4
      cases e
      exact hI
    · rw [if_neg c_4] at e
      try simp (disch := omega) only [↓i_in, ↓i_isCouple, ↓i_isBridge, ↓i_isTheme, ↓i_isBarge, i_lt, i_le, i_eq, i_clamp, i_upd, i_m1, Int32.toInt_toInt64, Int32.toInt_add, Int32.toInt_sub, Int32.toInt_mul, bm32, Int32.reduceToInt, Int64.reduceToInt, Nat.reduceLT, Nat.reduceEqDiff, reduceIte] at c_4
      exact ih (w_3l2 + 1) (upd (upd w_3m0 ((27 + w_3l2) : Int32).toNatClampNeg (-1)) ((34 + w_3l2) : Int32).toNatClampNeg (-1)) (⟨(WI_upd (WI_upd i_1 (by first | (refine OKv.out ?_; (first | omega | (simp (disch := omega) only [↓i_in, ↓i_isCouple, ↓i_isBridge, ↓i_isTheme, ↓i_isBarge, i_lt, i_le, i_eq, i_clamp, i_upd, i_m1, Int32.toInt_toInt64, Int32.toInt_add, Int32.toInt_sub, Int32.toInt_mul, bm32, Int32.reduceToInt, Int64.reduceToInt, Nat.reduceLT, Nat.reduceEqDiff, reduceIte] <;> omega))) | (refine OKv.mk ?_; (first | omega | (simp (disch := omega) only [↓i_in, ↓i_isCouple, ↓i_isBridge, ↓i_isTheme, ↓i_isBarge, i_lt, i_le, i_eq, i_clamp, i_upd, i_m1, Int32.toInt_toInt64, Int32.toInt_add, Int32.toInt_sub, Int32.toInt_mul, bm32, Int32.reduceToInt, Int64.reduceToInt, Nat.reduceLT, Nat.reduceEqDiff, reduceIte] <;> omega))))) (by first | (refine OKv.out ?_; (first | omega | (simp (disch := omega) only [↓i_in, ↓i_isCouple, ↓i_isBridge, ↓i_isTheme, ↓i_isBarge, i_lt, i_le, i_eq, i_clamp, i_upd, i_m1, Int32.toInt_toInt64, Int32.toInt_add, Int32.toInt_sub, Int32.toInt_mul, bm32, Int32.reduceToInt, Int64.reduceToInt, Nat.reduceLT, Nat.reduceEqDiff, reduceIte] <;> omega))) | (refine OKv.mk ?_; (first | omega | (simp (disch := omega) only [↓i_in, ↓i_isCouple, ↓i_isBridge, ↓i_isTheme, ↓i_isBarge, i_lt, i_le, i_eq, i_clamp, i_upd, i_m1, Int32.toInt_toInt64, Int32.toInt_add, Int32.toInt_sub, Int32.toInt_mul, bm32, Int32.reduceToInt, Int64.reduceToInt, Nat.reduceLT, Nat.reduceEqDiff, reduceIte] <;> omega))))), (by first | omega | (simp (disch := omega) only [↓i_in, ↓i_isCouple, ↓i_isBridge, ↓i_isTheme, ↓i_isBarge, i_lt, i_le, i_eq, i_clamp, i_upd, i_m1, Int32.toInt_toInt64, Int32.toInt_add, Int32.toInt_sub, Int32.toInt_mul, bm32, Int32.reduceToInt, Int64.reduceToInt, Nat.reduceLT, Nat.reduceEqDiff, reduceIte] <;> omega)), (by first | omega | (simp (disch := omega) only [↓i_in, ↓i_isCouple, ↓i_isBridge, ↓i_isTheme, ↓i_isBarge, i_lt, i_le, i_eq, i_clamp, i_upd, i_m1, Int32.toInt_toInt64, Int32.toInt_add, Int32.toInt_sub, Int32.toInt_mul, bm32, Int32.reduceToInt, Int64.reduceToInt, Nat.reduceLT, Nat.reduceEqDiff, reduceIte] <;> omega))⟩) _ _ e
set_option maxHeartbeats 4000000 in
theorem s_begins {G : Nat → Int32} {f0 : Nat → Int32} {f9 : Nat → Int32} (h_0 : WI f0) : S_m_begins G f0 f9 := by
  unfold S_m_begins
  refine sl_begins_10 ?_ (((42 : Int32).toInt - (0 : Int32).toInt).toNat + 1) 0 f0 (⟨h_0, (by first | omega | (simp (disch := omega) only [↓i_in, ↓i_isCouple, ↓i_isBridge, ↓i_isTheme, ↓i_isBarge, i_lt, i_le, i_eq, i_clamp, i_upd, i_m1, Int32.toInt_toInt64, Int32.toInt_add, Int32.toInt_sub, Int32.toInt_mul, bm32, Int32.reduceToInt, Int64.reduceToInt, Nat.reduceLT, Nat.reduceEqDiff, reduceIte] <;> omega)), (by first | omega | (simp (disch := omega) only [↓i_in, ↓i_isCouple, ↓i_isBridge, ↓i_isTheme, ↓i_isBarge, i_lt, i_le, i_eq, i_clamp, i_upd, i_m1, Int32.toInt_toInt64, Int32.toInt_add, Int32.toInt_sub, Int32.toInt_mul, bm32, Int32.reduceToInt, Int64.reduceToInt, Nat.reduceLT, Nat.reduceEqDiff, reduceIte] <;> omega))⟩)
  intro w_1l2 w_1m0 i_1
  obtain ⟨i_2, i_3, i_4⟩ := i_1
  refine sl_begins_31 ?_ (((6 : Int32).toInt - (0 : Int32).toInt).toNat + 1) 0 w_1m0 (⟨i_2, (by first | omega | (simp (disch := omega) only [↓i_in, ↓i_isCouple, ↓i_isBridge, ↓i_isTheme, ↓i_isBarge, i_lt, i_le, i_eq, i_clamp, i_upd, i_m1, Int32.toInt_toInt64, Int32.toInt_add, Int32.toInt_sub, Int32.toInt_mul, bm32, Int32.reduceToInt, Int64.reduceToInt, Nat.reduceLT, Nat.reduceEqDiff, reduceIte] <;> omega)), (by first | omega | (simp (disch := omega) only [↓i_in, ↓i_isCouple, ↓i_isBridge, ↓i_isTheme, ↓i_isBarge, i_lt, i_le, i_eq, i_clamp, i_upd, i_m1, Int32.toInt_toInt64, Int32.toInt_add, Int32.toInt_sub, Int32.toInt_mul, bm32, Int32.reduceToInt, Int64.reduceToInt, Nat.reduceLT, Nat.reduceEqDiff, reduceIte] <;> omega))⟩)
  intro w_2l2 w_2m0 i_5
  obtain ⟨i_6, i_7, i_8⟩ := i_5
  refine sl_begins_81 ?_ (((7 : Int32).toInt - (0 : Int32).toInt).toNat + 1) 0 w_2m0 (⟨i_6, (by first | omega | (simp (disch := omega) only [↓i_in, ↓i_isCouple, ↓i_isBridge, ↓i_isTheme, ↓i_isBarge, i_lt, i_le, i_eq, i_clamp, i_upd, i_m1, Int32.toInt_toInt64, Int32.toInt_add, Int32.toInt_sub, Int32.toInt_mul, bm32, Int32.reduceToInt, Int64.reduceToInt, Nat.reduceLT, Nat.reduceEqDiff, reduceIte] <;> omega)), (by first | omega | (simp (disch := omega) only [↓i_in, ↓i_isCouple, ↓i_isBridge, ↓i_isTheme, ↓i_isBarge, i_lt, i_le, i_eq, i_clamp, i_upd, i_m1, Int32.toInt_toInt64, Int32.toInt_add, Int32.toInt_sub, Int32.toInt_mul, bm32, Int32.reduceToInt, Int64.reduceToInt, Nat.reduceLT, Nat.reduceEqDiff, reduceIte] <;> omega))⟩)
  intro w_3l2 w_3m0 i_9
  obtain ⟨i_10, i_11, i_12⟩ := i_9
  exact trivial
theorem p_begins {G f0 f9 : Nat → Int32} (h : WI f0) : WI (f_m_begins G f0 f9) := by
  unfold f_m_begins
  generalize hx : f_m_begins_10 _ _ _ = x
  obtain ⟨a, b⟩ := x
  have h1 := pl_begins_10 _ _ _ ⟨h, by decide, by decide⟩ _ _ hx
  show WI (match f_m_begins_31 G f9 (((6 : Int32).toInt - (0 : Int32).toInt).toNat + 1) 0 b with | (w_2l2, w_2m0) => (match f_m_begins_81 (((7 : Int32).toInt - (0 : Int32).toInt).toNat + 1) 0 w_2m0 with | (w_3l2, w_3m0) => (upd w_3m0 (41 : Int32).toNatClampNeg (f0 (41 : Int32).toNatClampNeg))))
  generalize hy : f_m_begins_31 _ _ _ _ _ = y
  obtain ⟨c, d⟩ := y
  have h2 := pl_begins_31 _ _ _ ⟨h1.1, by decide, by decide⟩ _ _ hy
  show WI (match f_m_begins_81 (((7 : Int32).toInt - (0 : Int32).toInt).toNat + 1) 0 d with | (w_3l2, w_3m0) => (upd w_3m0 (41 : Int32).toNatClampNeg (f0 (41 : Int32).toNatClampNeg)))
  generalize hz : f_m_begins_81 _ _ _ = z
  obtain ⟨p, q⟩ := z
  have h3 := pl_begins_81 _ _ _ ⟨h2.1, by decide, by decide⟩ _ _ hz
  exact WI_upd h3.1 (h _)
set_option maxHeartbeats 4000000 in
theorem sl_minds_11 {G : Nat → Int32} {K : Int32 → (Nat → Int32) → (Nat → Int32) → Prop} (h_0 : GI G) (hK : ∀ w_5l1 w_5m0 w_5m1, (QG G w_5m0 ∧ WI w_5m1 ∧ (0 ≤ w_5l1.toInt) ∧ (w_5l1.toInt ≤ 798)) → K w_5l1 w_5m0 w_5m1) : ∀ (n : Nat) w_5l1 w_5m0 w_5m1, (QG G w_5m0 ∧ WI w_5m1 ∧ (0 ≤ w_5l1.toInt) ∧ (w_5l1.toInt ≤ 798)) → S_m_minds_11  K n w_5l1 w_5m0 w_5m1 := by
  have h_0_g := h_0
  obtain ⟨⟨h_0_2a, h_0_2b⟩, ⟨h_0_3a, h_0_3b⟩, ⟨h_0_4a, h_0_4b⟩, ⟨h_0_5a, h_0_5b⟩, ⟨h_0_6a, h_0_6b⟩, ⟨h_0_14a, h_0_14b⟩, ⟨h_0_42a, h_0_42b⟩⟩ := h_0_g
  intro n
  induction n with
  | zero => intro w_5l1 w_5m0 w_5m1 hI; exact trivial
  | succ n ih =>
    intro w_5l1 w_5m0 w_5m1 hI
    rw [S_m_minds_11_s]
    have hI0 := hI
    obtain ⟨i_1, i_2, i_3, i_4⟩ := hI0
    obtain ⟨w_5m0_2, w_5m0_3, w_5m0_4, w_5m0_5, w_5m0_6, w_5m0_14, w_5m0_42⟩ := QGs i_1
    refine ⟨fun c_5 => ?_, fun c_5 => ?_⟩
    · skip
      try simp (disch := omega) only [↓i_in, ↓i_isCouple, ↓i_isBridge, ↓i_isTheme, ↓i_isBarge, i_lt, i_le, i_eq, i_clamp, i_upd, i_m1, Int32.toInt_toInt64, Int32.toInt_add, Int32.toInt_sub, Int32.toInt_mul, bm32, Int32.reduceToInt, Int64.reduceToInt, Nat.reduceLT, Nat.reduceEqDiff, reduceIte, w_5m0_2, w_5m0_3, w_5m0_4, w_5m0_5, w_5m0_6, w_5m0_14, w_5m0_42] at c_5
      exact hK w_5l1 w_5m0 w_5m1 hI
    · skip
      try simp (disch := omega) only [↓i_in, ↓i_isCouple, ↓i_isBridge, ↓i_isTheme, ↓i_isBarge, i_lt, i_le, i_eq, i_clamp, i_upd, i_m1, Int32.toInt_toInt64, Int32.toInt_add, Int32.toInt_sub, Int32.toInt_mul, bm32, Int32.reduceToInt, Int64.reduceToInt, Nat.reduceLT, Nat.reduceEqDiff, reduceIte, w_5m0_2, w_5m0_3, w_5m0_4, w_5m0_5, w_5m0_6, w_5m0_14, w_5m0_42] at c_5
      refine ⟨vp_in_iff.mpr (by first | omega | (simp (disch := omega) only [↓i_in, ↓i_isCouple, ↓i_isBridge, ↓i_isTheme, ↓i_isBarge, i_lt, i_le, i_eq, i_clamp, i_upd, i_m1, Int32.toInt_toInt64, Int32.toInt_add, Int32.toInt_sub, Int32.toInt_mul, bm32, Int32.reduceToInt, Int64.reduceToInt, Nat.reduceLT, Nat.reduceEqDiff, reduceIte, w_5m0_2, w_5m0_3, w_5m0_4, w_5m0_5, w_5m0_6, w_5m0_14, w_5m0_42] <;> omega)), ?_⟩
      refine ⟨vp_in_iff.mpr (by first | omega | (simp (disch := omega) only [↓i_in, ↓i_isCouple, ↓i_isBridge, ↓i_isTheme, ↓i_isBarge, i_lt, i_le, i_eq, i_clamp, i_upd, i_m1, Int32.toInt_toInt64, Int32.toInt_add, Int32.toInt_sub, Int32.toInt_mul, bm32, Int32.reduceToInt, Int64.reduceToInt, Nat.reduceLT, Nat.reduceEqDiff, reduceIte, w_5m0_2, w_5m0_3, w_5m0_4, w_5m0_5, w_5m0_6, w_5m0_14, w_5m0_42] <;> omega)), ?_⟩
      exact ih (w_5l1 + 1) w_5m0 (upd w_5m1 ((462 + w_5l1) : Int32).toNatClampNeg (w_5m1 (((462 + w_5l1) + 42) : Int32).toNatClampNeg)) (⟨i_1, (WI_upd i_2 (by first | (refine OKv.out ?_; (first | omega | (simp (disch := omega) only [↓i_in, ↓i_isCouple, ↓i_isBridge, ↓i_isTheme, ↓i_isBarge, i_lt, i_le, i_eq, i_clamp, i_upd, i_m1, Int32.toInt_toInt64, Int32.toInt_add, Int32.toInt_sub, Int32.toInt_mul, bm32, Int32.reduceToInt, Int64.reduceToInt, Nat.reduceLT, Nat.reduceEqDiff, reduceIte, w_5m0_2, w_5m0_3, w_5m0_4, w_5m0_5, w_5m0_6, w_5m0_14, w_5m0_42] <;> omega))) | (refine OKv.same ?_ (i_2 _); (first | omega | (simp (disch := omega) only [↓i_in, ↓i_isCouple, ↓i_isBridge, ↓i_isTheme, ↓i_isBarge, i_lt, i_le, i_eq, i_clamp, i_upd, i_m1, Int32.toInt_toInt64, Int32.toInt_add, Int32.toInt_sub, Int32.toInt_mul, bm32, Int32.reduceToInt, Int64.reduceToInt, Nat.reduceLT, Nat.reduceEqDiff, reduceIte, w_5m0_2, w_5m0_3, w_5m0_4, w_5m0_5, w_5m0_6, w_5m0_14, w_5m0_42] <;> omega))))), (by first | omega | (simp (disch := omega) only [↓i_in, ↓i_isCouple, ↓i_isBridge, ↓i_isTheme, ↓i_isBarge, i_lt, i_le, i_eq, i_clamp, i_upd, i_m1, Int32.toInt_toInt64, Int32.toInt_add, Int32.toInt_sub, Int32.toInt_mul, bm32, Int32.reduceToInt, Int64.reduceToInt, Nat.reduceLT, Nat.reduceEqDiff, reduceIte, w_5m0_2, w_5m0_3, w_5m0_4, w_5m0_5, w_5m0_6, w_5m0_14, w_5m0_42] <;> omega)), (by first | omega | (simp (disch := omega) only [↓i_in, ↓i_isCouple, ↓i_isBridge, ↓i_isTheme, ↓i_isBarge, i_lt, i_le, i_eq, i_clamp, i_upd, i_m1, Int32.toInt_toInt64, Int32.toInt_add, Int32.toInt_sub, Int32.toInt_mul, bm32, Int32.reduceToInt, Int64.reduceToInt, Nat.reduceLT, Nat.reduceEqDiff, reduceIte, w_5m0_2, w_5m0_3, w_5m0_4, w_5m0_5, w_5m0_6, w_5m0_14, w_5m0_42] <;> omega))⟩)
theorem pl_minds_11 : ∀ (n : Nat) (l : Int32) (g w : Nat → Int32), WI w → 0 ≤ l.toInt → l.toInt ≤ 798 → WI (f_m_minds_11 n l g w).2.2 ∧ (f_m_minds_11 n l g w).2.1 = g := by
  intro n
  induction n with
  | zero => intro l g w h _ _; exact ⟨h, rfl⟩
  | succ n ih =>
    intro l g w h a b
    rw [f_m_minds_11_s]
    by_cases c : 798 ≤ l
    · rw [if_pos c]
      exact ⟨h, rfl⟩
    · rw [if_neg c]
      simp only [i_le, Int32.reduceToInt] at c
      refine ih _ _ _ (WI_upd h (OKv.same ?_ (h _))) ?_ ?_
      · simp (disch := omega) only [i_clamp, Int32.toInt_add, bm32, Int32.reduceToInt]
        omega
      · simp (disch := omega) only [Int32.toInt_add, bm32, Int32.reduceToInt]
        omega
      · simp (disch := omega) only [Int32.toInt_add, bm32, Int32.reduceToInt]
        omega
theorem p_minds {G f0 : Nat → Int32} (h_0 : GI G) (h_1 : WI f0) : ∀ (o1 o2 : Nat → Int32), f_m_minds G f0 = (o1, o2) → GI o1 ∧ WI o2 ∧ (∀ k, k ≠ 2 → o1 k = G k) := by
  intro o1 o2 e
  unfold f_m_minds at e
  have h0 := h_0
  obtain ⟨⟨a1, a2⟩, _⟩ := h0
  by_cases c : G 2 = 20
  · rw [if_pos c] at e
    generalize hx : f_m_minds_11 _ _ _ _ = x at e
    obtain ⟨p, q, r⟩ := x
    have h2 := pl_minds_11 (((798 : Int32).toInt - (0 : Int32).toInt).toNat + 1) 0 G f0 h_1 (by decide) (by decide)
    rw [hx] at h2
    obtain ⟨h3, h4⟩ := h2
    replace h4 : q = G := h4
    subst h4
    replace e : ((upd (upd q 2 ((q 2) - 1)) 2 (((upd q 2 ((q 2) - 1)) 2) + 1)), (f_m_copy r 0 (462 + (42 * ((q 2) - 1))))) = (o1, o2) := e
    rw [pk_us, c] at e
    cases e
    refine ⟨GI_u2 (GI_u2 h_0 (by decide) (by decide)) (by decide) (by decide), p_copy h3 (by decide) (by decide) (by decide) (by decide), fun k hk => ?_⟩
    rw [pk_un hk, pk_un hk]
  · rw [if_neg c] at e
    cases e
    have c2 : (G 2).toInt ≤ 19 := by
      simp only [i_eq, Int32.reduceToInt] at c
      omega
    refine ⟨GI_u2 h_0 ?_ ?_, p_copy h_1 (by decide) (by decide) ?_ ?_, fun k hk => pk_un hk⟩
    all_goals (simp (disch := omega) only [Int32.toInt_add, Int32.toInt_mul, bm32, Int32.reduceToInt]; omega)
set_option maxHeartbeats 4000000 in
theorem s_minds {G : Nat → Int32} {f0 : Nat → Int32} (h_0 : GI G) (h_1 : WI f0) : S_m_minds G f0 := by
  unfold S_m_minds
  have h_0_g := h_0
  obtain ⟨⟨h_0_2a, h_0_2b⟩, ⟨h_0_3a, h_0_3b⟩, ⟨h_0_4a, h_0_4b⟩, ⟨h_0_5a, h_0_5b⟩, ⟨h_0_6a, h_0_6b⟩, ⟨h_0_14a, h_0_14b⟩, ⟨h_0_42a, h_0_42b⟩⟩ := h_0_g
  refine ⟨fun c_1 => ?_, fun c_1 => ?_⟩
  · skip
    try simp (disch := omega) only [↓i_in, ↓i_isCouple, ↓i_isBridge, ↓i_isTheme, ↓i_isBarge, i_lt, i_le, i_eq, i_clamp, i_upd, i_m1, Int32.toInt_toInt64, Int32.toInt_add, Int32.toInt_sub, Int32.toInt_mul, bm32, Int32.reduceToInt, Int64.reduceToInt, Nat.reduceLT, Nat.reduceEqDiff, reduceIte] at c_1
    refine sl_minds_11 h_0 ?_ (((798 : Int32).toInt - (0 : Int32).toInt).toNat + 1) 0 G f0 (⟨(QG.refl _), h_1, (by first | omega | (simp (disch := omega) only [↓i_in, ↓i_isCouple, ↓i_isBridge, ↓i_isTheme, ↓i_isBarge, i_lt, i_le, i_eq, i_clamp, i_upd, i_m1, Int32.toInt_toInt64, Int32.toInt_add, Int32.toInt_sub, Int32.toInt_mul, bm32, Int32.reduceToInt, Int64.reduceToInt, Nat.reduceLT, Nat.reduceEqDiff, reduceIte] <;> omega)), (by first | omega | (simp (disch := omega) only [↓i_in, ↓i_isCouple, ↓i_isBridge, ↓i_isTheme, ↓i_isBarge, i_lt, i_le, i_eq, i_clamp, i_upd, i_m1, Int32.toInt_toInt64, Int32.toInt_add, Int32.toInt_sub, Int32.toInt_mul, bm32, Int32.reduceToInt, Int64.reduceToInt, Nat.reduceLT, Nat.reduceEqDiff, reduceIte] <;> omega))⟩)
    intro w_5l1 w_5m0 w_5m1 i_2
    obtain ⟨i_3, i_4, i_5, i_6⟩ := i_2
    obtain ⟨w_5m0_2, w_5m0_3, w_5m0_4, w_5m0_5, w_5m0_6, w_5m0_14, w_5m0_42⟩ := QGs i_3
    refine ⟨(s_copy (by first | omega | (simp (disch := omega) only [↓i_in, ↓i_isCouple, ↓i_isBridge, ↓i_isTheme, ↓i_isBarge, i_lt, i_le, i_eq, i_clamp, i_upd, i_m1, Int32.toInt_toInt64, Int32.toInt_add, Int32.toInt_sub, Int32.toInt_mul, bm32, Int32.reduceToInt, Int64.reduceToInt, Nat.reduceLT, Nat.reduceEqDiff, reduceIte, w_5m0_2, w_5m0_3, w_5m0_4, w_5m0_5, w_5m0_6, w_5m0_14, w_5m0_42] <;> omega)) (by first | omega | (simp (disch := omega) only [↓i_in, ↓i_isCouple, ↓i_isBridge, ↓i_isTheme, ↓i_isBarge, i_lt, i_le, i_eq, i_clamp, i_upd, i_m1, Int32.toInt_toInt64, Int32.toInt_add, Int32.toInt_sub, Int32.toInt_mul, bm32, Int32.reduceToInt, Int64.reduceToInt, Nat.reduceLT, Nat.reduceEqDiff, reduceIte, w_5m0_2, w_5m0_3, w_5m0_4, w_5m0_5, w_5m0_6, w_5m0_14, w_5m0_42] <;> omega)) (by first | omega | (simp (disch := omega) only [↓i_in, ↓i_isCouple, ↓i_isBridge, ↓i_isTheme, ↓i_isBarge, i_lt, i_le, i_eq, i_clamp, i_upd, i_m1, Int32.toInt_toInt64, Int32.toInt_add, Int32.toInt_sub, Int32.toInt_mul, bm32, Int32.reduceToInt, Int64.reduceToInt, Nat.reduceLT, Nat.reduceEqDiff, reduceIte, w_5m0_2, w_5m0_3, w_5m0_4, w_5m0_5, w_5m0_6, w_5m0_14, w_5m0_42] <;> omega)) (by first | omega | (simp (disch := omega) only [↓i_in, ↓i_isCouple, ↓i_isBridge, ↓i_isTheme, ↓i_isBarge, i_lt, i_le, i_eq, i_clamp, i_upd, i_m1, Int32.toInt_toInt64, Int32.toInt_add, Int32.toInt_sub, Int32.toInt_mul, bm32, Int32.reduceToInt, Int64.reduceToInt, Nat.reduceLT, Nat.reduceEqDiff, reduceIte, w_5m0_2, w_5m0_3, w_5m0_4, w_5m0_5, w_5m0_6, w_5m0_14, w_5m0_42] <;> omega))), ?_⟩
    exact trivial
  · skip
    try simp (disch := omega) only [↓i_in, ↓i_isCouple, ↓i_isBridge, ↓i_isTheme, ↓i_isBarge, i_lt, i_le, i_eq, i_clamp, i_upd, i_m1, Int32.toInt_toInt64, Int32.toInt_add, Int32.toInt_sub, Int32.toInt_mul, bm32, Int32.reduceToInt, Int64.reduceToInt, Nat.reduceLT, Nat.reduceEqDiff, reduceIte] at c_1
    refine ⟨(s_copy (by first | omega | (simp (disch := omega) only [↓i_in, ↓i_isCouple, ↓i_isBridge, ↓i_isTheme, ↓i_isBarge, i_lt, i_le, i_eq, i_clamp, i_upd, i_m1, Int32.toInt_toInt64, Int32.toInt_add, Int32.toInt_sub, Int32.toInt_mul, bm32, Int32.reduceToInt, Int64.reduceToInt, Nat.reduceLT, Nat.reduceEqDiff, reduceIte] <;> omega)) (by first | omega | (simp (disch := omega) only [↓i_in, ↓i_isCouple, ↓i_isBridge, ↓i_isTheme, ↓i_isBarge, i_lt, i_le, i_eq, i_clamp, i_upd, i_m1, Int32.toInt_toInt64, Int32.toInt_add, Int32.toInt_sub, Int32.toInt_mul, bm32, Int32.reduceToInt, Int64.reduceToInt, Nat.reduceLT, Nat.reduceEqDiff, reduceIte] <;> omega)) (by first | omega | (simp (disch := omega) only [↓i_in, ↓i_isCouple, ↓i_isBridge, ↓i_isTheme, ↓i_isBarge, i_lt, i_le, i_eq, i_clamp, i_upd, i_m1, Int32.toInt_toInt64, Int32.toInt_add, Int32.toInt_sub, Int32.toInt_mul, bm32, Int32.reduceToInt, Int64.reduceToInt, Nat.reduceLT, Nat.reduceEqDiff, reduceIte] <;> omega)) (by first | omega | (simp (disch := omega) only [↓i_in, ↓i_isCouple, ↓i_isBridge, ↓i_isTheme, ↓i_isBarge, i_lt, i_le, i_eq, i_clamp, i_upd, i_m1, Int32.toInt_toInt64, Int32.toInt_add, Int32.toInt_sub, Int32.toInt_mul, bm32, Int32.reduceToInt, Int64.reduceToInt, Nat.reduceLT, Nat.reduceEqDiff, reduceIte] <;> omega))), ?_⟩
    exact trivial
end
section
set_option maxHeartbeats 4000000 in
theorem sl_bargesThat_4 {G : Nat → Int32} {f0 : Nat → Int32} {i_ : Int32} {K : Int32 → Int32 → Prop} (h_0 : GI G) (hK : ∀ w_1l3 w_1l2, ((0 ≤ w_1l3.toInt) ∧ (w_1l3.toInt ≤ 7)) → K w_1l3 w_1l2) : ∀ (n : Nat) w_1l3 w_1l2, ((0 ≤ w_1l3.toInt) ∧ (w_1l3.toInt ≤ 7)) → S_m_bargesThat_4 G f0 i_ K n w_1l3 w_1l2 := by
  have h_0_g := h_0
  obtain ⟨⟨h_0_2a, h_0_2b⟩, ⟨h_0_3a, h_0_3b⟩, ⟨h_0_4a, h_0_4b⟩, ⟨h_0_5a, h_0_5b⟩, ⟨h_0_6a, h_0_6b⟩, ⟨h_0_14a, h_0_14b⟩, ⟨h_0_42a, h_0_42b⟩⟩ := h_0_g
  intro n
  induction n with
  | zero => intro w_1l3 w_1l2 hI; exact trivial
  | succ n ih =>
    intro w_1l3 w_1l2 hI
    rw [S_m_bargesThat_4_s]
    have hI0 := hI
    obtain ⟨i_1, i_2⟩ := hI0
    refine ⟨fun c_3 => ?_, fun c_3 => ?_⟩
    · skip
      try simp (disch := omega) only [↓i_in, ↓i_isCouple, ↓i_isBridge, ↓i_isTheme, ↓i_isBarge, i_lt, i_le, i_eq, i_clamp, i_upd, i_m1, Int32.toInt_toInt64, Int32.toInt_add, Int32.toInt_sub, Int32.toInt_mul, bm32, Int32.reduceToInt, Int64.reduceToInt, Nat.reduceLT, Nat.reduceEqDiff, reduceIte] at c_3
      exact hK w_1l3 w_1l2 hI
    · skip
      try simp (disch := omega) only [↓i_in, ↓i_isCouple, ↓i_isBridge, ↓i_isTheme, ↓i_isBarge, i_lt, i_le, i_eq, i_clamp, i_upd, i_m1, Int32.toInt_toInt64, Int32.toInt_add, Int32.toInt_sub, Int32.toInt_mul, bm32, Int32.reduceToInt, Int64.reduceToInt, Nat.reduceLT, Nat.reduceEqDiff, reduceIte] at c_3
      refine ⟨vp_in_iff.mpr (by first | omega | (simp (disch := omega) only [↓i_in, ↓i_isCouple, ↓i_isBridge, ↓i_isTheme, ↓i_isBarge, i_lt, i_le, i_eq, i_clamp, i_upd, i_m1, Int32.toInt_toInt64, Int32.toInt_add, Int32.toInt_sub, Int32.toInt_mul, bm32, Int32.reduceToInt, Int64.reduceToInt, Nat.reduceLT, Nat.reduceEqDiff, reduceIte] <;> omega)), ?_⟩
      refine ⟨fun c_4 => ?_, fun c_4 => ?_⟩
      · skip
        try simp (disch := omega) only [↓i_in, ↓i_isCouple, ↓i_isBridge, ↓i_isTheme, ↓i_isBarge, i_lt, i_le, i_eq, i_clamp, i_upd, i_m1, Int32.toInt_toInt64, Int32.toInt_add, Int32.toInt_sub, Int32.toInt_mul, bm32, Int32.reduceToInt, Int64.reduceToInt, Nat.reduceLT, Nat.reduceEqDiff, reduceIte] at c_4
        exact ih (w_1l3 + 1) (w_1l2 ||| (1 <<< (w_1l3 &&& 31))) (⟨(by first | omega | (simp (disch := omega) only [↓i_in, ↓i_isCouple, ↓i_isBridge, ↓i_isTheme, ↓i_isBarge, i_lt, i_le, i_eq, i_clamp, i_upd, i_m1, Int32.toInt_toInt64, Int32.toInt_add, Int32.toInt_sub, Int32.toInt_mul, bm32, Int32.reduceToInt, Int64.reduceToInt, Nat.reduceLT, Nat.reduceEqDiff, reduceIte] <;> omega)), (by first | omega | (simp (disch := omega) only [↓i_in, ↓i_isCouple, ↓i_isBridge, ↓i_isTheme, ↓i_isBarge, i_lt, i_le, i_eq, i_clamp, i_upd, i_m1, Int32.toInt_toInt64, Int32.toInt_add, Int32.toInt_sub, Int32.toInt_mul, bm32, Int32.reduceToInt, Int64.reduceToInt, Nat.reduceLT, Nat.reduceEqDiff, reduceIte] <;> omega))⟩)
      · skip
        try simp (disch := omega) only [↓i_in, ↓i_isCouple, ↓i_isBridge, ↓i_isTheme, ↓i_isBarge, i_lt, i_le, i_eq, i_clamp, i_upd, i_m1, Int32.toInt_toInt64, Int32.toInt_add, Int32.toInt_sub, Int32.toInt_mul, bm32, Int32.reduceToInt, Int64.reduceToInt, Nat.reduceLT, Nat.reduceEqDiff, reduceIte] at c_4
        exact ih (w_1l3 + 1) (w_1l2 ||| 0) (⟨(by first | omega | (simp (disch := omega) only [↓i_in, ↓i_isCouple, ↓i_isBridge, ↓i_isTheme, ↓i_isBarge, i_lt, i_le, i_eq, i_clamp, i_upd, i_m1, Int32.toInt_toInt64, Int32.toInt_add, Int32.toInt_sub, Int32.toInt_mul, bm32, Int32.reduceToInt, Int64.reduceToInt, Nat.reduceLT, Nat.reduceEqDiff, reduceIte] <;> omega)), (by first | omega | (simp (disch := omega) only [↓i_in, ↓i_isCouple, ↓i_isBridge, ↓i_isTheme, ↓i_isBarge, i_lt, i_le, i_eq, i_clamp, i_upd, i_m1, Int32.toInt_toInt64, Int32.toInt_add, Int32.toInt_sub, Int32.toInt_mul, bm32, Int32.reduceToInt, Int64.reduceToInt, Nat.reduceLT, Nat.reduceEqDiff, reduceIte] <;> omega))⟩)
set_option maxHeartbeats 4000000 in
theorem s_bargesThat {G : Nat → Int32} {f0 : Nat → Int32} {i_ : Int32} (h_0 : GI G) : S_m_bargesThat G f0 i_ := by
  unfold S_m_bargesThat
  have h_0_g := h_0
  obtain ⟨⟨h_0_2a, h_0_2b⟩, ⟨h_0_3a, h_0_3b⟩, ⟨h_0_4a, h_0_4b⟩, ⟨h_0_5a, h_0_5b⟩, ⟨h_0_6a, h_0_6b⟩, ⟨h_0_14a, h_0_14b⟩, ⟨h_0_42a, h_0_42b⟩⟩ := h_0_g
  refine sl_bargesThat_4 h_0 ?_ ((((G 6) : Int32).toInt - (0 : Int32).toInt).toNat + 1) 0 0 (⟨(by first | omega | (simp (disch := omega) only [↓i_in, ↓i_isCouple, ↓i_isBridge, ↓i_isTheme, ↓i_isBarge, i_lt, i_le, i_eq, i_clamp, i_upd, i_m1, Int32.toInt_toInt64, Int32.toInt_add, Int32.toInt_sub, Int32.toInt_mul, bm32, Int32.reduceToInt, Int64.reduceToInt, Nat.reduceLT, Nat.reduceEqDiff, reduceIte] <;> omega)), (by first | omega | (simp (disch := omega) only [↓i_in, ↓i_isCouple, ↓i_isBridge, ↓i_isTheme, ↓i_isBarge, i_lt, i_le, i_eq, i_clamp, i_upd, i_m1, Int32.toInt_toInt64, Int32.toInt_add, Int32.toInt_sub, Int32.toInt_mul, bm32, Int32.reduceToInt, Int64.reduceToInt, Nat.reduceLT, Nat.reduceEqDiff, reduceIte] <;> omega))⟩)
  intro w_1l3 w_1l2 i_1
  obtain ⟨i_2, i_3⟩ := i_1
  exact trivial
set_option maxHeartbeats 4000000 in
theorem sl_griefOf_4 {G : Nat → Int32} {f0 : Nat → Int32} {s_ : Int32} {K : Int32 → Int32 → Prop} (h_0 : GI G) (hK : ∀ w_1l3 w_1l2, ((0 ≤ w_1l3.toInt) ∧ (w_1l3.toInt ≤ 6)) → K w_1l3 w_1l2) : ∀ (n : Nat) w_1l3 w_1l2, ((0 ≤ w_1l3.toInt) ∧ (w_1l3.toInt ≤ 6)) → S_m_griefOf_4 G f0 s_ K n w_1l3 w_1l2 := by
  have h_0_g := h_0
  obtain ⟨⟨h_0_2a, h_0_2b⟩, ⟨h_0_3a, h_0_3b⟩, ⟨h_0_4a, h_0_4b⟩, ⟨h_0_5a, h_0_5b⟩, ⟨h_0_6a, h_0_6b⟩, ⟨h_0_14a, h_0_14b⟩, ⟨h_0_42a, h_0_42b⟩⟩ := h_0_g
  intro n
  induction n with
  | zero => intro w_1l3 w_1l2 hI; exact trivial
  | succ n ih =>
    intro w_1l3 w_1l2 hI
    rw [S_m_griefOf_4_s]
    have hI0 := hI
    obtain ⟨i_1, i_2⟩ := hI0
    refine ⟨fun c_3 => ?_, fun c_3 => ?_⟩
    · skip
      try simp (disch := omega) only [↓i_in, ↓i_isCouple, ↓i_isBridge, ↓i_isTheme, ↓i_isBarge, i_lt, i_le, i_eq, i_clamp, i_upd, i_m1, Int32.toInt_toInt64, Int32.toInt_add, Int32.toInt_sub, Int32.toInt_mul, bm32, Int32.reduceToInt, Int64.reduceToInt, Nat.reduceLT, Nat.reduceEqDiff, reduceIte] at c_3
      exact hK w_1l3 w_1l2 hI
    · skip
      try simp (disch := omega) only [↓i_in, ↓i_isCouple, ↓i_isBridge, ↓i_isTheme, ↓i_isBarge, i_lt, i_le, i_eq, i_clamp, i_upd, i_m1, Int32.toInt_toInt64, Int32.toInt_add, Int32.toInt_sub, Int32.toInt_mul, bm32, Int32.reduceToInt, Int64.reduceToInt, Nat.reduceLT, Nat.reduceEqDiff, reduceIte] at c_3
      refine ⟨s_has, ?_⟩
      refine ⟨fun c_4 => ?_, fun c_4 => ?_⟩
      · skip
        try simp (disch := omega) only [↓i_in, ↓i_isCouple, ↓i_isBridge, ↓i_isTheme, ↓i_isBarge, i_lt, i_le, i_eq, i_clamp, i_upd, i_m1, Int32.toInt_toInt64, Int32.toInt_add, Int32.toInt_sub, Int32.toInt_mul, bm32, Int32.reduceToInt, Int64.reduceToInt, Nat.reduceLT, Nat.reduceEqDiff, reduceIte] at c_4
        exact ih (w_1l3 + 1) (w_1l2 + 0) (⟨(by first | omega | (simp (disch := omega) only [↓i_in, ↓i_isCouple, ↓i_isBridge, ↓i_isTheme, ↓i_isBarge, i_lt, i_le, i_eq, i_clamp, i_upd, i_m1, Int32.toInt_toInt64, Int32.toInt_add, Int32.toInt_sub, Int32.toInt_mul, bm32, Int32.reduceToInt, Int64.reduceToInt, Nat.reduceLT, Nat.reduceEqDiff, reduceIte] <;> omega)), (by first | omega | (simp (disch := omega) only [↓i_in, ↓i_isCouple, ↓i_isBridge, ↓i_isTheme, ↓i_isBarge, i_lt, i_le, i_eq, i_clamp, i_upd, i_m1, Int32.toInt_toInt64, Int32.toInt_add, Int32.toInt_sub, Int32.toInt_mul, bm32, Int32.reduceToInt, Int64.reduceToInt, Nat.reduceLT, Nat.reduceEqDiff, reduceIte] <;> omega))⟩)
      · skip
        try simp (disch := omega) only [↓i_in, ↓i_isCouple, ↓i_isBridge, ↓i_isTheme, ↓i_isBarge, i_lt, i_le, i_eq, i_clamp, i_upd, i_m1, Int32.toInt_toInt64, Int32.toInt_add, Int32.toInt_sub, Int32.toInt_mul, bm32, Int32.reduceToInt, Int64.reduceToInt, Nat.reduceLT, Nat.reduceEqDiff, reduceIte] at c_4
        refine ⟨vp_in_iff.mpr (by first | omega | (simp (disch := omega) only [↓i_in, ↓i_isCouple, ↓i_isBridge, ↓i_isTheme, ↓i_isBarge, i_lt, i_le, i_eq, i_clamp, i_upd, i_m1, Int32.toInt_toInt64, Int32.toInt_add, Int32.toInt_sub, Int32.toInt_mul, bm32, Int32.reduceToInt, Int64.reduceToInt, Nat.reduceLT, Nat.reduceEqDiff, reduceIte] <;> omega)), ?_⟩
        exact ih (w_1l3 + 1) (w_1l2 + (f0 ((0 + w_1l3) : Int32).toNatClampNeg)) (⟨(by first | omega | (simp (disch := omega) only [↓i_in, ↓i_isCouple, ↓i_isBridge, ↓i_isTheme, ↓i_isBarge, i_lt, i_le, i_eq, i_clamp, i_upd, i_m1, Int32.toInt_toInt64, Int32.toInt_add, Int32.toInt_sub, Int32.toInt_mul, bm32, Int32.reduceToInt, Int64.reduceToInt, Nat.reduceLT, Nat.reduceEqDiff, reduceIte] <;> omega)), (by first | omega | (simp (disch := omega) only [↓i_in, ↓i_isCouple, ↓i_isBridge, ↓i_isTheme, ↓i_isBarge, i_lt, i_le, i_eq, i_clamp, i_upd, i_m1, Int32.toInt_toInt64, Int32.toInt_add, Int32.toInt_sub, Int32.toInt_mul, bm32, Int32.reduceToInt, Int64.reduceToInt, Nat.reduceLT, Nat.reduceEqDiff, reduceIte] <;> omega))⟩)
set_option maxHeartbeats 4000000 in
theorem s_griefOf {G : Nat → Int32} {f0 : Nat → Int32} {s_ : Int32} (h_0 : GI G) : S_m_griefOf G f0 s_ := by
  unfold S_m_griefOf
  have h_0_g := h_0
  obtain ⟨⟨h_0_2a, h_0_2b⟩, ⟨h_0_3a, h_0_3b⟩, ⟨h_0_4a, h_0_4b⟩, ⟨h_0_5a, h_0_5b⟩, ⟨h_0_6a, h_0_6b⟩, ⟨h_0_14a, h_0_14b⟩, ⟨h_0_42a, h_0_42b⟩⟩ := h_0_g
  refine sl_griefOf_4 h_0 ?_ ((((G 5) : Int32).toInt - (0 : Int32).toInt).toNat + 1) 0 0 (⟨(by first | omega | (simp (disch := omega) only [↓i_in, ↓i_isCouple, ↓i_isBridge, ↓i_isTheme, ↓i_isBarge, i_lt, i_le, i_eq, i_clamp, i_upd, i_m1, Int32.toInt_toInt64, Int32.toInt_add, Int32.toInt_sub, Int32.toInt_mul, bm32, Int32.reduceToInt, Int64.reduceToInt, Nat.reduceLT, Nat.reduceEqDiff, reduceIte] <;> omega)), (by first | omega | (simp (disch := omega) only [↓i_in, ↓i_isCouple, ↓i_isBridge, ↓i_isTheme, ↓i_isBarge, i_lt, i_le, i_eq, i_clamp, i_upd, i_m1, Int32.toInt_toInt64, Int32.toInt_add, Int32.toInt_sub, Int32.toInt_mul, bm32, Int32.reduceToInt, Int64.reduceToInt, Nat.reduceLT, Nat.reduceEqDiff, reduceIte] <;> omega))⟩)
  intro w_1l3 w_1l2 i_1
  obtain ⟨i_2, i_3⟩ := i_1
  exact trivial
set_option maxHeartbeats 4000000 in
theorem sl_whoIsAt_5 {G : Nat → Int32} {f0 : Nat → Int32} {h_ : Int32} {b_ : Int32} {K : Int32 → Int32 → Prop} (h_0 : GI G) (h_1 : 0 ≤ h_.toInt) (h_2 : h_.toInt ≤ 1260) (hK : ∀ w_1l4 w_1l3, ((0 ≤ w_1l4.toInt) ∧ (w_1l4.toInt ≤ (G 5).toInt) ∧ (-1 ≤ w_1l3.toInt) ∧ (w_1l3.toInt < (G 5).toInt)) → K w_1l4 w_1l3) : ∀ (n : Nat) w_1l4 w_1l3, ((0 ≤ w_1l4.toInt) ∧ (w_1l4.toInt ≤ (G 5).toInt) ∧ (-1 ≤ w_1l3.toInt) ∧ (w_1l3.toInt < (G 5).toInt)) → S_m_whoIsAt_5 G f0 h_ b_ K n w_1l4 w_1l3 := by
  have h_0_g := h_0
  obtain ⟨⟨h_0_2a, h_0_2b⟩, ⟨h_0_3a, h_0_3b⟩, ⟨h_0_4a, h_0_4b⟩, ⟨h_0_5a, h_0_5b⟩, ⟨h_0_6a, h_0_6b⟩, ⟨h_0_14a, h_0_14b⟩, ⟨h_0_42a, h_0_42b⟩⟩ := h_0_g
  intro n
  induction n with
  | zero => intro w_1l4 w_1l3 hI; exact trivial
  | succ n ih =>
    intro w_1l4 w_1l3 hI
    rw [S_m_whoIsAt_5_s]
    have hI0 := hI
    obtain ⟨i_1, i_2, i_3, i_4⟩ := hI0
    refine ⟨fun c_5 => ?_, fun c_5 => ?_⟩
    · skip
      try simp (disch := omega) only [↓i_in, ↓i_isCouple, ↓i_isBridge, ↓i_isTheme, ↓i_isBarge, i_lt, i_le, i_eq, i_clamp, i_upd, i_m1, Int32.toInt_toInt64, Int32.toInt_add, Int32.toInt_sub, Int32.toInt_mul, bm32, Int32.reduceToInt, Int64.reduceToInt, Nat.reduceLT, Nat.reduceEqDiff, reduceIte] at c_5
      exact hK w_1l4 w_1l3 hI
    · skip
      try simp (disch := omega) only [↓i_in, ↓i_isCouple, ↓i_isBridge, ↓i_isTheme, ↓i_isBarge, i_lt, i_le, i_eq, i_clamp, i_upd, i_m1, Int32.toInt_toInt64, Int32.toInt_add, Int32.toInt_sub, Int32.toInt_mul, bm32, Int32.reduceToInt, Int64.reduceToInt, Nat.reduceLT, Nat.reduceEqDiff, reduceIte] at c_5
      refine ⟨vp_in_iff.mpr (by first | omega | (simp (disch := omega) only [↓i_in, ↓i_isCouple, ↓i_isBridge, ↓i_isTheme, ↓i_isBarge, i_lt, i_le, i_eq, i_clamp, i_upd, i_m1, Int32.toInt_toInt64, Int32.toInt_add, Int32.toInt_sub, Int32.toInt_mul, bm32, Int32.reduceToInt, Int64.reduceToInt, Nat.reduceLT, Nat.reduceEqDiff, reduceIte] <;> omega)), ?_⟩
      refine ⟨fun c_6 => ?_, fun c_6 => ?_⟩
      · skip
        try simp (disch := omega) only [↓i_in, ↓i_isCouple, ↓i_isBridge, ↓i_isTheme, ↓i_isBarge, i_lt, i_le, i_eq, i_clamp, i_upd, i_m1, Int32.toInt_toInt64, Int32.toInt_add, Int32.toInt_sub, Int32.toInt_mul, bm32, Int32.reduceToInt, Int64.reduceToInt, Nat.reduceLT, Nat.reduceEqDiff, reduceIte] at c_6
        exact ih (w_1l4 + 1) w_1l4 (⟨(by first | omega | (simp (disch := omega) only [↓i_in, ↓i_isCouple, ↓i_isBridge, ↓i_isTheme, ↓i_isBarge, i_lt, i_le, i_eq, i_clamp, i_upd, i_m1, Int32.toInt_toInt64, Int32.toInt_add, Int32.toInt_sub, Int32.toInt_mul, bm32, Int32.reduceToInt, Int64.reduceToInt, Nat.reduceLT, Nat.reduceEqDiff, reduceIte] <;> omega)), (by first | omega | (simp (disch := omega) only [↓i_in, ↓i_isCouple, ↓i_isBridge, ↓i_isTheme, ↓i_isBarge, i_lt, i_le, i_eq, i_clamp, i_upd, i_m1, Int32.toInt_toInt64, Int32.toInt_add, Int32.toInt_sub, Int32.toInt_mul, bm32, Int32.reduceToInt, Int64.reduceToInt, Nat.reduceLT, Nat.reduceEqDiff, reduceIte] <;> omega)), (by first | omega | (simp (disch := omega) only [↓i_in, ↓i_isCouple, ↓i_isBridge, ↓i_isTheme, ↓i_isBarge, i_lt, i_le, i_eq, i_clamp, i_upd, i_m1, Int32.toInt_toInt64, Int32.toInt_add, Int32.toInt_sub, Int32.toInt_mul, bm32, Int32.reduceToInt, Int64.reduceToInt, Nat.reduceLT, Nat.reduceEqDiff, reduceIte] <;> omega)), (by first | omega | (simp (disch := omega) only [↓i_in, ↓i_isCouple, ↓i_isBridge, ↓i_isTheme, ↓i_isBarge, i_lt, i_le, i_eq, i_clamp, i_upd, i_m1, Int32.toInt_toInt64, Int32.toInt_add, Int32.toInt_sub, Int32.toInt_mul, bm32, Int32.reduceToInt, Int64.reduceToInt, Nat.reduceLT, Nat.reduceEqDiff, reduceIte] <;> omega))⟩)
      · skip
        try simp (disch := omega) only [↓i_in, ↓i_isCouple, ↓i_isBridge, ↓i_isTheme, ↓i_isBarge, i_lt, i_le, i_eq, i_clamp, i_upd, i_m1, Int32.toInt_toInt64, Int32.toInt_add, Int32.toInt_sub, Int32.toInt_mul, bm32, Int32.reduceToInt, Int64.reduceToInt, Nat.reduceLT, Nat.reduceEqDiff, reduceIte] at c_6
        exact ih (w_1l4 + 1) w_1l3 (⟨(by first | omega | (simp (disch := omega) only [↓i_in, ↓i_isCouple, ↓i_isBridge, ↓i_isTheme, ↓i_isBarge, i_lt, i_le, i_eq, i_clamp, i_upd, i_m1, Int32.toInt_toInt64, Int32.toInt_add, Int32.toInt_sub, Int32.toInt_mul, bm32, Int32.reduceToInt, Int64.reduceToInt, Nat.reduceLT, Nat.reduceEqDiff, reduceIte] <;> omega)), (by first | omega | (simp (disch := omega) only [↓i_in, ↓i_isCouple, ↓i_isBridge, ↓i_isTheme, ↓i_isBarge, i_lt, i_le, i_eq, i_clamp, i_upd, i_m1, Int32.toInt_toInt64, Int32.toInt_add, Int32.toInt_sub, Int32.toInt_mul, bm32, Int32.reduceToInt, Int64.reduceToInt, Nat.reduceLT, Nat.reduceEqDiff, reduceIte] <;> omega)), (by first | omega | (simp (disch := omega) only [↓i_in, ↓i_isCouple, ↓i_isBridge, ↓i_isTheme, ↓i_isBarge, i_lt, i_le, i_eq, i_clamp, i_upd, i_m1, Int32.toInt_toInt64, Int32.toInt_add, Int32.toInt_sub, Int32.toInt_mul, bm32, Int32.reduceToInt, Int64.reduceToInt, Nat.reduceLT, Nat.reduceEqDiff, reduceIte] <;> omega)), (by first | omega | (simp (disch := omega) only [↓i_in, ↓i_isCouple, ↓i_isBridge, ↓i_isTheme, ↓i_isBarge, i_lt, i_le, i_eq, i_clamp, i_upd, i_m1, Int32.toInt_toInt64, Int32.toInt_add, Int32.toInt_sub, Int32.toInt_mul, bm32, Int32.reduceToInt, Int64.reduceToInt, Nat.reduceLT, Nat.reduceEqDiff, reduceIte] <;> omega))⟩)
set_option maxHeartbeats 4000000 in
theorem pl_whoIsAt_5 {G : Nat → Int32} {f0 : Nat → Int32} {h_ : Int32} {b_ : Int32} (h_0 : GI G) (h_1 : 0 ≤ h_.toInt) (h_2 : h_.toInt ≤ 1260) : ∀ (n : Nat) w_1l4 w_1l3, ((0 ≤ w_1l4.toInt) ∧ (w_1l4.toInt ≤ (G 5).toInt) ∧ (-1 ≤ w_1l3.toInt) ∧ (w_1l3.toInt < (G 5).toInt)) → ∀ r0 r1, f_m_whoIsAt_5 G f0 h_ b_ n w_1l4 w_1l3 = (r0, r1) → (0 ≤ r0.toInt) ∧ (r0.toInt ≤ (G 5).toInt) ∧ (-1 ≤ r1.toInt) ∧ (r1.toInt < (G 5).toInt) := by
  have h_0_g := h_0
  obtain ⟨⟨h_0_2a, h_0_2b⟩, ⟨h_0_3a, h_0_3b⟩, ⟨h_0_4a, h_0_4b⟩, ⟨h_0_5a, h_0_5b⟩, ⟨h_0_6a, h_0_6b⟩, ⟨h_0_14a, h_0_14b⟩, ⟨h_0_42a, h_0_42b⟩⟩ := h_0_g
  intro n
  induction n with
  | zero =>
    intro w_1l4 w_1l3 hI r0 r1 e
    replace e : (w_1l4, w_1l3) = (r0, r1) := e
    cases e
    exact hI
  | succ n ih =>
    intro w_1l4 w_1l3 hI r0 r1 e
    rw [f_m_whoIsAt_5_s] at e
    have hI0 := hI
    obtain ⟨i_1, i_2, i_3, i_4⟩ := hI0
    by_cases c_5 : (G 5) ≤ w_1l4
    · rw [if_pos c_5] at e
      try simp (disch := omega) only [↓i_in, ↓i_isCouple, ↓i_isBridge, ↓i_isTheme, ↓i_isBarge, i_lt, i_le, i_eq, i_clamp, i_upd, i_m1, Int32.toInt_toInt64, Int32.toInt_add, Int32.toInt_sub, Int32.toInt_mul, bm32, Int32.reduceToInt, Int64.reduceToInt, Nat.reduceLT, Nat.reduceEqDiff, reduceIte] at c_5
      cases e
      exact hI
    · rw [if_neg c_5] at e
      try simp (disch := omega) only [↓i_in, ↓i_isCouple, ↓i_isBridge, ↓i_isTheme, ↓i_isBarge, i_lt, i_le, i_eq, i_clamp, i_upd, i_m1, Int32.toInt_toInt64, Int32.toInt_add, Int32.toInt_sub, Int32.toInt_mul, bm32, Int32.reduceToInt, Int64.reduceToInt, Nat.reduceLT, Nat.reduceEqDiff, reduceIte] at c_5
      by_cases c_6 : (f0 (((h_ + 6) + w_1l4) : Int32).toNatClampNeg) = b_
      · rw [if_pos c_6] at e
        try simp (disch := omega) only [↓i_in, ↓i_isCouple, ↓i_isBridge, ↓i_isTheme, ↓i_isBarge, i_lt, i_le, i_eq, i_clamp, i_upd, i_m1, Int32.toInt_toInt64, Int32.toInt_add, Int32.toInt_sub, Int32.toInt_mul, bm32, Int32.reduceToInt, Int64.reduceToInt, Nat.reduceLT, Nat.reduceEqDiff, reduceIte] at c_6
        exact ih (w_1l4 + 1) w_1l4 (⟨(by first | omega | (simp (disch := omega) only [↓i_in, ↓i_isCouple, ↓i_isBridge, ↓i_isTheme, ↓i_isBarge, i_lt, i_le, i_eq, i_clamp, i_upd, i_m1, Int32.toInt_toInt64, Int32.toInt_add, Int32.toInt_sub, Int32.toInt_mul, bm32, Int32.reduceToInt, Int64.reduceToInt, Nat.reduceLT, Nat.reduceEqDiff, reduceIte] <;> omega)), (by first | omega | (simp (disch := omega) only [↓i_in, ↓i_isCouple, ↓i_isBridge, ↓i_isTheme, ↓i_isBarge, i_lt, i_le, i_eq, i_clamp, i_upd, i_m1, Int32.toInt_toInt64, Int32.toInt_add, Int32.toInt_sub, Int32.toInt_mul, bm32, Int32.reduceToInt, Int64.reduceToInt, Nat.reduceLT, Nat.reduceEqDiff, reduceIte] <;> omega)), (by first | omega | (simp (disch := omega) only [↓i_in, ↓i_isCouple, ↓i_isBridge, ↓i_isTheme, ↓i_isBarge, i_lt, i_le, i_eq, i_clamp, i_upd, i_m1, Int32.toInt_toInt64, Int32.toInt_add, Int32.toInt_sub, Int32.toInt_mul, bm32, Int32.reduceToInt, Int64.reduceToInt, Nat.reduceLT, Nat.reduceEqDiff, reduceIte] <;> omega)), (by first | omega | (simp (disch := omega) only [↓i_in, ↓i_isCouple, ↓i_isBridge, ↓i_isTheme, ↓i_isBarge, i_lt, i_le, i_eq, i_clamp, i_upd, i_m1, Int32.toInt_toInt64, Int32.toInt_add, Int32.toInt_sub, Int32.toInt_mul, bm32, Int32.reduceToInt, Int64.reduceToInt, Nat.reduceLT, Nat.reduceEqDiff, reduceIte] <;> omega))⟩) _ _ e
      · rw [if_neg c_6] at e
        try simp (disch := omega) only [↓i_in, ↓i_isCouple, ↓i_isBridge, ↓i_isTheme, ↓i_isBarge, i_lt, i_le, i_eq, i_clamp, i_upd, i_m1, Int32.toInt_toInt64, Int32.toInt_add, Int32.toInt_sub, Int32.toInt_mul, bm32, Int32.reduceToInt, Int64.reduceToInt, Nat.reduceLT, Nat.reduceEqDiff, reduceIte] at c_6
        exact ih (w_1l4 + 1) w_1l3 (⟨(by first | omega | (simp (disch := omega) only [↓i_in, ↓i_isCouple, ↓i_isBridge, ↓i_isTheme, ↓i_isBarge, i_lt, i_le, i_eq, i_clamp, i_upd, i_m1, Int32.toInt_toInt64, Int32.toInt_add, Int32.toInt_sub, Int32.toInt_mul, bm32, Int32.reduceToInt, Int64.reduceToInt, Nat.reduceLT, Nat.reduceEqDiff, reduceIte] <;> omega)), (by first | omega | (simp (disch := omega) only [↓i_in, ↓i_isCouple, ↓i_isBridge, ↓i_isTheme, ↓i_isBarge, i_lt, i_le, i_eq, i_clamp, i_upd, i_m1, Int32.toInt_toInt64, Int32.toInt_add, Int32.toInt_sub, Int32.toInt_mul, bm32, Int32.reduceToInt, Int64.reduceToInt, Nat.reduceLT, Nat.reduceEqDiff, reduceIte] <;> omega)), (by first | omega | (simp (disch := omega) only [↓i_in, ↓i_isCouple, ↓i_isBridge, ↓i_isTheme, ↓i_isBarge, i_lt, i_le, i_eq, i_clamp, i_upd, i_m1, Int32.toInt_toInt64, Int32.toInt_add, Int32.toInt_sub, Int32.toInt_mul, bm32, Int32.reduceToInt, Int64.reduceToInt, Nat.reduceLT, Nat.reduceEqDiff, reduceIte] <;> omega)), (by first | omega | (simp (disch := omega) only [↓i_in, ↓i_isCouple, ↓i_isBridge, ↓i_isTheme, ↓i_isBarge, i_lt, i_le, i_eq, i_clamp, i_upd, i_m1, Int32.toInt_toInt64, Int32.toInt_add, Int32.toInt_sub, Int32.toInt_mul, bm32, Int32.reduceToInt, Int64.reduceToInt, Nat.reduceLT, Nat.reduceEqDiff, reduceIte] <;> omega))⟩) _ _ e
set_option maxHeartbeats 4000000 in
theorem s_whoIsAt {G : Nat → Int32} {f0 : Nat → Int32} {h_ : Int32} {b_ : Int32} (h_0 : GI G) (h_1 : 0 ≤ h_.toInt) (h_2 : h_.toInt ≤ 1260) : S_m_whoIsAt G f0 h_ b_ := by
  unfold S_m_whoIsAt
  have h_0_g := h_0
  obtain ⟨⟨h_0_2a, h_0_2b⟩, ⟨h_0_3a, h_0_3b⟩, ⟨h_0_4a, h_0_4b⟩, ⟨h_0_5a, h_0_5b⟩, ⟨h_0_6a, h_0_6b⟩, ⟨h_0_14a, h_0_14b⟩, ⟨h_0_42a, h_0_42b⟩⟩ := h_0_g
  refine sl_whoIsAt_5 h_0 (by first | omega | (simp (disch := omega) only [↓i_in, ↓i_isCouple, ↓i_isBridge, ↓i_isTheme, ↓i_isBarge, i_lt, i_le, i_eq, i_clamp, i_upd, i_m1, Int32.toInt_toInt64, Int32.toInt_add, Int32.toInt_sub, Int32.toInt_mul, bm32, Int32.reduceToInt, Int64.reduceToInt, Nat.reduceLT, Nat.reduceEqDiff, reduceIte] <;> omega)) (by first | omega | (simp (disch := omega) only [↓i_in, ↓i_isCouple, ↓i_isBridge, ↓i_isTheme, ↓i_isBarge, i_lt, i_le, i_eq, i_clamp, i_upd, i_m1, Int32.toInt_toInt64, Int32.toInt_add, Int32.toInt_sub, Int32.toInt_mul, bm32, Int32.reduceToInt, Int64.reduceToInt, Nat.reduceLT, Nat.reduceEqDiff, reduceIte] <;> omega)) ?_ ((((G 5) : Int32).toInt - (0 : Int32).toInt).toNat + 1) 0 (-1) (⟨(by first | omega | (simp (disch := omega) only [↓i_in, ↓i_isCouple, ↓i_isBridge, ↓i_isTheme, ↓i_isBarge, i_lt, i_le, i_eq, i_clamp, i_upd, i_m1, Int32.toInt_toInt64, Int32.toInt_add, Int32.toInt_sub, Int32.toInt_mul, bm32, Int32.reduceToInt, Int64.reduceToInt, Nat.reduceLT, Nat.reduceEqDiff, reduceIte] <;> omega)), (by first | omega | (simp (disch := omega) only [↓i_in, ↓i_isCouple, ↓i_isBridge, ↓i_isTheme, ↓i_isBarge, i_lt, i_le, i_eq, i_clamp, i_upd, i_m1, Int32.toInt_toInt64, Int32.toInt_add, Int32.toInt_sub, Int32.toInt_mul, bm32, Int32.reduceToInt, Int64.reduceToInt, Nat.reduceLT, Nat.reduceEqDiff, reduceIte] <;> omega)), (by first | omega | (simp (disch := omega) only [↓i_in, ↓i_isCouple, ↓i_isBridge, ↓i_isTheme, ↓i_isBarge, i_lt, i_le, i_eq, i_clamp, i_upd, i_m1, Int32.toInt_toInt64, Int32.toInt_add, Int32.toInt_sub, Int32.toInt_mul, bm32, Int32.reduceToInt, Int64.reduceToInt, Nat.reduceLT, Nat.reduceEqDiff, reduceIte] <;> omega)), (by first | omega | (simp (disch := omega) only [↓i_in, ↓i_isCouple, ↓i_isBridge, ↓i_isTheme, ↓i_isBarge, i_lt, i_le, i_eq, i_clamp, i_upd, i_m1, Int32.toInt_toInt64, Int32.toInt_add, Int32.toInt_sub, Int32.toInt_mul, bm32, Int32.reduceToInt, Int64.reduceToInt, Nat.reduceLT, Nat.reduceEqDiff, reduceIte] <;> omega))⟩)
  intro w_1l4 w_1l3 i_1
  obtain ⟨i_2, i_3, i_4, i_5⟩ := i_1
  exact trivial
theorem p_whoIsAt {G f0 : Nat → Int32} {h_ b_ : Int32} (h_0 : GI G) (h_1 : 0 ≤ h_.toInt) (h_2 : h_.toInt ≤ 1260) : -1 ≤ (f_m_whoIsAt G f0 h_ b_).toInt ∧ (f_m_whoIsAt G f0 h_ b_).toInt < (G 5).toInt := by
  unfold f_m_whoIsAt
  generalize hx : f_m_whoIsAt_5 _ _ _ _ _ _ _ = x
  obtain ⟨a, b⟩ := x
  have h0 := h_0
  obtain ⟨_, _, _, ⟨d1, d2⟩, _⟩ := h0
  have h1 := pl_whoIsAt_5 h_0 h_1 h_2 ((((G 5) : Int32).toInt - (0 : Int32).toInt).toNat + 1) 0 (-1) ⟨by decide, (by simp only [Int32.reduceToInt]; exact d1), by decide, by rw [i_m1]; omega⟩ _ _ hx
  exact ⟨h1.2.2.1, h1.2.2.2⟩
theorem p_stampOf {G f10 : Nat → Int32} {c_ t_ from_ : Int32} : (f_m_stampOf G f10 c_ t_ from_).toInt ≤ from_.toInt := by
  unfold f_m_stampOf
  split
  · split
    · exact Int.le_refl _
    · rename_i c
      rw [i_le] at c
      omega
  · split
    · exact Int.le_refl _
    · rename_i c
      rw [i_le] at c
      omega
set_option maxHeartbeats 4000000 in
theorem s_stampOf {G : Nat → Int32} {f10 : Nat → Int32} {c_ : Int32} {t_ : Int32} {from_ : Int32} (h_0 : 0 ≤ c_.toInt) (h_1 : c_.toInt < 6) (h_2 : 0 ≤ t_.toInt) (h_3 : t_.toInt < 5) : S_m_stampOf G f10 c_ t_ from_ := by
  unfold S_m_stampOf
  refine ⟨vp_in_iff.mpr (by first | omega | (simp (disch := omega) only [↓i_in, ↓i_isCouple, ↓i_isBridge, ↓i_isTheme, ↓i_isBarge, i_lt, i_le, i_eq, i_clamp, i_upd, i_m1, Int32.toInt_toInt64, Int32.toInt_add, Int32.toInt_sub, Int32.toInt_mul, bm32, Int32.reduceToInt, Int64.reduceToInt, Nat.reduceLT, Nat.reduceEqDiff, reduceIte] <;> omega)), ?_⟩
  refine ⟨fun c_1 => ?_, fun c_1 => ?_⟩
  · skip
    try simp (disch := omega) only [↓i_in, ↓i_isCouple, ↓i_isBridge, ↓i_isTheme, ↓i_isBarge, i_lt, i_le, i_eq, i_clamp, i_upd, i_m1, Int32.toInt_toInt64, Int32.toInt_add, Int32.toInt_sub, Int32.toInt_mul, bm32, Int32.reduceToInt, Int64.reduceToInt, Nat.reduceLT, Nat.reduceEqDiff, reduceIte] at c_1
    refine ⟨fun c_2 => ?_, fun c_2 => ?_⟩
    · exact trivial
    · exact trivial
  · skip
    try simp (disch := omega) only [↓i_in, ↓i_isCouple, ↓i_isBridge, ↓i_isTheme, ↓i_isBarge, i_lt, i_le, i_eq, i_clamp, i_upd, i_m1, Int32.toInt_toInt64, Int32.toInt_add, Int32.toInt_sub, Int32.toInt_mul, bm32, Int32.reduceToInt, Int64.reduceToInt, Nat.reduceLT, Nat.reduceEqDiff, reduceIte] at c_1
    refine ⟨fun c_3 => ?_, fun c_3 => ?_⟩
    · exact trivial
    · exact trivial
set_option maxHeartbeats 4000000 in
theorem sl_quarrels_25 {f10 : Nat → Int32} {c_ : Int32} {t_ : Int32} {need_ : Int32} {K : Int32 → Int32 → (Nat → Int32) → Prop} (h_0 : 0 ≤ c_.toInt) (h_1 : c_.toInt < 6) (h_2 : 0 ≤ t_.toInt) (h_3 : t_.toInt < 5) (hK : ∀ w_4l6 w_4l5 w_4m0, (w_4l6.toInt ≤ (w_4m0 33).toInt) → K w_4l6 w_4l5 w_4m0) : ∀ (n : Nat) w_4l6 w_4l5 w_4m0, (w_4l6.toInt ≤ (w_4m0 33).toInt) → ((w_4m0 33).toInt.toNat + 1) < n → S_m_quarrels_25 f10 c_ t_ need_ K n w_4l6 w_4l5 w_4m0 := by
  intro n
  induction n with
  | zero => intro w_4l6 w_4l5 w_4m0 hI hm; exact absurd hm (Nat.not_lt_zero _)
  | succ n ih =>
    intro w_4l6 w_4l5 w_4m0 hI hm
    rw [S_m_quarrels_25_s]
    have hI0 := hI
    have i_1 := hI0
    have rg := (w_4m0 33).toInt_lt
    refine ⟨fun c_2 => ?_, fun c_2 => ?_⟩
    · skip
      try simp (disch := omega) only [↓i_in, ↓i_isCouple, ↓i_isBridge, ↓i_isTheme, ↓i_isBarge, i_lt, i_le, i_eq, i_clamp, i_upd, i_m1, Int32.toInt_toInt64, Int32.toInt_add, Int32.toInt_sub, Int32.toInt_mul, bm32, Int32.reduceToInt, Int64.reduceToInt, Nat.reduceLT, Nat.reduceEqDiff, reduceIte] at c_2
      exact hK w_4l6 w_4l5 w_4m0 hI
    · skip
      try simp (disch := omega) only [↓i_in, ↓i_isCouple, ↓i_isBridge, ↓i_isTheme, ↓i_isBarge, i_lt, i_le, i_eq, i_clamp, i_upd, i_m1, Int32.toInt_toInt64, Int32.toInt_add, Int32.toInt_sub, Int32.toInt_mul, bm32, Int32.reduceToInt, Int64.reduceToInt, Nat.reduceLT, Nat.reduceEqDiff, reduceIte] at c_2
      refine ⟨fun c_3 => ?_, fun c_3 => ?_⟩
      · skip
        try simp (disch := omega) only [↓i_in, ↓i_isCouple, ↓i_isBridge, ↓i_isTheme, ↓i_isBarge, i_lt, i_le, i_eq, i_clamp, i_upd, i_m1, Int32.toInt_toInt64, Int32.toInt_add, Int32.toInt_sub, Int32.toInt_mul, bm32, Int32.reduceToInt, Int64.reduceToInt, Nat.reduceLT, Nat.reduceEqDiff, reduceIte] at c_3
        exact hK w_4l6 w_4l5 w_4m0 hI
      · skip
        try simp (disch := omega) only [↓i_in, ↓i_isCouple, ↓i_isBridge, ↓i_isTheme, ↓i_isBarge, i_lt, i_le, i_eq, i_clamp, i_upd, i_m1, Int32.toInt_toInt64, Int32.toInt_add, Int32.toInt_sub, Int32.toInt_mul, bm32, Int32.reduceToInt, Int64.reduceToInt, Nat.reduceLT, Nat.reduceEqDiff, reduceIte] at c_3
        refine ⟨(s_stampOf (by first | omega | (simp (disch := omega) only [↓i_in, ↓i_isCouple, ↓i_isBridge, ↓i_isTheme, ↓i_isBarge, i_lt, i_le, i_eq, i_clamp, i_upd, i_m1, Int32.toInt_toInt64, Int32.toInt_add, Int32.toInt_sub, Int32.toInt_mul, bm32, Int32.reduceToInt, Int64.reduceToInt, Nat.reduceLT, Nat.reduceEqDiff, reduceIte] <;> omega)) (by first | omega | (simp (disch := omega) only [↓i_in, ↓i_isCouple, ↓i_isBridge, ↓i_isTheme, ↓i_isBarge, i_lt, i_le, i_eq, i_clamp, i_upd, i_m1, Int32.toInt_toInt64, Int32.toInt_add, Int32.toInt_sub, Int32.toInt_mul, bm32, Int32.reduceToInt, Int64.reduceToInt, Nat.reduceLT, Nat.reduceEqDiff, reduceIte] <;> omega)) (by first | omega | (simp (disch := omega) only [↓i_in, ↓i_isCouple, ↓i_isBridge, ↓i_isTheme, ↓i_isBarge, i_lt, i_le, i_eq, i_clamp, i_upd, i_m1, Int32.toInt_toInt64, Int32.toInt_add, Int32.toInt_sub, Int32.toInt_mul, bm32, Int32.reduceToInt, Int64.reduceToInt, Nat.reduceLT, Nat.reduceEqDiff, reduceIte] <;> omega)) (by first | omega | (simp (disch := omega) only [↓i_in, ↓i_isCouple, ↓i_isBridge, ↓i_isTheme, ↓i_isBarge, i_lt, i_le, i_eq, i_clamp, i_upd, i_m1, Int32.toInt_toInt64, Int32.toInt_add, Int32.toInt_sub, Int32.toInt_mul, bm32, Int32.reduceToInt, Int64.reduceToInt, Nat.reduceLT, Nat.reduceEqDiff, reduceIte] <;> omega))), ?_⟩
        have v_4 := p_stampOf (G := (upd (upd w_4m0 32 ((w_4m0 32) + 1)) 33 ((w_4m0 33) - w_4l6))) (f10 := f10) (c_ := c_) (t_ := t_) (from_ := ((w_4m0 33) - w_4l6))
        try simp (disch := omega) only [↓i_in, ↓i_isCouple, ↓i_isBridge, ↓i_isTheme, ↓i_isBarge, i_lt, i_le, i_eq, i_clamp, i_upd, i_m1, Int32.toInt_toInt64, Int32.toInt_add, Int32.toInt_sub, Int32.toInt_mul, bm32, Int32.reduceToInt, Int64.reduceToInt, Nat.reduceLT, Nat.reduceEqDiff, reduceIte] at v_4
        exact ih (f_m_stampOf (upd (upd w_4m0 32 ((w_4m0 32) + 1)) 33 ((w_4m0 33) - w_4l6)) f10 c_ t_ ((w_4m0 33) - w_4l6)) (w_4l5 + w_4l6) (upd (upd w_4m0 32 ((w_4m0 32) + 1)) 33 ((w_4m0 33) - w_4l6)) (by first | omega | (simp (disch := omega) only [↓i_in, ↓i_isCouple, ↓i_isBridge, ↓i_isTheme, ↓i_isBarge, i_lt, i_le, i_eq, i_clamp, i_upd, i_m1, Int32.toInt_toInt64, Int32.toInt_add, Int32.toInt_sub, Int32.toInt_mul, bm32, Int32.reduceToInt, Int64.reduceToInt, Nat.reduceLT, Nat.reduceEqDiff, reduceIte] <;> omega)) (by first | omega | (simp (disch := omega) only [↓i_in, ↓i_isCouple, ↓i_isBridge, ↓i_isTheme, ↓i_isBarge, i_lt, i_le, i_eq, i_clamp, i_upd, i_m1, Int32.toInt_toInt64, Int32.toInt_add, Int32.toInt_sub, Int32.toInt_mul, bm32, Int32.reduceToInt, Int64.reduceToInt, Nat.reduceLT, Nat.reduceEqDiff, reduceIte] <;> omega))
set_option maxHeartbeats 4000000 in
theorem s_quarrels {G : Nat → Int32} {f10 : Nat → Int32} {c_ : Int32} {t_ : Int32} {from_ : Int32} {need_ : Int32} (h_0 : 0 ≤ c_.toInt) (h_1 : c_.toInt < 6) (h_2 : 0 ≤ t_.toInt) (h_3 : t_.toInt < 5) : S_m_quarrels G f10 c_ t_ from_ need_ := by
  unfold S_m_quarrels
  refine ⟨(s_stampOf (by first | omega | (simp (disch := omega) only [↓i_in, ↓i_isCouple, ↓i_isBridge, ↓i_isTheme, ↓i_isBarge, i_lt, i_le, i_eq, i_clamp, i_upd, i_m1, Int32.toInt_toInt64, Int32.toInt_add, Int32.toInt_sub, Int32.toInt_mul, bm32, Int32.reduceToInt, Int64.reduceToInt, Nat.reduceLT, Nat.reduceEqDiff, reduceIte] <;> omega)) (by first | omega | (simp (disch := omega) only [↓i_in, ↓i_isCouple, ↓i_isBridge, ↓i_isTheme, ↓i_isBarge, i_lt, i_le, i_eq, i_clamp, i_upd, i_m1, Int32.toInt_toInt64, Int32.toInt_add, Int32.toInt_sub, Int32.toInt_mul, bm32, Int32.reduceToInt, Int64.reduceToInt, Nat.reduceLT, Nat.reduceEqDiff, reduceIte] <;> omega)) (by first | omega | (simp (disch := omega) only [↓i_in, ↓i_isCouple, ↓i_isBridge, ↓i_isTheme, ↓i_isBarge, i_lt, i_le, i_eq, i_clamp, i_upd, i_m1, Int32.toInt_toInt64, Int32.toInt_add, Int32.toInt_sub, Int32.toInt_mul, bm32, Int32.reduceToInt, Int64.reduceToInt, Nat.reduceLT, Nat.reduceEqDiff, reduceIte] <;> omega)) (by first | omega | (simp (disch := omega) only [↓i_in, ↓i_isCouple, ↓i_isBridge, ↓i_isTheme, ↓i_isBarge, i_lt, i_le, i_eq, i_clamp, i_upd, i_m1, Int32.toInt_toInt64, Int32.toInt_add, Int32.toInt_sub, Int32.toInt_mul, bm32, Int32.reduceToInt, Int64.reduceToInt, Nat.reduceLT, Nat.reduceEqDiff, reduceIte] <;> omega))), ?_⟩
  have v_1 := p_stampOf (G := (upd (upd G 32 0) 33 from_)) (f10 := f10) (c_ := c_) (t_ := t_) (from_ := from_)
  try simp (disch := omega) only [↓i_in, ↓i_isCouple, ↓i_isBridge, ↓i_isTheme, ↓i_isBarge, i_lt, i_le, i_eq, i_clamp, i_upd, i_m1, Int32.toInt_toInt64, Int32.toInt_add, Int32.toInt_sub, Int32.toInt_mul, bm32, Int32.reduceToInt, Int64.reduceToInt, Nat.reduceLT, Nat.reduceEqDiff, reduceIte] at v_1
  refine sl_quarrels_25 (by first | omega | (simp (disch := omega) only [↓i_in, ↓i_isCouple, ↓i_isBridge, ↓i_isTheme, ↓i_isBarge, i_lt, i_le, i_eq, i_clamp, i_upd, i_m1, Int32.toInt_toInt64, Int32.toInt_add, Int32.toInt_sub, Int32.toInt_mul, bm32, Int32.reduceToInt, Int64.reduceToInt, Nat.reduceLT, Nat.reduceEqDiff, reduceIte] <;> omega)) (by first | omega | (simp (disch := omega) only [↓i_in, ↓i_isCouple, ↓i_isBridge, ↓i_isTheme, ↓i_isBarge, i_lt, i_le, i_eq, i_clamp, i_upd, i_m1, Int32.toInt_toInt64, Int32.toInt_add, Int32.toInt_sub, Int32.toInt_mul, bm32, Int32.reduceToInt, Int64.reduceToInt, Nat.reduceLT, Nat.reduceEqDiff, reduceIte] <;> omega)) (by first | omega | (simp (disch := omega) only [↓i_in, ↓i_isCouple, ↓i_isBridge, ↓i_isTheme, ↓i_isBarge, i_lt, i_le, i_eq, i_clamp, i_upd, i_m1, Int32.toInt_toInt64, Int32.toInt_add, Int32.toInt_sub, Int32.toInt_mul, bm32, Int32.reduceToInt, Int64.reduceToInt, Nat.reduceLT, Nat.reduceEqDiff, reduceIte] <;> omega)) (by first | omega | (simp (disch := omega) only [↓i_in, ↓i_isCouple, ↓i_isBridge, ↓i_isTheme, ↓i_isBarge, i_lt, i_le, i_eq, i_clamp, i_upd, i_m1, Int32.toInt_toInt64, Int32.toInt_add, Int32.toInt_sub, Int32.toInt_mul, bm32, Int32.reduceToInt, Int64.reduceToInt, Nat.reduceLT, Nat.reduceEqDiff, reduceIte] <;> omega)) ?_ ((from_ : Int32).toInt.toNat + 2) (f_m_stampOf (upd (upd G 32 0) 33 from_) f10 c_ t_ from_) 0 (upd (upd G 32 0) 33 from_) (by first | omega | (simp (disch := omega) only [↓i_in, ↓i_isCouple, ↓i_isBridge, ↓i_isTheme, ↓i_isBarge, i_lt, i_le, i_eq, i_clamp, i_upd, i_m1, Int32.toInt_toInt64, Int32.toInt_add, Int32.toInt_sub, Int32.toInt_mul, bm32, Int32.reduceToInt, Int64.reduceToInt, Nat.reduceLT, Nat.reduceEqDiff, reduceIte] <;> omega)) (by first | omega | (simp (disch := omega) only [↓i_in, ↓i_isCouple, ↓i_isBridge, ↓i_isTheme, ↓i_isBarge, i_lt, i_le, i_eq, i_clamp, i_upd, i_m1, Int32.toInt_toInt64, Int32.toInt_add, Int32.toInt_sub, Int32.toInt_mul, bm32, Int32.reduceToInt, Int64.reduceToInt, Nat.reduceLT, Nat.reduceEqDiff, reduceIte] <;> omega))
  intro w_4l6 w_4l5 w_4m0 i_2
  have i_3 := i_2
  refine ⟨fun c_4 => ?_, fun c_4 => ?_⟩
  · exact trivial
  · exact trivial
theorem pl_quarrels_25 {G f10 : Nat → Int32} {c_ t_ need_ : Int32} : ∀ (n : Nat) (a b : Int32) (m : Nat → Int32), QG G m → QG G (f_m_quarrels_25 f10 c_ t_ need_ n a b m).2.2 := by
  intro n
  induction n with
  | zero => intro a b m h; exact h
  | succ n ih =>
    intro a b m h
    rw [f_m_quarrels_25_s]
    by_cases c : a ≤ 0
    · rw [if_pos c]
      exact h
    · rw [if_neg c]
      by_cases d : need_ ≤ b
      · rw [if_pos d]
        exact h
      · rw [if_neg d]
        exact ih _ _ _ (QG_upd (QG_upd h (by decide) (by decide)) (by decide) (by decide))
theorem p_quarrels {G f10 : Nat → Int32} {c_ t_ from_ need_ : Int32} : QG G (f_m_quarrels G f10 c_ t_ from_ need_) := by
  unfold f_m_quarrels
  have q := pl_quarrels_25 (G := G) (f10 := f10) (c_ := c_) (t_ := t_) (need_ := need_) ((from_ : Int32).toInt.toNat + 2) (f_m_stampOf (upd (upd G 32 0) 33 from_) f10 c_ t_ from_) 0 (upd (upd G 32 0) 33 from_) (QG_upd (QG_upd (QG.refl _) (by decide) (by decide)) (by decide) (by decide))
  generalize f_m_quarrels_25 _ _ _ _ _ _ _ _ = x at q
  obtain ⟨a, b, c⟩ := x
  show QG G (if b < need_ then (upd c 34 0) else (upd c 34 1))
  split <;> exact QG_upd q (by decide) (by decide)
set_option maxHeartbeats 4000000 in
theorem s_told {G : Nat → Int32} {f0 : Nat → Int32} {w_ : Int32} (h_0 : GI G) : S_m_told G f0 w_ := by
  unfold S_m_told
  have h_0_g := h_0
  obtain ⟨⟨h_0_2a, h_0_2b⟩, ⟨h_0_3a, h_0_3b⟩, ⟨h_0_4a, h_0_4b⟩, ⟨h_0_5a, h_0_5b⟩, ⟨h_0_6a, h_0_6b⟩, ⟨h_0_14a, h_0_14b⟩, ⟨h_0_42a, h_0_42b⟩⟩ := h_0_g
  refine ⟨fun c_1 => ?_, fun c_1 => ?_⟩
  · exact trivial
  · skip
    try simp (disch := omega) only [↓i_in, ↓i_isCouple, ↓i_isBridge, ↓i_isTheme, ↓i_isBarge, i_lt, i_le, i_eq, i_clamp, i_upd, i_m1, Int32.toInt_toInt64, Int32.toInt_add, Int32.toInt_sub, Int32.toInt_mul, bm32, Int32.reduceToInt, Int64.reduceToInt, Nat.reduceLT, Nat.reduceEqDiff, reduceIte] at c_1
    refine ⟨fun c_2 => ?_, fun c_2 => ?_⟩
    · exact trivial
    · skip
      try simp (disch := omega) only [↓i_in, ↓i_isCouple, ↓i_isBridge, ↓i_isTheme, ↓i_isBarge, i_lt, i_le, i_eq, i_clamp, i_upd, i_m1, Int32.toInt_toInt64, Int32.toInt_add, Int32.toInt_sub, Int32.toInt_mul, bm32, Int32.reduceToInt, Int64.reduceToInt, Nat.reduceLT, Nat.reduceEqDiff, reduceIte] at c_2
      refine ⟨fun c_3 => ?_, fun c_3 => ?_⟩
      · exact trivial
      · skip
        try simp (disch := omega) only [↓i_in, ↓i_isCouple, ↓i_isBridge, ↓i_isTheme, ↓i_isBarge, i_lt, i_le, i_eq, i_clamp, i_upd, i_m1, Int32.toInt_toInt64, Int32.toInt_add, Int32.toInt_sub, Int32.toInt_mul, bm32, Int32.reduceToInt, Int64.reduceToInt, Nat.reduceLT, Nat.reduceEqDiff, reduceIte] at c_3
        refine ⟨fun c_4 => ?_, fun c_4 => ?_⟩
        · exact trivial
        · skip
          try simp (disch := omega) only [↓i_in, ↓i_isCouple, ↓i_isBridge, ↓i_isTheme, ↓i_isBarge, i_lt, i_le, i_eq, i_clamp, i_upd, i_m1, Int32.toInt_toInt64, Int32.toInt_add, Int32.toInt_sub, Int32.toInt_mul, bm32, Int32.reduceToInt, Int64.reduceToInt, Nat.reduceLT, Nat.reduceEqDiff, reduceIte] at c_4
          refine ⟨fun c_5 => ?_, fun c_5 => ?_⟩
          · exact trivial
          · skip
            try simp (disch := omega) only [↓i_in, ↓i_isCouple, ↓i_isBridge, ↓i_isTheme, ↓i_isBarge, i_lt, i_le, i_eq, i_clamp, i_upd, i_m1, Int32.toInt_toInt64, Int32.toInt_add, Int32.toInt_sub, Int32.toInt_mul, bm32, Int32.reduceToInt, Int64.reduceToInt, Nat.reduceLT, Nat.reduceEqDiff, reduceIte] at c_5
            refine ⟨fun c_6 => ?_, fun c_6 => ?_⟩
            · exact trivial
            · skip
              try simp (disch := omega) only [↓i_in, ↓i_isCouple, ↓i_isBridge, ↓i_isTheme, ↓i_isBarge, i_lt, i_le, i_eq, i_clamp, i_upd, i_m1, Int32.toInt_toInt64, Int32.toInt_add, Int32.toInt_sub, Int32.toInt_mul, bm32, Int32.reduceToInt, Int64.reduceToInt, Nat.reduceLT, Nat.reduceEqDiff, reduceIte] at c_6
              refine ⟨fun c_7 => ?_, fun c_7 => ?_⟩
              · exact trivial
              · skip
                try simp (disch := omega) only [↓i_in, ↓i_isCouple, ↓i_isBridge, ↓i_isTheme, ↓i_isBarge, i_lt, i_le, i_eq, i_clamp, i_upd, i_m1, Int32.toInt_toInt64, Int32.toInt_add, Int32.toInt_sub, Int32.toInt_mul, bm32, Int32.reduceToInt, Int64.reduceToInt, Nat.reduceLT, Nat.reduceEqDiff, reduceIte] at c_7
                refine ⟨fun c_8 => ?_, fun c_8 => ?_⟩
                · exact trivial
                · skip
                  try simp (disch := omega) only [↓i_in, ↓i_isCouple, ↓i_isBridge, ↓i_isTheme, ↓i_isBarge, i_lt, i_le, i_eq, i_clamp, i_upd, i_m1, Int32.toInt_toInt64, Int32.toInt_add, Int32.toInt_sub, Int32.toInt_mul, bm32, Int32.reduceToInt, Int64.reduceToInt, Nat.reduceLT, Nat.reduceEqDiff, reduceIte] at c_8
                  refine ⟨fun c_9 => ?_, fun c_9 => ?_⟩
                  · skip
                    try simp (disch := omega) only [↓i_in, ↓i_isCouple, ↓i_isBridge, ↓i_isTheme, ↓i_isBarge, i_lt, i_le, i_eq, i_clamp, i_upd, i_m1, Int32.toInt_toInt64, Int32.toInt_add, Int32.toInt_sub, Int32.toInt_mul, bm32, Int32.reduceToInt, Int64.reduceToInt, Nat.reduceLT, Nat.reduceEqDiff, reduceIte] at c_9
                    refine ⟨s_in, ?_⟩
                    refine ⟨fun c_10 => ?_, fun c_10 => ?_⟩
                    · exact trivial
                    · skip
                      try simp (disch := omega) only [↓i_in, ↓i_isCouple, ↓i_isBridge, ↓i_isTheme, ↓i_isBarge, i_lt, i_le, i_eq, i_clamp, i_upd, i_m1, Int32.toInt_toInt64, Int32.toInt_add, Int32.toInt_sub, Int32.toInt_mul, bm32, Int32.reduceToInt, Int64.reduceToInt, Nat.reduceLT, Nat.reduceEqDiff, reduceIte] at c_10
                      refine ⟨(s_bargesThat h_0), ?_⟩
                      exact trivial
                  · skip
                    try simp (disch := omega) only [↓i_in, ↓i_isCouple, ↓i_isBridge, ↓i_isTheme, ↓i_isBarge, i_lt, i_le, i_eq, i_clamp, i_upd, i_m1, Int32.toInt_toInt64, Int32.toInt_add, Int32.toInt_sub, Int32.toInt_mul, bm32, Int32.reduceToInt, Int64.reduceToInt, Nat.reduceLT, Nat.reduceEqDiff, reduceIte] at c_9
                    refine ⟨fun c_11 => ?_, fun c_11 => ?_⟩
                    · skip
                      try simp (disch := omega) only [↓i_in, ↓i_isCouple, ↓i_isBridge, ↓i_isTheme, ↓i_isBarge, i_lt, i_le, i_eq, i_clamp, i_upd, i_m1, Int32.toInt_toInt64, Int32.toInt_add, Int32.toInt_sub, Int32.toInt_mul, bm32, Int32.reduceToInt, Int64.reduceToInt, Nat.reduceLT, Nat.reduceEqDiff, reduceIte] at c_11
                      refine ⟨s_in, ?_⟩
                      refine ⟨fun c_12 => ?_, fun c_12 => ?_⟩
                      · exact trivial
                      · skip
                        try simp (disch := omega) only [↓i_in, ↓i_isCouple, ↓i_isBridge, ↓i_isTheme, ↓i_isBarge, i_lt, i_le, i_eq, i_clamp, i_upd, i_m1, Int32.toInt_toInt64, Int32.toInt_add, Int32.toInt_sub, Int32.toInt_mul, bm32, Int32.reduceToInt, Int64.reduceToInt, Nat.reduceLT, Nat.reduceEqDiff, reduceIte] at c_12
                        refine ⟨(s_bargesThat h_0), ?_⟩
                        exact trivial
                    · skip
                      try simp (disch := omega) only [↓i_in, ↓i_isCouple, ↓i_isBridge, ↓i_isTheme, ↓i_isBarge, i_lt, i_le, i_eq, i_clamp, i_upd, i_m1, Int32.toInt_toInt64, Int32.toInt_add, Int32.toInt_sub, Int32.toInt_mul, bm32, Int32.reduceToInt, Int64.reduceToInt, Nat.reduceLT, Nat.reduceEqDiff, reduceIte] at c_11
                      refine ⟨fun c_13 => ?_, fun c_13 => ?_⟩
                      · skip
                        try simp (disch := omega) only [↓i_in, ↓i_isCouple, ↓i_isBridge, ↓i_isTheme, ↓i_isBarge, i_lt, i_le, i_eq, i_clamp, i_upd, i_m1, Int32.toInt_toInt64, Int32.toInt_add, Int32.toInt_sub, Int32.toInt_mul, bm32, Int32.reduceToInt, Int64.reduceToInt, Nat.reduceLT, Nat.reduceEqDiff, reduceIte] at c_13
                        refine ⟨s_in, ?_⟩
                        refine ⟨fun c_14 => ?_, fun c_14 => ?_⟩
                        · exact trivial
                        · skip
                          try simp (disch := omega) only [↓i_in, ↓i_isCouple, ↓i_isBridge, ↓i_isTheme, ↓i_isBarge, i_lt, i_le, i_eq, i_clamp, i_upd, i_m1, Int32.toInt_toInt64, Int32.toInt_add, Int32.toInt_sub, Int32.toInt_mul, bm32, Int32.reduceToInt, Int64.reduceToInt, Nat.reduceLT, Nat.reduceEqDiff, reduceIte] at c_14
                          refine ⟨(s_bargesThat h_0), ?_⟩
                          exact trivial
                      · skip
                        try simp (disch := omega) only [↓i_in, ↓i_isCouple, ↓i_isBridge, ↓i_isTheme, ↓i_isBarge, i_lt, i_le, i_eq, i_clamp, i_upd, i_m1, Int32.toInt_toInt64, Int32.toInt_add, Int32.toInt_sub, Int32.toInt_mul, bm32, Int32.reduceToInt, Int64.reduceToInt, Nat.reduceLT, Nat.reduceEqDiff, reduceIte] at c_13
                        refine ⟨fun c_15 => ?_, fun c_15 => ?_⟩
                        · skip
                          try simp (disch := omega) only [↓i_in, ↓i_isCouple, ↓i_isBridge, ↓i_isTheme, ↓i_isBarge, i_lt, i_le, i_eq, i_clamp, i_upd, i_m1, Int32.toInt_toInt64, Int32.toInt_add, Int32.toInt_sub, Int32.toInt_mul, bm32, Int32.reduceToInt, Int64.reduceToInt, Nat.reduceLT, Nat.reduceEqDiff, reduceIte] at c_15
                          refine ⟨(s_griefOf h_0), ?_⟩
                          exact trivial
                        · skip
                          try simp (disch := omega) only [↓i_in, ↓i_isCouple, ↓i_isBridge, ↓i_isTheme, ↓i_isBarge, i_lt, i_le, i_eq, i_clamp, i_upd, i_m1, Int32.toInt_toInt64, Int32.toInt_add, Int32.toInt_sub, Int32.toInt_mul, bm32, Int32.reduceToInt, Int64.reduceToInt, Nat.reduceLT, Nat.reduceEqDiff, reduceIte] at c_15
                          refine ⟨fun c_16 => ?_, fun c_16 => ?_⟩
                          · exact trivial
                          · skip
                            try simp (disch := omega) only [↓i_in, ↓i_isCouple, ↓i_isBridge, ↓i_isTheme, ↓i_isBarge, i_lt, i_le, i_eq, i_clamp, i_upd, i_m1, Int32.toInt_toInt64, Int32.toInt_add, Int32.toInt_sub, Int32.toInt_mul, bm32, Int32.reduceToInt, Int64.reduceToInt, Nat.reduceLT, Nat.reduceEqDiff, reduceIte] at c_16
                            refine ⟨fun c_17 => ?_, fun c_17 => ?_⟩
                            · exact trivial
                            · skip
                              try simp (disch := omega) only [↓i_in, ↓i_isCouple, ↓i_isBridge, ↓i_isTheme, ↓i_isBarge, i_lt, i_le, i_eq, i_clamp, i_upd, i_m1, Int32.toInt_toInt64, Int32.toInt_add, Int32.toInt_sub, Int32.toInt_mul, bm32, Int32.reduceToInt, Int64.reduceToInt, Nat.reduceLT, Nat.reduceEqDiff, reduceIte] at c_17
                              refine ⟨s_in, ?_⟩
                              refine ⟨fun c_18 => ?_, fun c_18 => ?_⟩
                              · exact trivial
                              · skip
                                try simp (disch := omega) only [↓i_in, ↓i_isCouple, ↓i_isBridge, ↓i_isTheme, ↓i_isBarge, i_lt, i_le, i_eq, i_clamp, i_upd, i_m1, Int32.toInt_toInt64, Int32.toInt_add, Int32.toInt_sub, Int32.toInt_mul, bm32, Int32.reduceToInt, Int64.reduceToInt, Nat.reduceLT, Nat.reduceEqDiff, reduceIte] at c_18
                                refine ⟨(s_bargesThat h_0), ?_⟩
                                exact trivial
set_option maxHeartbeats 4000000 in
theorem s_bridge {G : Nat → Int32} {f0 : Nat → Int32} {f8 : Nat → Int32} {b_ : Int32} {w_ : Int32} (h_0 : GI G) : S_m_bridge G f0 f8 b_ w_ := by
  unfold S_m_bridge
  have h_0_g := h_0
  obtain ⟨⟨h_0_2a, h_0_2b⟩, ⟨h_0_3a, h_0_3b⟩, ⟨h_0_4a, h_0_4b⟩, ⟨h_0_5a, h_0_5b⟩, ⟨h_0_6a, h_0_6b⟩, ⟨h_0_14a, h_0_14b⟩, ⟨h_0_42a, h_0_42b⟩⟩ := h_0_g
  refine ⟨s_isBridge, ?_⟩
  refine ⟨fun c_1 => ?_, fun c_1 => ?_⟩
  · exact trivial
  · skip
    try simp (disch := omega) only [↓i_in, ↓i_isCouple, ↓i_isBridge, ↓i_isTheme, ↓i_isBarge, i_lt, i_le, i_eq, i_clamp, i_upd, i_m1, Int32.toInt_toInt64, Int32.toInt_add, Int32.toInt_sub, Int32.toInt_mul, bm32, Int32.reduceToInt, Int64.reduceToInt, Nat.reduceLT, Nat.reduceEqDiff, reduceIte] at c_1
    refine ⟨fun c_2 => ?_, fun c_2 => ?_⟩
    · skip
      try simp (disch := omega) only [↓i_in, ↓i_isCouple, ↓i_isBridge, ↓i_isTheme, ↓i_isBarge, i_lt, i_le, i_eq, i_clamp, i_upd, i_m1, Int32.toInt_toInt64, Int32.toInt_add, Int32.toInt_sub, Int32.toInt_mul, bm32, Int32.reduceToInt, Int64.reduceToInt, Nat.reduceLT, Nat.reduceEqDiff, reduceIte] at c_2
      refine ⟨vp_in_iff.mpr (by first | omega | (simp (disch := omega) only [↓i_in, ↓i_isCouple, ↓i_isBridge, ↓i_isTheme, ↓i_isBarge, i_lt, i_le, i_eq, i_clamp, i_upd, i_m1, Int32.toInt_toInt64, Int32.toInt_add, Int32.toInt_sub, Int32.toInt_mul, bm32, Int32.reduceToInt, Int64.reduceToInt, Nat.reduceLT, Nat.reduceEqDiff, reduceIte] <;> omega)), ?_⟩
      exact trivial
    · skip
      try simp (disch := omega) only [↓i_in, ↓i_isCouple, ↓i_isBridge, ↓i_isTheme, ↓i_isBarge, i_lt, i_le, i_eq, i_clamp, i_upd, i_m1, Int32.toInt_toInt64, Int32.toInt_add, Int32.toInt_sub, Int32.toInt_mul, bm32, Int32.reduceToInt, Int64.reduceToInt, Nat.reduceLT, Nat.reduceEqDiff, reduceIte] at c_2
      refine ⟨fun c_3 => ?_, fun c_3 => ?_⟩
      · skip
        try simp (disch := omega) only [↓i_in, ↓i_isCouple, ↓i_isBridge, ↓i_isTheme, ↓i_isBarge, i_lt, i_le, i_eq, i_clamp, i_upd, i_m1, Int32.toInt_toInt64, Int32.toInt_add, Int32.toInt_sub, Int32.toInt_mul, bm32, Int32.reduceToInt, Int64.reduceToInt, Nat.reduceLT, Nat.reduceEqDiff, reduceIte] at c_3
        refine ⟨(s_whoIsAt h_0 (by first | omega | (simp (disch := omega) only [↓i_in, ↓i_isCouple, ↓i_isBridge, ↓i_isTheme, ↓i_isBarge, i_lt, i_le, i_eq, i_clamp, i_upd, i_m1, Int32.toInt_toInt64, Int32.toInt_add, Int32.toInt_sub, Int32.toInt_mul, bm32, Int32.reduceToInt, Int64.reduceToInt, Nat.reduceLT, Nat.reduceEqDiff, reduceIte] <;> omega)) (by first | omega | (simp (disch := omega) only [↓i_in, ↓i_isCouple, ↓i_isBridge, ↓i_isTheme, ↓i_isBarge, i_lt, i_le, i_eq, i_clamp, i_upd, i_m1, Int32.toInt_toInt64, Int32.toInt_add, Int32.toInt_sub, Int32.toInt_mul, bm32, Int32.reduceToInt, Int64.reduceToInt, Nat.reduceLT, Nat.reduceEqDiff, reduceIte] <;> omega))), ?_⟩
        have v_4 := p_whoIsAt (G := G) (f0 := f0) (h_ := 0) (b_ := b_) h_0 (by first | omega | (simp (disch := omega) only [↓i_in, ↓i_isCouple, ↓i_isBridge, ↓i_isTheme, ↓i_isBarge, i_lt, i_le, i_eq, i_clamp, i_upd, i_m1, Int32.toInt_toInt64, Int32.toInt_add, Int32.toInt_sub, Int32.toInt_mul, bm32, Int32.reduceToInt, Int64.reduceToInt, Nat.reduceLT, Nat.reduceEqDiff, reduceIte] <;> omega)) (by first | omega | (simp (disch := omega) only [↓i_in, ↓i_isCouple, ↓i_isBridge, ↓i_isTheme, ↓i_isBarge, i_lt, i_le, i_eq, i_clamp, i_upd, i_m1, Int32.toInt_toInt64, Int32.toInt_add, Int32.toInt_sub, Int32.toInt_mul, bm32, Int32.reduceToInt, Int64.reduceToInt, Nat.reduceLT, Nat.reduceEqDiff, reduceIte] <;> omega))
        try simp (disch := omega) only [↓i_in, ↓i_isCouple, ↓i_isBridge, ↓i_isTheme, ↓i_isBarge, i_lt, i_le, i_eq, i_clamp, i_upd, i_m1, Int32.toInt_toInt64, Int32.toInt_add, Int32.toInt_sub, Int32.toInt_mul, bm32, Int32.reduceToInt, Int64.reduceToInt, Nat.reduceLT, Nat.reduceEqDiff, reduceIte] at v_4
        exact trivial
      · exact trivial
set_option maxHeartbeats 4000000 in
theorem s_couple {G : Nat → Int32} {f0 : Nat → Int32} {f9 : Nat → Int32} {c_ : Int32} {w_ : Int32} (h_0 : GI G) : S_m_couple G f0 f9 c_ w_ := by
  unfold S_m_couple
  have h_0_g := h_0
  obtain ⟨⟨h_0_2a, h_0_2b⟩, ⟨h_0_3a, h_0_3b⟩, ⟨h_0_4a, h_0_4b⟩, ⟨h_0_5a, h_0_5b⟩, ⟨h_0_6a, h_0_6b⟩, ⟨h_0_14a, h_0_14b⟩, ⟨h_0_42a, h_0_42b⟩⟩ := h_0_g
  refine ⟨s_isCouple, ?_⟩
  refine ⟨fun c_1 => ?_, fun c_1 => ?_⟩
  · exact trivial
  · skip
    try simp (disch := omega) only [↓i_in, ↓i_isCouple, ↓i_isBridge, ↓i_isTheme, ↓i_isBarge, i_lt, i_le, i_eq, i_clamp, i_upd, i_m1, Int32.toInt_toInt64, Int32.toInt_add, Int32.toInt_sub, Int32.toInt_mul, bm32, Int32.reduceToInt, Int64.reduceToInt, Nat.reduceLT, Nat.reduceEqDiff, reduceIte] at c_1
    refine ⟨fun c_2 => ?_, fun c_2 => ?_⟩
    · skip
      try simp (disch := omega) only [↓i_in, ↓i_isCouple, ↓i_isBridge, ↓i_isTheme, ↓i_isBarge, i_lt, i_le, i_eq, i_clamp, i_upd, i_m1, Int32.toInt_toInt64, Int32.toInt_add, Int32.toInt_sub, Int32.toInt_mul, bm32, Int32.reduceToInt, Int64.reduceToInt, Nat.reduceLT, Nat.reduceEqDiff, reduceIte] at c_2
      refine ⟨vp_in_iff.mpr (by first | omega | (simp (disch := omega) only [↓i_in, ↓i_isCouple, ↓i_isBridge, ↓i_isTheme, ↓i_isBarge, i_lt, i_le, i_eq, i_clamp, i_upd, i_m1, Int32.toInt_toInt64, Int32.toInt_add, Int32.toInt_sub, Int32.toInt_mul, bm32, Int32.reduceToInt, Int64.reduceToInt, Nat.reduceLT, Nat.reduceEqDiff, reduceIte] <;> omega)), ?_⟩
      exact trivial
    · skip
      try simp (disch := omega) only [↓i_in, ↓i_isCouple, ↓i_isBridge, ↓i_isTheme, ↓i_isBarge, i_lt, i_le, i_eq, i_clamp, i_upd, i_m1, Int32.toInt_toInt64, Int32.toInt_add, Int32.toInt_sub, Int32.toInt_mul, bm32, Int32.reduceToInt, Int64.reduceToInt, Nat.reduceLT, Nat.reduceEqDiff, reduceIte] at c_2
      refine ⟨fun c_3 => ?_, fun c_3 => ?_⟩
      · skip
        try simp (disch := omega) only [↓i_in, ↓i_isCouple, ↓i_isBridge, ↓i_isTheme, ↓i_isBarge, i_lt, i_le, i_eq, i_clamp, i_upd, i_m1, Int32.toInt_toInt64, Int32.toInt_add, Int32.toInt_sub, Int32.toInt_mul, bm32, Int32.reduceToInt, Int64.reduceToInt, Nat.reduceLT, Nat.reduceEqDiff, reduceIte] at c_3
        refine ⟨vp_in_iff.mpr (by first | omega | (simp (disch := omega) only [↓i_in, ↓i_isCouple, ↓i_isBridge, ↓i_isTheme, ↓i_isBarge, i_lt, i_le, i_eq, i_clamp, i_upd, i_m1, Int32.toInt_toInt64, Int32.toInt_add, Int32.toInt_sub, Int32.toInt_mul, bm32, Int32.reduceToInt, Int64.reduceToInt, Nat.reduceLT, Nat.reduceEqDiff, reduceIte] <;> omega)), ?_⟩
        exact trivial
      · skip
        try simp (disch := omega) only [↓i_in, ↓i_isCouple, ↓i_isBridge, ↓i_isTheme, ↓i_isBarge, i_lt, i_le, i_eq, i_clamp, i_upd, i_m1, Int32.toInt_toInt64, Int32.toInt_add, Int32.toInt_sub, Int32.toInt_mul, bm32, Int32.reduceToInt, Int64.reduceToInt, Nat.reduceLT, Nat.reduceEqDiff, reduceIte] at c_3
        refine ⟨fun c_4 => ?_, fun c_4 => ?_⟩
        · skip
          try simp (disch := omega) only [↓i_in, ↓i_isCouple, ↓i_isBridge, ↓i_isTheme, ↓i_isBarge, i_lt, i_le, i_eq, i_clamp, i_upd, i_m1, Int32.toInt_toInt64, Int32.toInt_add, Int32.toInt_sub, Int32.toInt_mul, bm32, Int32.reduceToInt, Int64.reduceToInt, Nat.reduceLT, Nat.reduceEqDiff, reduceIte] at c_4
          refine ⟨vp_in_iff.mpr (by first | omega | (simp (disch := omega) only [↓i_in, ↓i_isCouple, ↓i_isBridge, ↓i_isTheme, ↓i_isBarge, i_lt, i_le, i_eq, i_clamp, i_upd, i_m1, Int32.toInt_toInt64, Int32.toInt_add, Int32.toInt_sub, Int32.toInt_mul, bm32, Int32.reduceToInt, Int64.reduceToInt, Nat.reduceLT, Nat.reduceEqDiff, reduceIte] <;> omega)), ?_⟩
          exact trivial
        · skip
          try simp (disch := omega) only [↓i_in, ↓i_isCouple, ↓i_isBridge, ↓i_isTheme, ↓i_isBarge, i_lt, i_le, i_eq, i_clamp, i_upd, i_m1, Int32.toInt_toInt64, Int32.toInt_add, Int32.toInt_sub, Int32.toInt_mul, bm32, Int32.reduceToInt, Int64.reduceToInt, Nat.reduceLT, Nat.reduceEqDiff, reduceIte] at c_4
          refine ⟨fun c_5 => ?_, fun c_5 => ?_⟩
          · skip
            try simp (disch := omega) only [↓i_in, ↓i_isCouple, ↓i_isBridge, ↓i_isTheme, ↓i_isBarge, i_lt, i_le, i_eq, i_clamp, i_upd, i_m1, Int32.toInt_toInt64, Int32.toInt_add, Int32.toInt_sub, Int32.toInt_mul, bm32, Int32.reduceToInt, Int64.reduceToInt, Nat.reduceLT, Nat.reduceEqDiff, reduceIte] at c_5
            refine ⟨vp_in_iff.mpr (by first | omega | (simp (disch := omega) only [↓i_in, ↓i_isCouple, ↓i_isBridge, ↓i_isTheme, ↓i_isBarge, i_lt, i_le, i_eq, i_clamp, i_upd, i_m1, Int32.toInt_toInt64, Int32.toInt_add, Int32.toInt_sub, Int32.toInt_mul, bm32, Int32.reduceToInt, Int64.reduceToInt, Nat.reduceLT, Nat.reduceEqDiff, reduceIte] <;> omega)), ?_⟩
            exact trivial
          · skip
            try simp (disch := omega) only [↓i_in, ↓i_isCouple, ↓i_isBridge, ↓i_isTheme, ↓i_isBarge, i_lt, i_le, i_eq, i_clamp, i_upd, i_m1, Int32.toInt_toInt64, Int32.toInt_add, Int32.toInt_sub, Int32.toInt_mul, bm32, Int32.reduceToInt, Int64.reduceToInt, Nat.reduceLT, Nat.reduceEqDiff, reduceIte] at c_5
            refine ⟨fun c_6 => ?_, fun c_6 => ?_⟩
            · skip
              try simp (disch := omega) only [↓i_in, ↓i_isCouple, ↓i_isBridge, ↓i_isTheme, ↓i_isBarge, i_lt, i_le, i_eq, i_clamp, i_upd, i_m1, Int32.toInt_toInt64, Int32.toInt_add, Int32.toInt_sub, Int32.toInt_mul, bm32, Int32.reduceToInt, Int64.reduceToInt, Nat.reduceLT, Nat.reduceEqDiff, reduceIte] at c_6
              refine ⟨s_isDone, ?_⟩
              refine ⟨fun c_7 => ?_, fun c_7 => ?_⟩
              · exact trivial
              · exact trivial
            · exact trivial
set_option maxHeartbeats 4000000 in
theorem s_force {G : Nat → Int32} {f10 : Nat → Int32} {c_ : Int32} {t_ : Int32} (h_0 : GI G) : S_m_force G f10 c_ t_ := by
  unfold S_m_force
  have h_0_g := h_0
  obtain ⟨⟨h_0_2a, h_0_2b⟩, ⟨h_0_3a, h_0_3b⟩, ⟨h_0_4a, h_0_4b⟩, ⟨h_0_5a, h_0_5b⟩, ⟨h_0_6a, h_0_6b⟩, ⟨h_0_14a, h_0_14b⟩, ⟨h_0_42a, h_0_42b⟩⟩ := h_0_g
  refine ⟨s_isCouple, ?_⟩
  refine ⟨fun c_1 => ?_, fun c_1 => ?_⟩
  · exact trivial
  · skip
    try simp (disch := omega) only [↓i_in, ↓i_isCouple, ↓i_isBridge, ↓i_isTheme, ↓i_isBarge, i_lt, i_le, i_eq, i_clamp, i_upd, i_m1, Int32.toInt_toInt64, Int32.toInt_add, Int32.toInt_sub, Int32.toInt_mul, bm32, Int32.reduceToInt, Int64.reduceToInt, Nat.reduceLT, Nat.reduceEqDiff, reduceIte] at c_1
    refine ⟨s_isTheme, ?_⟩
    refine ⟨fun c_2 => ?_, fun c_2 => ?_⟩
    · exact trivial
    · skip
      try simp (disch := omega) only [↓i_in, ↓i_isCouple, ↓i_isBridge, ↓i_isTheme, ↓i_isBarge, i_lt, i_le, i_eq, i_clamp, i_upd, i_m1, Int32.toInt_toInt64, Int32.toInt_add, Int32.toInt_sub, Int32.toInt_mul, bm32, Int32.reduceToInt, Int64.reduceToInt, Nat.reduceLT, Nat.reduceEqDiff, reduceIte] at c_2
      refine ⟨vp_in_iff.mpr (by first | omega | (simp (disch := omega) only [↓i_in, ↓i_isCouple, ↓i_isBridge, ↓i_isTheme, ↓i_isBarge, i_lt, i_le, i_eq, i_clamp, i_upd, i_m1, Int32.toInt_toInt64, Int32.toInt_add, Int32.toInt_sub, Int32.toInt_mul, bm32, Int32.reduceToInt, Int64.reduceToInt, Nat.reduceLT, Nat.reduceEqDiff, reduceIte] <;> omega)), ?_⟩
      exact trivial
set_option maxHeartbeats 4000000 in
theorem s_barge {G : Nat → Int32} {f0 : Nat → Int32} {f11 : Nat → Int32} {f12 : Nat → Int32} {v_ : Int32} {w_ : Int32} (h_0 : GI G) : S_m_barge G f0 f11 f12 v_ w_ := by
  unfold S_m_barge
  have h_0_g := h_0
  obtain ⟨⟨h_0_2a, h_0_2b⟩, ⟨h_0_3a, h_0_3b⟩, ⟨h_0_4a, h_0_4b⟩, ⟨h_0_5a, h_0_5b⟩, ⟨h_0_6a, h_0_6b⟩, ⟨h_0_14a, h_0_14b⟩, ⟨h_0_42a, h_0_42b⟩⟩ := h_0_g
  refine ⟨s_isBarge, ?_⟩
  refine ⟨fun c_1 => ?_, fun c_1 => ?_⟩
  · exact trivial
  · skip
    try simp (disch := omega) only [↓i_in, ↓i_isCouple, ↓i_isBridge, ↓i_isTheme, ↓i_isBarge, i_lt, i_le, i_eq, i_clamp, i_upd, i_m1, Int32.toInt_toInt64, Int32.toInt_add, Int32.toInt_sub, Int32.toInt_mul, bm32, Int32.reduceToInt, Int64.reduceToInt, Nat.reduceLT, Nat.reduceEqDiff, reduceIte] at c_1
    refine ⟨fun c_2 => ?_, fun c_2 => ?_⟩
    · skip
      try simp (disch := omega) only [↓i_in, ↓i_isCouple, ↓i_isBridge, ↓i_isTheme, ↓i_isBarge, i_lt, i_le, i_eq, i_clamp, i_upd, i_m1, Int32.toInt_toInt64, Int32.toInt_add, Int32.toInt_sub, Int32.toInt_mul, bm32, Int32.reduceToInt, Int64.reduceToInt, Nat.reduceLT, Nat.reduceEqDiff, reduceIte] at c_2
      refine ⟨vp_in_iff.mpr (by first | omega | (simp (disch := omega) only [↓i_in, ↓i_isCouple, ↓i_isBridge, ↓i_isTheme, ↓i_isBarge, i_lt, i_le, i_eq, i_clamp, i_upd, i_m1, Int32.toInt_toInt64, Int32.toInt_add, Int32.toInt_sub, Int32.toInt_mul, bm32, Int32.reduceToInt, Int64.reduceToInt, Nat.reduceLT, Nat.reduceEqDiff, reduceIte] <;> omega)), ?_⟩
      exact trivial
    · skip
      try simp (disch := omega) only [↓i_in, ↓i_isCouple, ↓i_isBridge, ↓i_isTheme, ↓i_isBarge, i_lt, i_le, i_eq, i_clamp, i_upd, i_m1, Int32.toInt_toInt64, Int32.toInt_add, Int32.toInt_sub, Int32.toInt_mul, bm32, Int32.reduceToInt, Int64.reduceToInt, Nat.reduceLT, Nat.reduceEqDiff, reduceIte] at c_2
      refine ⟨fun c_3 => ?_, fun c_3 => ?_⟩
      · skip
        try simp (disch := omega) only [↓i_in, ↓i_isCouple, ↓i_isBridge, ↓i_isTheme, ↓i_isBarge, i_lt, i_le, i_eq, i_clamp, i_upd, i_m1, Int32.toInt_toInt64, Int32.toInt_add, Int32.toInt_sub, Int32.toInt_mul, bm32, Int32.reduceToInt, Int64.reduceToInt, Nat.reduceLT, Nat.reduceEqDiff, reduceIte] at c_3
        refine ⟨vp_in_iff.mpr (by first | omega | (simp (disch := omega) only [↓i_in, ↓i_isCouple, ↓i_isBridge, ↓i_isTheme, ↓i_isBarge, i_lt, i_le, i_eq, i_clamp, i_upd, i_m1, Int32.toInt_toInt64, Int32.toInt_add, Int32.toInt_sub, Int32.toInt_mul, bm32, Int32.reduceToInt, Int64.reduceToInt, Nat.reduceLT, Nat.reduceEqDiff, reduceIte] <;> omega)), ?_⟩
        exact trivial
      · skip
        try simp (disch := omega) only [↓i_in, ↓i_isCouple, ↓i_isBridge, ↓i_isTheme, ↓i_isBarge, i_lt, i_le, i_eq, i_clamp, i_upd, i_m1, Int32.toInt_toInt64, Int32.toInt_add, Int32.toInt_sub, Int32.toInt_mul, bm32, Int32.reduceToInt, Int64.reduceToInt, Nat.reduceLT, Nat.reduceEqDiff, reduceIte] at c_3
        refine ⟨fun c_4 => ?_, fun c_4 => ?_⟩
        · skip
          try simp (disch := omega) only [↓i_in, ↓i_isCouple, ↓i_isBridge, ↓i_isTheme, ↓i_isBarge, i_lt, i_le, i_eq, i_clamp, i_upd, i_m1, Int32.toInt_toInt64, Int32.toInt_add, Int32.toInt_sub, Int32.toInt_mul, bm32, Int32.reduceToInt, Int64.reduceToInt, Nat.reduceLT, Nat.reduceEqDiff, reduceIte] at c_4
          refine ⟨vp_in_iff.mpr (by first | omega | (simp (disch := omega) only [↓i_in, ↓i_isCouple, ↓i_isBridge, ↓i_isTheme, ↓i_isBarge, i_lt, i_le, i_eq, i_clamp, i_upd, i_m1, Int32.toInt_toInt64, Int32.toInt_add, Int32.toInt_sub, Int32.toInt_mul, bm32, Int32.reduceToInt, Int64.reduceToInt, Nat.reduceLT, Nat.reduceEqDiff, reduceIte] <;> omega)), ?_⟩
          exact trivial
        · skip
          try simp (disch := omega) only [↓i_in, ↓i_isCouple, ↓i_isBridge, ↓i_isTheme, ↓i_isBarge, i_lt, i_le, i_eq, i_clamp, i_upd, i_m1, Int32.toInt_toInt64, Int32.toInt_add, Int32.toInt_sub, Int32.toInt_mul, bm32, Int32.reduceToInt, Int64.reduceToInt, Nat.reduceLT, Nat.reduceEqDiff, reduceIte] at c_4
          refine ⟨fun c_5 => ?_, fun c_5 => ?_⟩
          · skip
            try simp (disch := omega) only [↓i_in, ↓i_isCouple, ↓i_isBridge, ↓i_isTheme, ↓i_isBarge, i_lt, i_le, i_eq, i_clamp, i_upd, i_m1, Int32.toInt_toInt64, Int32.toInt_add, Int32.toInt_sub, Int32.toInt_mul, bm32, Int32.reduceToInt, Int64.reduceToInt, Nat.reduceLT, Nat.reduceEqDiff, reduceIte] at c_5
            refine ⟨vp_in_iff.mpr (by first | omega | (simp (disch := omega) only [↓i_in, ↓i_isCouple, ↓i_isBridge, ↓i_isTheme, ↓i_isBarge, i_lt, i_le, i_eq, i_clamp, i_upd, i_m1, Int32.toInt_toInt64, Int32.toInt_add, Int32.toInt_sub, Int32.toInt_mul, bm32, Int32.reduceToInt, Int64.reduceToInt, Nat.reduceLT, Nat.reduceEqDiff, reduceIte] <;> omega)), ?_⟩
            exact trivial
          · skip
            try simp (disch := omega) only [↓i_in, ↓i_isCouple, ↓i_isBridge, ↓i_isTheme, ↓i_isBarge, i_lt, i_le, i_eq, i_clamp, i_upd, i_m1, Int32.toInt_toInt64, Int32.toInt_add, Int32.toInt_sub, Int32.toInt_mul, bm32, Int32.reduceToInt, Int64.reduceToInt, Nat.reduceLT, Nat.reduceEqDiff, reduceIte] at c_5
            refine ⟨fun c_6 => ?_, fun c_6 => ?_⟩
            · skip
              try simp (disch := omega) only [↓i_in, ↓i_isCouple, ↓i_isBridge, ↓i_isTheme, ↓i_isBarge, i_lt, i_le, i_eq, i_clamp, i_upd, i_m1, Int32.toInt_toInt64, Int32.toInt_add, Int32.toInt_sub, Int32.toInt_mul, bm32, Int32.reduceToInt, Int64.reduceToInt, Nat.reduceLT, Nat.reduceEqDiff, reduceIte] at c_6
              refine ⟨vp_in_iff.mpr (by first | omega | (simp (disch := omega) only [↓i_in, ↓i_isCouple, ↓i_isBridge, ↓i_isTheme, ↓i_isBarge, i_lt, i_le, i_eq, i_clamp, i_upd, i_m1, Int32.toInt_toInt64, Int32.toInt_add, Int32.toInt_sub, Int32.toInt_mul, bm32, Int32.reduceToInt, Int64.reduceToInt, Nat.reduceLT, Nat.reduceEqDiff, reduceIte] <;> omega)), ?_⟩
              exact trivial
            · exact trivial
set_option maxHeartbeats 4000000 in
theorem s_feed {G : Nat → Int32} {f13 : Nat → Int32} {c_ : Int32} (h_0 : GI G) : S_m_feed G f13 c_ := by
  unfold S_m_feed
  have h_0_g := h_0
  obtain ⟨⟨h_0_2a, h_0_2b⟩, ⟨h_0_3a, h_0_3b⟩, ⟨h_0_4a, h_0_4b⟩, ⟨h_0_5a, h_0_5b⟩, ⟨h_0_6a, h_0_6b⟩, ⟨h_0_14a, h_0_14b⟩, ⟨h_0_42a, h_0_42b⟩⟩ := h_0_g
  refine ⟨s_in, ?_⟩
  refine ⟨fun c_1 => ?_, fun c_1 => ?_⟩
  · exact trivial
  · skip
    try simp (disch := omega) only [↓i_in, ↓i_isCouple, ↓i_isBridge, ↓i_isTheme, ↓i_isBarge, i_lt, i_le, i_eq, i_clamp, i_upd, i_m1, Int32.toInt_toInt64, Int32.toInt_add, Int32.toInt_sub, Int32.toInt_mul, bm32, Int32.reduceToInt, Int64.reduceToInt, Nat.reduceLT, Nat.reduceEqDiff, reduceIte] at c_1
    refine ⟨fun c_2 => ?_, fun c_2 => ?_⟩
    · exact trivial
    · skip
      try simp (disch := omega) only [↓i_in, ↓i_isCouple, ↓i_isBridge, ↓i_isTheme, ↓i_isBarge, i_lt, i_le, i_eq, i_clamp, i_upd, i_m1, Int32.toInt_toInt64, Int32.toInt_add, Int32.toInt_sub, Int32.toInt_mul, bm32, Int32.reduceToInt, Int64.reduceToInt, Nat.reduceLT, Nat.reduceEqDiff, reduceIte] at c_2
      refine ⟨vp_in_iff.mpr (by first | omega | (simp (disch := omega) only [↓i_in, ↓i_isCouple, ↓i_isBridge, ↓i_isTheme, ↓i_isBarge, i_lt, i_le, i_eq, i_clamp, i_upd, i_m1, Int32.toInt_toInt64, Int32.toInt_add, Int32.toInt_sub, Int32.toInt_mul, bm32, Int32.reduceToInt, Int64.reduceToInt, Nat.reduceLT, Nat.reduceEqDiff, reduceIte] <;> omega)), ?_⟩
      exact trivial
set_option maxHeartbeats 4000000 in
theorem s_write {G : Nat → Int32} {f43 : Nat → Int32} {f44 : Nat → Int32} {c_ : Int32} {g_ : Int32} (h_0 : GI G) : S_m_write G f43 f44 c_ g_ := by
  unfold S_m_write
  have h_0_g := h_0
  obtain ⟨⟨h_0_2a, h_0_2b⟩, ⟨h_0_3a, h_0_3b⟩, ⟨h_0_4a, h_0_4b⟩, ⟨h_0_5a, h_0_5b⟩, ⟨h_0_6a, h_0_6b⟩, ⟨h_0_14a, h_0_14b⟩, ⟨h_0_42a, h_0_42b⟩⟩ := h_0_g
  refine ⟨s_isCouple, ?_⟩
  refine ⟨fun c_1 => ?_, fun c_1 => ?_⟩
  · exact trivial
  · skip
    try simp (disch := omega) only [↓i_in, ↓i_isCouple, ↓i_isBridge, ↓i_isTheme, ↓i_isBarge, i_lt, i_le, i_eq, i_clamp, i_upd, i_m1, Int32.toInt_toInt64, Int32.toInt_add, Int32.toInt_sub, Int32.toInt_mul, bm32, Int32.reduceToInt, Int64.reduceToInt, Nat.reduceLT, Nat.reduceEqDiff, reduceIte] at c_1
    refine ⟨s_in, ?_⟩
    refine ⟨fun c_2 => ?_, fun c_2 => ?_⟩
    · exact trivial
    · skip
      try simp (disch := omega) only [↓i_in, ↓i_isCouple, ↓i_isBridge, ↓i_isTheme, ↓i_isBarge, i_lt, i_le, i_eq, i_clamp, i_upd, i_m1, Int32.toInt_toInt64, Int32.toInt_add, Int32.toInt_sub, Int32.toInt_mul, bm32, Int32.reduceToInt, Int64.reduceToInt, Nat.reduceLT, Nat.reduceEqDiff, reduceIte] at c_2
      refine ⟨fun c_3 => ?_, fun c_3 => ?_⟩
      · exact trivial
      · skip
        try simp (disch := omega) only [↓i_in, ↓i_isCouple, ↓i_isBridge, ↓i_isTheme, ↓i_isBarge, i_lt, i_le, i_eq, i_clamp, i_upd, i_m1, Int32.toInt_toInt64, Int32.toInt_add, Int32.toInt_sub, Int32.toInt_mul, bm32, Int32.reduceToInt, Int64.reduceToInt, Nat.reduceLT, Nat.reduceEqDiff, reduceIte] at c_3
        refine ⟨vp_in_iff.mpr (by first | omega | (simp (disch := omega) only [↓i_in, ↓i_isCouple, ↓i_isBridge, ↓i_isTheme, ↓i_isBarge, i_lt, i_le, i_eq, i_clamp, i_upd, i_m1, Int32.toInt_toInt64, Int32.toInt_add, Int32.toInt_sub, Int32.toInt_mul, bm32, Int32.reduceToInt, Int64.reduceToInt, Nat.reduceLT, Nat.reduceEqDiff, reduceIte] <;> omega)), ?_⟩
        refine ⟨vp_in_iff.mpr (by first | omega | (simp (disch := omega) only [↓i_in, ↓i_isCouple, ↓i_isBridge, ↓i_isTheme, ↓i_isBarge, i_lt, i_le, i_eq, i_clamp, i_upd, i_m1, Int32.toInt_toInt64, Int32.toInt_add, Int32.toInt_sub, Int32.toInt_mul, bm32, Int32.reduceToInt, Int64.reduceToInt, Nat.reduceLT, Nat.reduceEqDiff, reduceIte] <;> omega)), ?_⟩
        exact trivial
set_option maxHeartbeats 4000000 in
theorem s_keep {G : Nat → Int32} {f0 : Nat → Int32} {f1 : Nat → Int32} {i_ : Int32} (h_0 : GI G) : S_m_keep G f0 f1 i_ := by
  unfold S_m_keep
  have h_0_g := h_0
  obtain ⟨⟨h_0_2a, h_0_2b⟩, ⟨h_0_3a, h_0_3b⟩, ⟨h_0_4a, h_0_4b⟩, ⟨h_0_5a, h_0_5b⟩, ⟨h_0_6a, h_0_6b⟩, ⟨h_0_14a, h_0_14b⟩, ⟨h_0_42a, h_0_42b⟩⟩ := h_0_g
  refine ⟨s_in, ?_⟩
  refine ⟨fun c_1 => ?_, fun c_1 => ?_⟩
  · exact trivial
  · skip
    try simp (disch := omega) only [↓i_in, ↓i_isCouple, ↓i_isBridge, ↓i_isTheme, ↓i_isBarge, i_lt, i_le, i_eq, i_clamp, i_upd, i_m1, Int32.toInt_toInt64, Int32.toInt_add, Int32.toInt_sub, Int32.toInt_mul, bm32, Int32.reduceToInt, Int64.reduceToInt, Nat.reduceLT, Nat.reduceEqDiff, reduceIte] at c_1
    refine ⟨(s_copy (by first | omega | (simp (disch := omega) only [↓i_in, ↓i_isCouple, ↓i_isBridge, ↓i_isTheme, ↓i_isBarge, i_lt, i_le, i_eq, i_clamp, i_upd, i_m1, Int32.toInt_toInt64, Int32.toInt_add, Int32.toInt_sub, Int32.toInt_mul, bm32, Int32.reduceToInt, Int64.reduceToInt, Nat.reduceLT, Nat.reduceEqDiff, reduceIte] <;> omega)) (by first | omega | (simp (disch := omega) only [↓i_in, ↓i_isCouple, ↓i_isBridge, ↓i_isTheme, ↓i_isBarge, i_lt, i_le, i_eq, i_clamp, i_upd, i_m1, Int32.toInt_toInt64, Int32.toInt_add, Int32.toInt_sub, Int32.toInt_mul, bm32, Int32.reduceToInt, Int64.reduceToInt, Nat.reduceLT, Nat.reduceEqDiff, reduceIte] <;> omega)) (by first | omega | (simp (disch := omega) only [↓i_in, ↓i_isCouple, ↓i_isBridge, ↓i_isTheme, ↓i_isBarge, i_lt, i_le, i_eq, i_clamp, i_upd, i_m1, Int32.toInt_toInt64, Int32.toInt_add, Int32.toInt_sub, Int32.toInt_mul, bm32, Int32.reduceToInt, Int64.reduceToInt, Nat.reduceLT, Nat.reduceEqDiff, reduceIte] <;> omega)) (by first | omega | (simp (disch := omega) only [↓i_in, ↓i_isCouple, ↓i_isBridge, ↓i_isTheme, ↓i_isBarge, i_lt, i_le, i_eq, i_clamp, i_upd, i_m1, Int32.toInt_toInt64, Int32.toInt_add, Int32.toInt_sub, Int32.toInt_mul, bm32, Int32.reduceToInt, Int64.reduceToInt, Nat.reduceLT, Nat.reduceEqDiff, reduceIte] <;> omega))), ?_⟩
    refine ⟨vp_in_iff.mpr (by first | omega | (simp (disch := omega) only [↓i_in, ↓i_isCouple, ↓i_isBridge, ↓i_isTheme, ↓i_isBarge, i_lt, i_le, i_eq, i_clamp, i_upd, i_m1, Int32.toInt_toInt64, Int32.toInt_add, Int32.toInt_sub, Int32.toInt_mul, bm32, Int32.reduceToInt, Int64.reduceToInt, Nat.reduceLT, Nat.reduceEqDiff, reduceIte] <;> omega)), ?_⟩
    exact trivial
set_option maxHeartbeats 4000000 in
theorem s_goBack {G : Nat → Int32} {f0 : Nat → Int32} {f1 : Nat → Int32} {i_ : Int32} (h_0 : GI G) : S_m_goBack G f0 f1 i_ := by
  unfold S_m_goBack
  have h_0_g := h_0
  obtain ⟨⟨h_0_2a, h_0_2b⟩, ⟨h_0_3a, h_0_3b⟩, ⟨h_0_4a, h_0_4b⟩, ⟨h_0_5a, h_0_5b⟩, ⟨h_0_6a, h_0_6b⟩, ⟨h_0_14a, h_0_14b⟩, ⟨h_0_42a, h_0_42b⟩⟩ := h_0_g
  refine ⟨s_in, ?_⟩
  refine ⟨fun c_1 => ?_, fun c_1 => ?_⟩
  · exact trivial
  · skip
    try simp (disch := omega) only [↓i_in, ↓i_isCouple, ↓i_isBridge, ↓i_isTheme, ↓i_isBarge, i_lt, i_le, i_eq, i_clamp, i_upd, i_m1, Int32.toInt_toInt64, Int32.toInt_add, Int32.toInt_sub, Int32.toInt_mul, bm32, Int32.reduceToInt, Int64.reduceToInt, Nat.reduceLT, Nat.reduceEqDiff, reduceIte] at c_1
    refine ⟨vp_in_iff.mpr (by first | omega | (simp (disch := omega) only [↓i_in, ↓i_isCouple, ↓i_isBridge, ↓i_isTheme, ↓i_isBarge, i_lt, i_le, i_eq, i_clamp, i_upd, i_m1, Int32.toInt_toInt64, Int32.toInt_add, Int32.toInt_sub, Int32.toInt_mul, bm32, Int32.reduceToInt, Int64.reduceToInt, Nat.reduceLT, Nat.reduceEqDiff, reduceIte] <;> omega)), ?_⟩
    refine ⟨fun c_2 => ?_, fun c_2 => ?_⟩
    · exact trivial
    · skip
      try simp (disch := omega) only [↓i_in, ↓i_isCouple, ↓i_isBridge, ↓i_isTheme, ↓i_isBarge, i_lt, i_le, i_eq, i_clamp, i_upd, i_m1, Int32.toInt_toInt64, Int32.toInt_add, Int32.toInt_sub, Int32.toInt_mul, bm32, Int32.reduceToInt, Int64.reduceToInt, Nat.reduceLT, Nat.reduceEqDiff, reduceIte] at c_2
      refine ⟨(s_copy (by first | omega | (simp (disch := omega) only [↓i_in, ↓i_isCouple, ↓i_isBridge, ↓i_isTheme, ↓i_isBarge, i_lt, i_le, i_eq, i_clamp, i_upd, i_m1, Int32.toInt_toInt64, Int32.toInt_add, Int32.toInt_sub, Int32.toInt_mul, bm32, Int32.reduceToInt, Int64.reduceToInt, Nat.reduceLT, Nat.reduceEqDiff, reduceIte] <;> omega)) (by first | omega | (simp (disch := omega) only [↓i_in, ↓i_isCouple, ↓i_isBridge, ↓i_isTheme, ↓i_isBarge, i_lt, i_le, i_eq, i_clamp, i_upd, i_m1, Int32.toInt_toInt64, Int32.toInt_add, Int32.toInt_sub, Int32.toInt_mul, bm32, Int32.reduceToInt, Int64.reduceToInt, Nat.reduceLT, Nat.reduceEqDiff, reduceIte] <;> omega)) (by first | omega | (simp (disch := omega) only [↓i_in, ↓i_isCouple, ↓i_isBridge, ↓i_isTheme, ↓i_isBarge, i_lt, i_le, i_eq, i_clamp, i_upd, i_m1, Int32.toInt_toInt64, Int32.toInt_add, Int32.toInt_sub, Int32.toInt_mul, bm32, Int32.reduceToInt, Int64.reduceToInt, Nat.reduceLT, Nat.reduceEqDiff, reduceIte] <;> omega)) (by first | omega | (simp (disch := omega) only [↓i_in, ↓i_isCouple, ↓i_isBridge, ↓i_isTheme, ↓i_isBarge, i_lt, i_le, i_eq, i_clamp, i_upd, i_m1, Int32.toInt_toInt64, Int32.toInt_add, Int32.toInt_sub, Int32.toInt_mul, bm32, Int32.reduceToInt, Int64.reduceToInt, Nat.reduceLT, Nat.reduceEqDiff, reduceIte] <;> omega))), ?_⟩
      exact trivial
set_option maxHeartbeats 4000000 in
theorem s_undo {G : Nat → Int32} {f0 : Nat → Int32} (h_0 : GI G) : S_m_undo G f0 := by
  unfold S_m_undo
  have h_0_g := h_0
  obtain ⟨⟨h_0_2a, h_0_2b⟩, ⟨h_0_3a, h_0_3b⟩, ⟨h_0_4a, h_0_4b⟩, ⟨h_0_5a, h_0_5b⟩, ⟨h_0_6a, h_0_6b⟩, ⟨h_0_14a, h_0_14b⟩, ⟨h_0_42a, h_0_42b⟩⟩ := h_0_g
  refine ⟨fun c_1 => ?_, fun c_1 => ?_⟩
  · exact trivial
  · skip
    try simp (disch := omega) only [↓i_in, ↓i_isCouple, ↓i_isBridge, ↓i_isTheme, ↓i_isBarge, i_lt, i_le, i_eq, i_clamp, i_upd, i_m1, Int32.toInt_toInt64, Int32.toInt_add, Int32.toInt_sub, Int32.toInt_mul, bm32, Int32.reduceToInt, Int64.reduceToInt, Nat.reduceLT, Nat.reduceEqDiff, reduceIte] at c_1
    refine ⟨(s_copy (by first | omega | (simp (disch := omega) only [↓i_in, ↓i_isCouple, ↓i_isBridge, ↓i_isTheme, ↓i_isBarge, i_lt, i_le, i_eq, i_clamp, i_upd, i_m1, Int32.toInt_toInt64, Int32.toInt_add, Int32.toInt_sub, Int32.toInt_mul, bm32, Int32.reduceToInt, Int64.reduceToInt, Nat.reduceLT, Nat.reduceEqDiff, reduceIte] <;> omega)) (by first | omega | (simp (disch := omega) only [↓i_in, ↓i_isCouple, ↓i_isBridge, ↓i_isTheme, ↓i_isBarge, i_lt, i_le, i_eq, i_clamp, i_upd, i_m1, Int32.toInt_toInt64, Int32.toInt_add, Int32.toInt_sub, Int32.toInt_mul, bm32, Int32.reduceToInt, Int64.reduceToInt, Nat.reduceLT, Nat.reduceEqDiff, reduceIte] <;> omega)) (by first | omega | (simp (disch := omega) only [↓i_in, ↓i_isCouple, ↓i_isBridge, ↓i_isTheme, ↓i_isBarge, i_lt, i_le, i_eq, i_clamp, i_upd, i_m1, Int32.toInt_toInt64, Int32.toInt_add, Int32.toInt_sub, Int32.toInt_mul, bm32, Int32.reduceToInt, Int64.reduceToInt, Nat.reduceLT, Nat.reduceEqDiff, reduceIte] <;> omega)) (by first | omega | (simp (disch := omega) only [↓i_in, ↓i_isCouple, ↓i_isBridge, ↓i_isTheme, ↓i_isBarge, i_lt, i_le, i_eq, i_clamp, i_upd, i_m1, Int32.toInt_toInt64, Int32.toInt_add, Int32.toInt_sub, Int32.toInt_mul, bm32, Int32.reduceToInt, Int64.reduceToInt, Nat.reduceLT, Nat.reduceEqDiff, reduceIte] <;> omega))), ?_⟩
    exact trivial
set_option maxHeartbeats 4000000 in
theorem s_send {G : Nat → Int32} {f0 : Nat → Int32} {c_ : Int32} {b_ : Int32} {t_ : Int32} (h_0 : GI G) (h_1 : WI f0) : S_m_send G f0 c_ b_ t_ := by
  unfold S_m_send
  have h_0_g := h_0
  obtain ⟨⟨h_0_2a, h_0_2b⟩, ⟨h_0_3a, h_0_3b⟩, ⟨h_0_4a, h_0_4b⟩, ⟨h_0_5a, h_0_5b⟩, ⟨h_0_6a, h_0_6b⟩, ⟨h_0_14a, h_0_14b⟩, ⟨h_0_42a, h_0_42b⟩⟩ := h_0_g
  refine ⟨s_isCouple, ?_⟩
  refine ⟨fun c_1 => ?_, fun c_1 => ?_⟩
  · exact trivial
  · skip
    try simp (disch := omega) only [↓i_in, ↓i_isCouple, ↓i_isBridge, ↓i_isTheme, ↓i_isBarge, i_lt, i_le, i_eq, i_clamp, i_upd, i_m1, Int32.toInt_toInt64, Int32.toInt_add, Int32.toInt_sub, Int32.toInt_mul, bm32, Int32.reduceToInt, Int64.reduceToInt, Nat.reduceLT, Nat.reduceEqDiff, reduceIte] at c_1
    refine ⟨s_isBridge, ?_⟩
    refine ⟨fun c_2 => ?_, fun c_2 => ?_⟩
    · exact trivial
    · skip
      try simp (disch := omega) only [↓i_in, ↓i_isCouple, ↓i_isBridge, ↓i_isTheme, ↓i_isBarge, i_lt, i_le, i_eq, i_clamp, i_upd, i_m1, Int32.toInt_toInt64, Int32.toInt_add, Int32.toInt_sub, Int32.toInt_mul, bm32, Int32.reduceToInt, Int64.reduceToInt, Nat.reduceLT, Nat.reduceEqDiff, reduceIte] at c_2
      refine ⟨s_isTheme, ?_⟩
      refine ⟨fun c_3 => ?_, fun c_3 => ?_⟩
      · exact trivial
      · skip
        try simp (disch := omega) only [↓i_in, ↓i_isCouple, ↓i_isBridge, ↓i_isTheme, ↓i_isBarge, i_lt, i_le, i_eq, i_clamp, i_upd, i_m1, Int32.toInt_toInt64, Int32.toInt_add, Int32.toInt_sub, Int32.toInt_mul, bm32, Int32.reduceToInt, Int64.reduceToInt, Nat.reduceLT, Nat.reduceEqDiff, reduceIte] at c_3
        refine ⟨(s_whoIsAt h_0 (by first | omega | (simp (disch := omega) only [↓i_in, ↓i_isCouple, ↓i_isBridge, ↓i_isTheme, ↓i_isBarge, i_lt, i_le, i_eq, i_clamp, i_upd, i_m1, Int32.toInt_toInt64, Int32.toInt_add, Int32.toInt_sub, Int32.toInt_mul, bm32, Int32.reduceToInt, Int64.reduceToInt, Nat.reduceLT, Nat.reduceEqDiff, reduceIte] <;> omega)) (by first | omega | (simp (disch := omega) only [↓i_in, ↓i_isCouple, ↓i_isBridge, ↓i_isTheme, ↓i_isBarge, i_lt, i_le, i_eq, i_clamp, i_upd, i_m1, Int32.toInt_toInt64, Int32.toInt_add, Int32.toInt_sub, Int32.toInt_mul, bm32, Int32.reduceToInt, Int64.reduceToInt, Nat.reduceLT, Nat.reduceEqDiff, reduceIte] <;> omega))), ?_⟩
        have v_4 := p_whoIsAt (G := G) (f0 := f0) (h_ := 0) (b_ := b_) h_0 (by first | omega | (simp (disch := omega) only [↓i_in, ↓i_isCouple, ↓i_isBridge, ↓i_isTheme, ↓i_isBarge, i_lt, i_le, i_eq, i_clamp, i_upd, i_m1, Int32.toInt_toInt64, Int32.toInt_add, Int32.toInt_sub, Int32.toInt_mul, bm32, Int32.reduceToInt, Int64.reduceToInt, Nat.reduceLT, Nat.reduceEqDiff, reduceIte] <;> omega)) (by first | omega | (simp (disch := omega) only [↓i_in, ↓i_isCouple, ↓i_isBridge, ↓i_isTheme, ↓i_isBarge, i_lt, i_le, i_eq, i_clamp, i_upd, i_m1, Int32.toInt_toInt64, Int32.toInt_add, Int32.toInt_sub, Int32.toInt_mul, bm32, Int32.reduceToInt, Int64.reduceToInt, Nat.reduceLT, Nat.reduceEqDiff, reduceIte] <;> omega))
        try simp (disch := omega) only [↓i_in, ↓i_isCouple, ↓i_isBridge, ↓i_isTheme, ↓i_isBarge, i_lt, i_le, i_eq, i_clamp, i_upd, i_m1, Int32.toInt_toInt64, Int32.toInt_add, Int32.toInt_sub, Int32.toInt_mul, bm32, Int32.reduceToInt, Int64.reduceToInt, Nat.reduceLT, Nat.reduceEqDiff, reduceIte] at v_4
        refine ⟨s_isDone, ?_⟩
        refine ⟨fun c_5 => ?_, fun c_5 => ?_⟩
        · skip
          try simp (disch := omega) only [↓i_in, ↓i_isCouple, ↓i_isBridge, ↓i_isTheme, ↓i_isBarge, i_lt, i_le, i_eq, i_clamp, i_upd, i_m1, Int32.toInt_toInt64, Int32.toInt_add, Int32.toInt_sub, Int32.toInt_mul, bm32, Int32.reduceToInt, Int64.reduceToInt, Nat.reduceLT, Nat.reduceEqDiff, reduceIte] at c_5
          refine ⟨fun c_6 => ?_, fun c_6 => ?_⟩
          · skip
            try simp (disch := omega) only [↓i_in, ↓i_isCouple, ↓i_isBridge, ↓i_isTheme, ↓i_isBarge, i_lt, i_le, i_eq, i_clamp, i_upd, i_m1, Int32.toInt_toInt64, Int32.toInt_add, Int32.toInt_sub, Int32.toInt_mul, bm32, Int32.reduceToInt, Int64.reduceToInt, Nat.reduceLT, Nat.reduceEqDiff, reduceIte] at c_6
            refine ⟨(s_minds h_0 h_1), ?_⟩
            intro o_24 o_25 e_7
            have p_8 := p_minds h_0 h_1 _ _ e_7.symm
            obtain ⟨i_9, i_10, i_11⟩ := p_8
            have i_9_g := i_9
            obtain ⟨⟨i_9_2a, i_9_2b⟩, ⟨i_9_3a, i_9_3b⟩, ⟨i_9_4a, i_9_4b⟩, ⟨i_9_5a, i_9_5b⟩, ⟨i_9_6a, i_9_6b⟩, ⟨i_9_14a, i_9_14b⟩, ⟨i_9_42a, i_9_42b⟩⟩ := i_9_g
            have o_24_3 := i_11 3 (by decide)
            have o_24_4 := i_11 4 (by decide)
            have o_24_5 := i_11 5 (by decide)
            have o_24_6 := i_11 6 (by decide)
            have o_24_14 := i_11 14 (by decide)
            have o_24_42 := i_11 42 (by decide)
            refine ⟨vp_in_iff.mpr (by first | omega | (simp (disch := omega) only [↓i_in, ↓i_isCouple, ↓i_isBridge, ↓i_isTheme, ↓i_isBarge, i_lt, i_le, i_eq, i_clamp, i_upd, i_m1, Int32.toInt_toInt64, Int32.toInt_add, Int32.toInt_sub, Int32.toInt_mul, bm32, Int32.reduceToInt, Int64.reduceToInt, Nat.reduceLT, Nat.reduceEqDiff, reduceIte, o_24_3, o_24_4, o_24_5, o_24_6, o_24_14, o_24_42] <;> omega)), ?_⟩
            refine ⟨vp_in_iff.mpr (by first | omega | (simp (disch := omega) only [↓i_in, ↓i_isCouple, ↓i_isBridge, ↓i_isTheme, ↓i_isBarge, i_lt, i_le, i_eq, i_clamp, i_upd, i_m1, Int32.toInt_toInt64, Int32.toInt_add, Int32.toInt_sub, Int32.toInt_mul, bm32, Int32.reduceToInt, Int64.reduceToInt, Nat.reduceLT, Nat.reduceEqDiff, reduceIte, o_24_3, o_24_4, o_24_5, o_24_6, o_24_14, o_24_42] <;> omega)), ?_⟩
            refine ⟨vp_in_iff.mpr (by first | omega | (simp (disch := omega) only [↓i_in, ↓i_isCouple, ↓i_isBridge, ↓i_isTheme, ↓i_isBarge, i_lt, i_le, i_eq, i_clamp, i_upd, i_m1, Int32.toInt_toInt64, Int32.toInt_add, Int32.toInt_sub, Int32.toInt_mul, bm32, Int32.reduceToInt, Int64.reduceToInt, Nat.reduceLT, Nat.reduceEqDiff, reduceIte, o_24_3, o_24_4, o_24_5, o_24_6, o_24_14, o_24_42] <;> omega)), ?_⟩
            exact trivial
          · skip
            try simp (disch := omega) only [↓i_in, ↓i_isCouple, ↓i_isBridge, ↓i_isTheme, ↓i_isBarge, i_lt, i_le, i_eq, i_clamp, i_upd, i_m1, Int32.toInt_toInt64, Int32.toInt_add, Int32.toInt_sub, Int32.toInt_mul, bm32, Int32.reduceToInt, Int64.reduceToInt, Nat.reduceLT, Nat.reduceEqDiff, reduceIte] at c_6
            refine ⟨fun c_12 => ?_, fun c_12 => ?_⟩
            · skip
              try simp (disch := omega) only [↓i_in, ↓i_isCouple, ↓i_isBridge, ↓i_isTheme, ↓i_isBarge, i_lt, i_le, i_eq, i_clamp, i_upd, i_m1, Int32.toInt_toInt64, Int32.toInt_add, Int32.toInt_sub, Int32.toInt_mul, bm32, Int32.reduceToInt, Int64.reduceToInt, Nat.reduceLT, Nat.reduceEqDiff, reduceIte] at c_12
              refine ⟨(s_minds h_0 h_1), ?_⟩
              intro o_33 o_34 e_13
              have p_14 := p_minds h_0 h_1 _ _ e_13.symm
              obtain ⟨i_15, i_16, i_17⟩ := p_14
              have i_15_g := i_15
              obtain ⟨⟨i_15_2a, i_15_2b⟩, ⟨i_15_3a, i_15_3b⟩, ⟨i_15_4a, i_15_4b⟩, ⟨i_15_5a, i_15_5b⟩, ⟨i_15_6a, i_15_6b⟩, ⟨i_15_14a, i_15_14b⟩, ⟨i_15_42a, i_15_42b⟩⟩ := i_15_g
              have o_33_3 := i_17 3 (by decide)
              have o_33_4 := i_17 4 (by decide)
              have o_33_5 := i_17 5 (by decide)
              have o_33_6 := i_17 6 (by decide)
              have o_33_14 := i_17 14 (by decide)
              have o_33_42 := i_17 42 (by decide)
              refine ⟨vp_in_iff.mpr (by first | omega | (simp (disch := omega) only [↓i_in, ↓i_isCouple, ↓i_isBridge, ↓i_isTheme, ↓i_isBarge, i_lt, i_le, i_eq, i_clamp, i_upd, i_m1, Int32.toInt_toInt64, Int32.toInt_add, Int32.toInt_sub, Int32.toInt_mul, bm32, Int32.reduceToInt, Int64.reduceToInt, Nat.reduceLT, Nat.reduceEqDiff, reduceIte, o_33_3, o_33_4, o_33_5, o_33_6, o_33_14, o_33_42] <;> omega)), ?_⟩
              refine ⟨vp_in_iff.mpr (by first | omega | (simp (disch := omega) only [↓i_in, ↓i_isCouple, ↓i_isBridge, ↓i_isTheme, ↓i_isBarge, i_lt, i_le, i_eq, i_clamp, i_upd, i_m1, Int32.toInt_toInt64, Int32.toInt_add, Int32.toInt_sub, Int32.toInt_mul, bm32, Int32.reduceToInt, Int64.reduceToInt, Nat.reduceLT, Nat.reduceEqDiff, reduceIte, o_33_3, o_33_4, o_33_5, o_33_6, o_33_14, o_33_42] <;> omega)), ?_⟩
              refine ⟨vp_in_iff.mpr (by first | omega | (simp (disch := omega) only [↓i_in, ↓i_isCouple, ↓i_isBridge, ↓i_isTheme, ↓i_isBarge, i_lt, i_le, i_eq, i_clamp, i_upd, i_m1, Int32.toInt_toInt64, Int32.toInt_add, Int32.toInt_sub, Int32.toInt_mul, bm32, Int32.reduceToInt, Int64.reduceToInt, Nat.reduceLT, Nat.reduceEqDiff, reduceIte, o_33_3, o_33_4, o_33_5, o_33_6, o_33_14, o_33_42] <;> omega)), ?_⟩
              exact trivial
            · exact trivial
        · exact trivial
set_option maxHeartbeats 4000000 in
theorem s_home {G : Nat → Int32} {f0 : Nat → Int32} {c_ : Int32} (h_0 : GI G) (h_1 : WI f0) : S_m_home G f0 c_ := by
  unfold S_m_home
  have h_0_g := h_0
  obtain ⟨⟨h_0_2a, h_0_2b⟩, ⟨h_0_3a, h_0_3b⟩, ⟨h_0_4a, h_0_4b⟩, ⟨h_0_5a, h_0_5b⟩, ⟨h_0_6a, h_0_6b⟩, ⟨h_0_14a, h_0_14b⟩, ⟨h_0_42a, h_0_42b⟩⟩ := h_0_g
  refine ⟨s_isCouple, ?_⟩
  refine ⟨fun c_1 => ?_, fun c_1 => ?_⟩
  · exact trivial
  · skip
    try simp (disch := omega) only [↓i_in, ↓i_isCouple, ↓i_isBridge, ↓i_isTheme, ↓i_isBarge, i_lt, i_le, i_eq, i_clamp, i_upd, i_m1, Int32.toInt_toInt64, Int32.toInt_add, Int32.toInt_sub, Int32.toInt_mul, bm32, Int32.reduceToInt, Int64.reduceToInt, Nat.reduceLT, Nat.reduceEqDiff, reduceIte] at c_1
    refine ⟨vp_in_iff.mpr (by first | omega | (simp (disch := omega) only [↓i_in, ↓i_isCouple, ↓i_isBridge, ↓i_isTheme, ↓i_isBarge, i_lt, i_le, i_eq, i_clamp, i_upd, i_m1, Int32.toInt_toInt64, Int32.toInt_add, Int32.toInt_sub, Int32.toInt_mul, bm32, Int32.reduceToInt, Int64.reduceToInt, Nat.reduceLT, Nat.reduceEqDiff, reduceIte] <;> omega)), ?_⟩
    refine ⟨fun c_2 => ?_, fun c_2 => ?_⟩
    · exact trivial
    · skip
      try simp (disch := omega) only [↓i_in, ↓i_isCouple, ↓i_isBridge, ↓i_isTheme, ↓i_isBarge, i_lt, i_le, i_eq, i_clamp, i_upd, i_m1, Int32.toInt_toInt64, Int32.toInt_add, Int32.toInt_sub, Int32.toInt_mul, bm32, Int32.reduceToInt, Int64.reduceToInt, Nat.reduceLT, Nat.reduceEqDiff, reduceIte] at c_2
      refine ⟨(s_minds h_0 h_1), ?_⟩
      intro o_10 o_11 e_3
      have p_4 := p_minds h_0 h_1 _ _ e_3.symm
      obtain ⟨i_5, i_6, i_7⟩ := p_4
      have i_5_g := i_5
      obtain ⟨⟨i_5_2a, i_5_2b⟩, ⟨i_5_3a, i_5_3b⟩, ⟨i_5_4a, i_5_4b⟩, ⟨i_5_5a, i_5_5b⟩, ⟨i_5_6a, i_5_6b⟩, ⟨i_5_14a, i_5_14b⟩, ⟨i_5_42a, i_5_42b⟩⟩ := i_5_g
      have o_10_3 := i_7 3 (by decide)
      have o_10_4 := i_7 4 (by decide)
      have o_10_5 := i_7 5 (by decide)
      have o_10_6 := i_7 6 (by decide)
      have o_10_14 := i_7 14 (by decide)
      have o_10_42 := i_7 42 (by decide)
      refine ⟨vp_in_iff.mpr (by first | omega | (simp (disch := omega) only [↓i_in, ↓i_isCouple, ↓i_isBridge, ↓i_isTheme, ↓i_isBarge, i_lt, i_le, i_eq, i_clamp, i_upd, i_m1, Int32.toInt_toInt64, Int32.toInt_add, Int32.toInt_sub, Int32.toInt_mul, bm32, Int32.reduceToInt, Int64.reduceToInt, Nat.reduceLT, Nat.reduceEqDiff, reduceIte, o_10_3, o_10_4, o_10_5, o_10_6, o_10_14, o_10_42] <;> omega)), ?_⟩
      exact trivial
set_option maxHeartbeats 4000000 in
theorem s_grieve {G : Nat → Int32} {f0 : Nat → Int32} {c_ : Int32} {v_ : Int32} (h_0 : GI G) (h_1 : WI f0) : S_m_grieve G f0 c_ v_ := by
  unfold S_m_grieve
  have h_0_g := h_0
  obtain ⟨⟨h_0_2a, h_0_2b⟩, ⟨h_0_3a, h_0_3b⟩, ⟨h_0_4a, h_0_4b⟩, ⟨h_0_5a, h_0_5b⟩, ⟨h_0_6a, h_0_6b⟩, ⟨h_0_14a, h_0_14b⟩, ⟨h_0_42a, h_0_42b⟩⟩ := h_0_g
  refine ⟨s_isCouple, ?_⟩
  refine ⟨fun c_1 => ?_, fun c_1 => ?_⟩
  · exact trivial
  · skip
    try simp (disch := omega) only [↓i_in, ↓i_isCouple, ↓i_isBridge, ↓i_isTheme, ↓i_isBarge, i_lt, i_le, i_eq, i_clamp, i_upd, i_m1, Int32.toInt_toInt64, Int32.toInt_add, Int32.toInt_sub, Int32.toInt_mul, bm32, Int32.reduceToInt, Int64.reduceToInt, Nat.reduceLT, Nat.reduceEqDiff, reduceIte] at c_1
    refine ⟨s_in, ?_⟩
    refine ⟨fun c_2 => ?_, fun c_2 => ?_⟩
    · exact trivial
    · skip
      try simp (disch := omega) only [↓i_in, ↓i_isCouple, ↓i_isBridge, ↓i_isTheme, ↓i_isBarge, i_lt, i_le, i_eq, i_clamp, i_upd, i_m1, Int32.toInt_toInt64, Int32.toInt_add, Int32.toInt_sub, Int32.toInt_mul, bm32, Int32.reduceToInt, Int64.reduceToInt, Nat.reduceLT, Nat.reduceEqDiff, reduceIte] at c_2
      refine ⟨s_isDone, ?_⟩
      refine ⟨fun c_3 => ?_, fun c_3 => ?_⟩
      · skip
        try simp (disch := omega) only [↓i_in, ↓i_isCouple, ↓i_isBridge, ↓i_isTheme, ↓i_isBarge, i_lt, i_le, i_eq, i_clamp, i_upd, i_m1, Int32.toInt_toInt64, Int32.toInt_add, Int32.toInt_sub, Int32.toInt_mul, bm32, Int32.reduceToInt, Int64.reduceToInt, Nat.reduceLT, Nat.reduceEqDiff, reduceIte] at c_3
        refine ⟨(s_minds h_0 h_1), ?_⟩
        intro o_16 o_17 e_4
        have p_5 := p_minds h_0 h_1 _ _ e_4.symm
        obtain ⟨i_6, i_7, i_8⟩ := p_5
        have i_6_g := i_6
        obtain ⟨⟨i_6_2a, i_6_2b⟩, ⟨i_6_3a, i_6_3b⟩, ⟨i_6_4a, i_6_4b⟩, ⟨i_6_5a, i_6_5b⟩, ⟨i_6_6a, i_6_6b⟩, ⟨i_6_14a, i_6_14b⟩, ⟨i_6_42a, i_6_42b⟩⟩ := i_6_g
        have o_16_3 := i_8 3 (by decide)
        have o_16_4 := i_8 4 (by decide)
        have o_16_5 := i_8 5 (by decide)
        have o_16_6 := i_8 6 (by decide)
        have o_16_14 := i_8 14 (by decide)
        have o_16_42 := i_8 42 (by decide)
        refine ⟨(s_grieves (by first | omega | (simp (disch := omega) only [↓i_in, ↓i_isCouple, ↓i_isBridge, ↓i_isTheme, ↓i_isBarge, i_lt, i_le, i_eq, i_clamp, i_upd, i_m1, Int32.toInt_toInt64, Int32.toInt_add, Int32.toInt_sub, Int32.toInt_mul, bm32, Int32.reduceToInt, Int64.reduceToInt, Nat.reduceLT, Nat.reduceEqDiff, reduceIte, o_16_3, o_16_4, o_16_5, o_16_6, o_16_14, o_16_42] <;> omega)) (by first | omega | (simp (disch := omega) only [↓i_in, ↓i_isCouple, ↓i_isBridge, ↓i_isTheme, ↓i_isBarge, i_lt, i_le, i_eq, i_clamp, i_upd, i_m1, Int32.toInt_toInt64, Int32.toInt_add, Int32.toInt_sub, Int32.toInt_mul, bm32, Int32.reduceToInt, Int64.reduceToInt, Nat.reduceLT, Nat.reduceEqDiff, reduceIte, o_16_3, o_16_4, o_16_5, o_16_6, o_16_14, o_16_42] <;> omega))), ?_⟩
        refine ⟨vp_in_iff.mpr (by first | omega | (simp (disch := omega) only [↓i_in, ↓i_isCouple, ↓i_isBridge, ↓i_isTheme, ↓i_isBarge, i_lt, i_le, i_eq, i_clamp, i_upd, i_m1, Int32.toInt_toInt64, Int32.toInt_add, Int32.toInt_sub, Int32.toInt_mul, bm32, Int32.reduceToInt, Int64.reduceToInt, Nat.reduceLT, Nat.reduceEqDiff, reduceIte, o_16_3, o_16_4, o_16_5, o_16_6, o_16_14, o_16_42] <;> omega)), ?_⟩
        exact trivial
      · exact trivial
set_option maxHeartbeats 4000000 in
theorem p_opens {G : Nat → Int32} {f0 : Nat → Int32} {f10 : Nat → Int32} {f8 : Nat → Int32} {c_ : Int32} {b_ : Int32} {t_ : Int32} : ∀ (r : Int32) (u : (Nat → Int32)), f_m_opens G f0 f10 f8 c_ b_ t_ = (r, u) → QG G u := by
  intro r u e
  unfold f_m_opens at e
  by_cases c_1 : ((f_m_quarrels G f10 c_ t_ (f0 ((0 + c_) : Int32).toNatClampNeg) (f8 (b_ : Int32).toNatClampNeg)) 34) = 0
  · rw [if_pos c_1] at e
    try simp (disch := omega) only [↓i_in, ↓i_isCouple, ↓i_isBridge, ↓i_isTheme, ↓i_isBarge, i_lt, i_le, i_eq, i_clamp, i_upd, i_m1, Int32.toInt_toInt64, Int32.toInt_add, Int32.toInt_sub, Int32.toInt_mul, bm32, Int32.reduceToInt, Int64.reduceToInt, Nat.reduceLT, Nat.reduceEqDiff, reduceIte] at c_1
    cases e
    exact (QG.trans (QG.refl _) p_quarrels)
  · rw [if_neg c_1] at e
    try simp (disch := omega) only [↓i_in, ↓i_isCouple, ↓i_isBridge, ↓i_isTheme, ↓i_isBarge, i_lt, i_le, i_eq, i_clamp, i_upd, i_m1, Int32.toInt_toInt64, Int32.toInt_add, Int32.toInt_sub, Int32.toInt_mul, bm32, Int32.reduceToInt, Int64.reduceToInt, Nat.reduceLT, Nat.reduceEqDiff, reduceIte] at c_1
    by_cases c_2 : (f_m_isDone f0 c_) = 0
    · rw [if_pos c_2] at e
      try simp (disch := omega) only [↓i_in, ↓i_isCouple, ↓i_isBridge, ↓i_isTheme, ↓i_isBarge, i_lt, i_le, i_eq, i_clamp, i_upd, i_m1, Int32.toInt_toInt64, Int32.toInt_add, Int32.toInt_sub, Int32.toInt_mul, bm32, Int32.reduceToInt, Int64.reduceToInt, Nat.reduceLT, Nat.reduceEqDiff, reduceIte] at c_2
      cases e
      exact (QG.trans (QG.refl _) p_quarrels)
    · rw [if_neg c_2] at e
      try simp (disch := omega) only [↓i_in, ↓i_isCouple, ↓i_isBridge, ↓i_isTheme, ↓i_isBarge, i_lt, i_le, i_eq, i_clamp, i_upd, i_m1, Int32.toInt_toInt64, Int32.toInt_add, Int32.toInt_sub, Int32.toInt_mul, bm32, Int32.reduceToInt, Int64.reduceToInt, Nat.reduceLT, Nat.reduceEqDiff, reduceIte] at c_2
      cases e
      exact (QG.trans (QG.refl _) p_quarrels)
set_option maxHeartbeats 4000000 in
theorem s_opens {G : Nat → Int32} {f0 : Nat → Int32} {f10 : Nat → Int32} {f8 : Nat → Int32} {c_ : Int32} {b_ : Int32} {t_ : Int32} (h_0 : 0 ≤ c_.toInt) (h_1 : c_.toInt < 6) (h_2 : 0 ≤ b_.toInt) (h_3 : b_.toInt < 6) (h_4 : 0 ≤ t_.toInt) (h_5 : t_.toInt < 5) : S_m_opens G f0 f10 f8 c_ b_ t_ := by
  unfold S_m_opens
  refine ⟨vp_in_iff.mpr (by first | omega | (simp (disch := omega) only [↓i_in, ↓i_isCouple, ↓i_isBridge, ↓i_isTheme, ↓i_isBarge, i_lt, i_le, i_eq, i_clamp, i_upd, i_m1, Int32.toInt_toInt64, Int32.toInt_add, Int32.toInt_sub, Int32.toInt_mul, bm32, Int32.reduceToInt, Int64.reduceToInt, Nat.reduceLT, Nat.reduceEqDiff, reduceIte] <;> omega)), ?_⟩
  refine ⟨vp_in_iff.mpr (by first | omega | (simp (disch := omega) only [↓i_in, ↓i_isCouple, ↓i_isBridge, ↓i_isTheme, ↓i_isBarge, i_lt, i_le, i_eq, i_clamp, i_upd, i_m1, Int32.toInt_toInt64, Int32.toInt_add, Int32.toInt_sub, Int32.toInt_mul, bm32, Int32.reduceToInt, Int64.reduceToInt, Nat.reduceLT, Nat.reduceEqDiff, reduceIte] <;> omega)), ?_⟩
  refine ⟨(s_quarrels (by first | omega | (simp (disch := omega) only [↓i_in, ↓i_isCouple, ↓i_isBridge, ↓i_isTheme, ↓i_isBarge, i_lt, i_le, i_eq, i_clamp, i_upd, i_m1, Int32.toInt_toInt64, Int32.toInt_add, Int32.toInt_sub, Int32.toInt_mul, bm32, Int32.reduceToInt, Int64.reduceToInt, Nat.reduceLT, Nat.reduceEqDiff, reduceIte] <;> omega)) (by first | omega | (simp (disch := omega) only [↓i_in, ↓i_isCouple, ↓i_isBridge, ↓i_isTheme, ↓i_isBarge, i_lt, i_le, i_eq, i_clamp, i_upd, i_m1, Int32.toInt_toInt64, Int32.toInt_add, Int32.toInt_sub, Int32.toInt_mul, bm32, Int32.reduceToInt, Int64.reduceToInt, Nat.reduceLT, Nat.reduceEqDiff, reduceIte] <;> omega)) (by first | omega | (simp (disch := omega) only [↓i_in, ↓i_isCouple, ↓i_isBridge, ↓i_isTheme, ↓i_isBarge, i_lt, i_le, i_eq, i_clamp, i_upd, i_m1, Int32.toInt_toInt64, Int32.toInt_add, Int32.toInt_sub, Int32.toInt_mul, bm32, Int32.reduceToInt, Int64.reduceToInt, Nat.reduceLT, Nat.reduceEqDiff, reduceIte] <;> omega)) (by first | omega | (simp (disch := omega) only [↓i_in, ↓i_isCouple, ↓i_isBridge, ↓i_isTheme, ↓i_isBarge, i_lt, i_le, i_eq, i_clamp, i_upd, i_m1, Int32.toInt_toInt64, Int32.toInt_add, Int32.toInt_sub, Int32.toInt_mul, bm32, Int32.reduceToInt, Int64.reduceToInt, Nat.reduceLT, Nat.reduceEqDiff, reduceIte] <;> omega))), ?_⟩
  refine ⟨fun c_1 => ?_, fun c_1 => ?_⟩
  · exact trivial
  · skip
    try simp (disch := omega) only [↓i_in, ↓i_isCouple, ↓i_isBridge, ↓i_isTheme, ↓i_isBarge, i_lt, i_le, i_eq, i_clamp, i_upd, i_m1, Int32.toInt_toInt64, Int32.toInt_add, Int32.toInt_sub, Int32.toInt_mul, bm32, Int32.reduceToInt, Int64.reduceToInt, Nat.reduceLT, Nat.reduceEqDiff, reduceIte] at c_1
    refine ⟨s_isDone, ?_⟩
    refine ⟨fun c_2 => ?_, fun c_2 => ?_⟩
    · exact trivial
    · exact trivial
set_option maxHeartbeats 4000000 in
theorem p_could {G : Nat → Int32} {f0 : Nat → Int32} {f10 : Nat → Int32} {f8 : Nat → Int32} {c_ : Int32} {b_ : Int32} {t_ : Int32} {w_ : Int32} : ∀ (r : Int32) (u : (Nat → Int32)), f_m_could G f0 f10 f8 c_ b_ t_ w_ = (r, u) → QG G u := by
  intro r u e
  unfold f_m_could at e
  by_cases c_1 : (f_m_isCouple G c_) = 0
  · rw [if_pos c_1] at e
    try simp (disch := omega) only [↓i_in, ↓i_isCouple, ↓i_isBridge, ↓i_isTheme, ↓i_isBarge, i_lt, i_le, i_eq, i_clamp, i_upd, i_m1, Int32.toInt_toInt64, Int32.toInt_add, Int32.toInt_sub, Int32.toInt_mul, bm32, Int32.reduceToInt, Int64.reduceToInt, Nat.reduceLT, Nat.reduceEqDiff, reduceIte] at c_1
    cases e
    exact (QG.refl _)
  · rw [if_neg c_1] at e
    try simp (disch := omega) only [↓i_in, ↓i_isCouple, ↓i_isBridge, ↓i_isTheme, ↓i_isBarge, i_lt, i_le, i_eq, i_clamp, i_upd, i_m1, Int32.toInt_toInt64, Int32.toInt_add, Int32.toInt_sub, Int32.toInt_mul, bm32, Int32.reduceToInt, Int64.reduceToInt, Nat.reduceLT, Nat.reduceEqDiff, reduceIte] at c_1
    by_cases c_2 : (f_m_isBridge G b_) = 0
    · rw [if_pos c_2] at e
      try simp (disch := omega) only [↓i_in, ↓i_isCouple, ↓i_isBridge, ↓i_isTheme, ↓i_isBarge, i_lt, i_le, i_eq, i_clamp, i_upd, i_m1, Int32.toInt_toInt64, Int32.toInt_add, Int32.toInt_sub, Int32.toInt_mul, bm32, Int32.reduceToInt, Int64.reduceToInt, Nat.reduceLT, Nat.reduceEqDiff, reduceIte] at c_2
      cases e
      exact (QG.refl _)
    · rw [if_neg c_2] at e
      try simp (disch := omega) only [↓i_in, ↓i_isCouple, ↓i_isBridge, ↓i_isTheme, ↓i_isBarge, i_lt, i_le, i_eq, i_clamp, i_upd, i_m1, Int32.toInt_toInt64, Int32.toInt_add, Int32.toInt_sub, Int32.toInt_mul, bm32, Int32.reduceToInt, Int64.reduceToInt, Nat.reduceLT, Nat.reduceEqDiff, reduceIte] at c_2
      by_cases c_3 : (f_m_isTheme G t_) = 0
      · rw [if_pos c_3] at e
        try simp (disch := omega) only [↓i_in, ↓i_isCouple, ↓i_isBridge, ↓i_isTheme, ↓i_isBarge, i_lt, i_le, i_eq, i_clamp, i_upd, i_m1, Int32.toInt_toInt64, Int32.toInt_add, Int32.toInt_sub, Int32.toInt_mul, bm32, Int32.reduceToInt, Int64.reduceToInt, Nat.reduceLT, Nat.reduceEqDiff, reduceIte] at c_3
        cases e
        exact (QG.refl _)
      · rw [if_neg c_3] at e
        try simp (disch := omega) only [↓i_in, ↓i_isCouple, ↓i_isBridge, ↓i_isTheme, ↓i_isBarge, i_lt, i_le, i_eq, i_clamp, i_upd, i_m1, Int32.toInt_toInt64, Int32.toInt_add, Int32.toInt_sub, Int32.toInt_mul, bm32, Int32.reduceToInt, Int64.reduceToInt, Nat.reduceLT, Nat.reduceEqDiff, reduceIte] at c_3
        by_cases c_4 : (f_m_in w_.toInt64 0 1) = 0
        · rw [if_pos c_4] at e
          try simp (disch := omega) only [↓i_in, ↓i_isCouple, ↓i_isBridge, ↓i_isTheme, ↓i_isBarge, i_lt, i_le, i_eq, i_clamp, i_upd, i_m1, Int32.toInt_toInt64, Int32.toInt_add, Int32.toInt_sub, Int32.toInt_mul, bm32, Int32.reduceToInt, Int64.reduceToInt, Nat.reduceLT, Nat.reduceEqDiff, reduceIte] at c_4
          cases e
          exact (QG.refl _)
        · rw [if_neg c_4] at e
          try simp (disch := omega) only [↓i_in, ↓i_isCouple, ↓i_isBridge, ↓i_isTheme, ↓i_isBarge, i_lt, i_le, i_eq, i_clamp, i_upd, i_m1, Int32.toInt_toInt64, Int32.toInt_add, Int32.toInt_sub, Int32.toInt_mul, bm32, Int32.reduceToInt, Int64.reduceToInt, Nat.reduceLT, Nat.reduceEqDiff, reduceIte] at c_4
          generalize x_5 : (f_m_opens G f0 f10 f8 c_ b_ t_) = z_6 at e
          obtain ⟨r_19, u_18⟩ := z_6
          replace e : ((if r_19 = 0 then ((-1), u_18) else (if w_ = 0 then ((u_18 32), u_18) else (((f0 ((0 + c_) : Int32).toNatClampNeg) - (u_18 33)), u_18)))) = (r, u) := e
          have p_7 := p_opens _ _ x_5
          have i_8 := p_7
          obtain ⟨u_18_2, u_18_3, u_18_4, u_18_5, u_18_6, u_18_14, u_18_42⟩ := QGs i_8
          by_cases c_9 : r_19 = 0
          · rw [if_pos c_9] at e
            try simp (disch := omega) only [↓i_in, ↓i_isCouple, ↓i_isBridge, ↓i_isTheme, ↓i_isBarge, i_lt, i_le, i_eq, i_clamp, i_upd, i_m1, Int32.toInt_toInt64, Int32.toInt_add, Int32.toInt_sub, Int32.toInt_mul, bm32, Int32.reduceToInt, Int64.reduceToInt, Nat.reduceLT, Nat.reduceEqDiff, reduceIte, u_18_2, u_18_3, u_18_4, u_18_5, u_18_6, u_18_14, u_18_42] at c_9
            cases e
            exact i_8
          · rw [if_neg c_9] at e
            try simp (disch := omega) only [↓i_in, ↓i_isCouple, ↓i_isBridge, ↓i_isTheme, ↓i_isBarge, i_lt, i_le, i_eq, i_clamp, i_upd, i_m1, Int32.toInt_toInt64, Int32.toInt_add, Int32.toInt_sub, Int32.toInt_mul, bm32, Int32.reduceToInt, Int64.reduceToInt, Nat.reduceLT, Nat.reduceEqDiff, reduceIte, u_18_2, u_18_3, u_18_4, u_18_5, u_18_6, u_18_14, u_18_42] at c_9
            by_cases c_10 : w_ = 0
            · rw [if_pos c_10] at e
              try simp (disch := omega) only [↓i_in, ↓i_isCouple, ↓i_isBridge, ↓i_isTheme, ↓i_isBarge, i_lt, i_le, i_eq, i_clamp, i_upd, i_m1, Int32.toInt_toInt64, Int32.toInt_add, Int32.toInt_sub, Int32.toInt_mul, bm32, Int32.reduceToInt, Int64.reduceToInt, Nat.reduceLT, Nat.reduceEqDiff, reduceIte, u_18_2, u_18_3, u_18_4, u_18_5, u_18_6, u_18_14, u_18_42] at c_10
              cases e
              exact i_8
            · rw [if_neg c_10] at e
              try simp (disch := omega) only [↓i_in, ↓i_isCouple, ↓i_isBridge, ↓i_isTheme, ↓i_isBarge, i_lt, i_le, i_eq, i_clamp, i_upd, i_m1, Int32.toInt_toInt64, Int32.toInt_add, Int32.toInt_sub, Int32.toInt_mul, bm32, Int32.reduceToInt, Int64.reduceToInt, Nat.reduceLT, Nat.reduceEqDiff, reduceIte, u_18_2, u_18_3, u_18_4, u_18_5, u_18_6, u_18_14, u_18_42] at c_10
              cases e
              exact i_8
set_option maxHeartbeats 4000000 in
theorem s_could {G : Nat → Int32} {f0 : Nat → Int32} {f10 : Nat → Int32} {f8 : Nat → Int32} {c_ : Int32} {b_ : Int32} {t_ : Int32} {w_ : Int32} (h_0 : GI G) : S_m_could G f0 f10 f8 c_ b_ t_ w_ := by
  unfold S_m_could
  have h_0_g := h_0
  obtain ⟨⟨h_0_2a, h_0_2b⟩, ⟨h_0_3a, h_0_3b⟩, ⟨h_0_4a, h_0_4b⟩, ⟨h_0_5a, h_0_5b⟩, ⟨h_0_6a, h_0_6b⟩, ⟨h_0_14a, h_0_14b⟩, ⟨h_0_42a, h_0_42b⟩⟩ := h_0_g
  refine ⟨s_isCouple, ?_⟩
  refine ⟨fun c_1 => ?_, fun c_1 => ?_⟩
  · exact trivial
  · skip
    try simp (disch := omega) only [↓i_in, ↓i_isCouple, ↓i_isBridge, ↓i_isTheme, ↓i_isBarge, i_lt, i_le, i_eq, i_clamp, i_upd, i_m1, Int32.toInt_toInt64, Int32.toInt_add, Int32.toInt_sub, Int32.toInt_mul, bm32, Int32.reduceToInt, Int64.reduceToInt, Nat.reduceLT, Nat.reduceEqDiff, reduceIte] at c_1
    refine ⟨s_isBridge, ?_⟩
    refine ⟨fun c_2 => ?_, fun c_2 => ?_⟩
    · exact trivial
    · skip
      try simp (disch := omega) only [↓i_in, ↓i_isCouple, ↓i_isBridge, ↓i_isTheme, ↓i_isBarge, i_lt, i_le, i_eq, i_clamp, i_upd, i_m1, Int32.toInt_toInt64, Int32.toInt_add, Int32.toInt_sub, Int32.toInt_mul, bm32, Int32.reduceToInt, Int64.reduceToInt, Nat.reduceLT, Nat.reduceEqDiff, reduceIte] at c_2
      refine ⟨s_isTheme, ?_⟩
      refine ⟨fun c_3 => ?_, fun c_3 => ?_⟩
      · exact trivial
      · skip
        try simp (disch := omega) only [↓i_in, ↓i_isCouple, ↓i_isBridge, ↓i_isTheme, ↓i_isBarge, i_lt, i_le, i_eq, i_clamp, i_upd, i_m1, Int32.toInt_toInt64, Int32.toInt_add, Int32.toInt_sub, Int32.toInt_mul, bm32, Int32.reduceToInt, Int64.reduceToInt, Nat.reduceLT, Nat.reduceEqDiff, reduceIte] at c_3
        refine ⟨s_in, ?_⟩
        refine ⟨fun c_4 => ?_, fun c_4 => ?_⟩
        · exact trivial
        · skip
          try simp (disch := omega) only [↓i_in, ↓i_isCouple, ↓i_isBridge, ↓i_isTheme, ↓i_isBarge, i_lt, i_le, i_eq, i_clamp, i_upd, i_m1, Int32.toInt_toInt64, Int32.toInt_add, Int32.toInt_sub, Int32.toInt_mul, bm32, Int32.reduceToInt, Int64.reduceToInt, Nat.reduceLT, Nat.reduceEqDiff, reduceIte] at c_4
          refine ⟨(s_opens (by first | omega | (simp (disch := omega) only [↓i_in, ↓i_isCouple, ↓i_isBridge, ↓i_isTheme, ↓i_isBarge, i_lt, i_le, i_eq, i_clamp, i_upd, i_m1, Int32.toInt_toInt64, Int32.toInt_add, Int32.toInt_sub, Int32.toInt_mul, bm32, Int32.reduceToInt, Int64.reduceToInt, Nat.reduceLT, Nat.reduceEqDiff, reduceIte] <;> omega)) (by first | omega | (simp (disch := omega) only [↓i_in, ↓i_isCouple, ↓i_isBridge, ↓i_isTheme, ↓i_isBarge, i_lt, i_le, i_eq, i_clamp, i_upd, i_m1, Int32.toInt_toInt64, Int32.toInt_add, Int32.toInt_sub, Int32.toInt_mul, bm32, Int32.reduceToInt, Int64.reduceToInt, Nat.reduceLT, Nat.reduceEqDiff, reduceIte] <;> omega)) (by first | omega | (simp (disch := omega) only [↓i_in, ↓i_isCouple, ↓i_isBridge, ↓i_isTheme, ↓i_isBarge, i_lt, i_le, i_eq, i_clamp, i_upd, i_m1, Int32.toInt_toInt64, Int32.toInt_add, Int32.toInt_sub, Int32.toInt_mul, bm32, Int32.reduceToInt, Int64.reduceToInt, Nat.reduceLT, Nat.reduceEqDiff, reduceIte] <;> omega)) (by first | omega | (simp (disch := omega) only [↓i_in, ↓i_isCouple, ↓i_isBridge, ↓i_isTheme, ↓i_isBarge, i_lt, i_le, i_eq, i_clamp, i_upd, i_m1, Int32.toInt_toInt64, Int32.toInt_add, Int32.toInt_sub, Int32.toInt_mul, bm32, Int32.reduceToInt, Int64.reduceToInt, Nat.reduceLT, Nat.reduceEqDiff, reduceIte] <;> omega)) (by first | omega | (simp (disch := omega) only [↓i_in, ↓i_isCouple, ↓i_isBridge, ↓i_isTheme, ↓i_isBarge, i_lt, i_le, i_eq, i_clamp, i_upd, i_m1, Int32.toInt_toInt64, Int32.toInt_add, Int32.toInt_sub, Int32.toInt_mul, bm32, Int32.reduceToInt, Int64.reduceToInt, Nat.reduceLT, Nat.reduceEqDiff, reduceIte] <;> omega)) (by first | omega | (simp (disch := omega) only [↓i_in, ↓i_isCouple, ↓i_isBridge, ↓i_isTheme, ↓i_isBarge, i_lt, i_le, i_eq, i_clamp, i_upd, i_m1, Int32.toInt_toInt64, Int32.toInt_add, Int32.toInt_sub, Int32.toInt_mul, bm32, Int32.reduceToInt, Int64.reduceToInt, Nat.reduceLT, Nat.reduceEqDiff, reduceIte] <;> omega))), ?_⟩
          intro r_19 u_18 e_5
          have p_6 := p_opens _ _ e_5.symm
          have i_7 := p_6
          obtain ⟨u_18_2, u_18_3, u_18_4, u_18_5, u_18_6, u_18_14, u_18_42⟩ := QGs i_7
          refine ⟨fun c_8 => ?_, fun c_8 => ?_⟩
          · exact trivial
          · skip
            try simp (disch := omega) only [↓i_in, ↓i_isCouple, ↓i_isBridge, ↓i_isTheme, ↓i_isBarge, i_lt, i_le, i_eq, i_clamp, i_upd, i_m1, Int32.toInt_toInt64, Int32.toInt_add, Int32.toInt_sub, Int32.toInt_mul, bm32, Int32.reduceToInt, Int64.reduceToInt, Nat.reduceLT, Nat.reduceEqDiff, reduceIte, u_18_2, u_18_3, u_18_4, u_18_5, u_18_6, u_18_14, u_18_42] at c_8
            refine ⟨fun c_9 => ?_, fun c_9 => ?_⟩
            · exact trivial
            · skip
              try simp (disch := omega) only [↓i_in, ↓i_isCouple, ↓i_isBridge, ↓i_isTheme, ↓i_isBarge, i_lt, i_le, i_eq, i_clamp, i_upd, i_m1, Int32.toInt_toInt64, Int32.toInt_add, Int32.toInt_sub, Int32.toInt_mul, bm32, Int32.reduceToInt, Int64.reduceToInt, Nat.reduceLT, Nat.reduceEqDiff, reduceIte, u_18_2, u_18_3, u_18_4, u_18_5, u_18_6, u_18_14, u_18_42] at c_9
              refine ⟨vp_in_iff.mpr (by first | omega | (simp (disch := omega) only [↓i_in, ↓i_isCouple, ↓i_isBridge, ↓i_isTheme, ↓i_isBarge, i_lt, i_le, i_eq, i_clamp, i_upd, i_m1, Int32.toInt_toInt64, Int32.toInt_add, Int32.toInt_sub, Int32.toInt_mul, bm32, Int32.reduceToInt, Int64.reduceToInt, Nat.reduceLT, Nat.reduceEqDiff, reduceIte, u_18_2, u_18_3, u_18_4, u_18_5, u_18_6, u_18_14, u_18_42] <;> omega)), ?_⟩
              exact trivial
set_option maxHeartbeats 4000000 in
theorem p_lastsOf {G : Nat → Int32} {f0 : Nat → Int32} {f10 : Nat → Int32} {c_ : Int32} {t_ : Int32} : ∀ (r : Int32) (u : (Nat → Int32)), f_m_lastsOf G f0 f10 c_ t_ = (r, u) → QG G u := by
  intro r u e
  unfold f_m_lastsOf at e
  by_cases c_1 : ((f_m_quarrels G f10 c_ t_ (f0 ((0 + c_) : Int32).toNatClampNeg) 1000000000) 33) = 0
  · rw [if_pos c_1] at e
    try simp (disch := omega) only [↓i_in, ↓i_isCouple, ↓i_isBridge, ↓i_isTheme, ↓i_isBarge, i_lt, i_le, i_eq, i_clamp, i_upd, i_m1, Int32.toInt_toInt64, Int32.toInt_add, Int32.toInt_sub, Int32.toInt_mul, bm32, Int32.reduceToInt, Int64.reduceToInt, Nat.reduceLT, Nat.reduceEqDiff, reduceIte] at c_1
    by_cases c_2 : ((f_m_quarrels G f10 c_ t_ (f0 ((0 + c_) : Int32).toNatClampNeg) 1000000000) 32) ≤ 0
    · rw [if_pos c_2] at e
      try simp (disch := omega) only [↓i_in, ↓i_isCouple, ↓i_isBridge, ↓i_isTheme, ↓i_isBarge, i_lt, i_le, i_eq, i_clamp, i_upd, i_m1, Int32.toInt_toInt64, Int32.toInt_add, Int32.toInt_sub, Int32.toInt_mul, bm32, Int32.reduceToInt, Int64.reduceToInt, Nat.reduceLT, Nat.reduceEqDiff, reduceIte] at c_2
      cases e
      exact (QG.trans (QG.refl _) p_quarrels)
    · rw [if_neg c_2] at e
      try simp (disch := omega) only [↓i_in, ↓i_isCouple, ↓i_isBridge, ↓i_isTheme, ↓i_isBarge, i_lt, i_le, i_eq, i_clamp, i_upd, i_m1, Int32.toInt_toInt64, Int32.toInt_add, Int32.toInt_sub, Int32.toInt_mul, bm32, Int32.reduceToInt, Int64.reduceToInt, Nat.reduceLT, Nat.reduceEqDiff, reduceIte] at c_2
      cases e
      exact (QG.trans (QG.refl _) p_quarrels)
  · rw [if_neg c_1] at e
    try simp (disch := omega) only [↓i_in, ↓i_isCouple, ↓i_isBridge, ↓i_isTheme, ↓i_isBarge, i_lt, i_le, i_eq, i_clamp, i_upd, i_m1, Int32.toInt_toInt64, Int32.toInt_add, Int32.toInt_sub, Int32.toInt_mul, bm32, Int32.reduceToInt, Int64.reduceToInt, Nat.reduceLT, Nat.reduceEqDiff, reduceIte] at c_1
    cases e
    exact (QG.trans (QG.refl _) p_quarrels)
set_option maxHeartbeats 4000000 in
theorem s_lastsOf {G : Nat → Int32} {f0 : Nat → Int32} {f10 : Nat → Int32} {c_ : Int32} {t_ : Int32} (h_0 : 0 ≤ c_.toInt) (h_1 : c_.toInt < 6) (h_2 : 0 ≤ t_.toInt) (h_3 : t_.toInt < 5) : S_m_lastsOf G f0 f10 c_ t_ := by
  unfold S_m_lastsOf
  refine ⟨vp_in_iff.mpr (by first | omega | (simp (disch := omega) only [↓i_in, ↓i_isCouple, ↓i_isBridge, ↓i_isTheme, ↓i_isBarge, i_lt, i_le, i_eq, i_clamp, i_upd, i_m1, Int32.toInt_toInt64, Int32.toInt_add, Int32.toInt_sub, Int32.toInt_mul, bm32, Int32.reduceToInt, Int64.reduceToInt, Nat.reduceLT, Nat.reduceEqDiff, reduceIte] <;> omega)), ?_⟩
  refine ⟨(s_quarrels (by first | omega | (simp (disch := omega) only [↓i_in, ↓i_isCouple, ↓i_isBridge, ↓i_isTheme, ↓i_isBarge, i_lt, i_le, i_eq, i_clamp, i_upd, i_m1, Int32.toInt_toInt64, Int32.toInt_add, Int32.toInt_sub, Int32.toInt_mul, bm32, Int32.reduceToInt, Int64.reduceToInt, Nat.reduceLT, Nat.reduceEqDiff, reduceIte] <;> omega)) (by first | omega | (simp (disch := omega) only [↓i_in, ↓i_isCouple, ↓i_isBridge, ↓i_isTheme, ↓i_isBarge, i_lt, i_le, i_eq, i_clamp, i_upd, i_m1, Int32.toInt_toInt64, Int32.toInt_add, Int32.toInt_sub, Int32.toInt_mul, bm32, Int32.reduceToInt, Int64.reduceToInt, Nat.reduceLT, Nat.reduceEqDiff, reduceIte] <;> omega)) (by first | omega | (simp (disch := omega) only [↓i_in, ↓i_isCouple, ↓i_isBridge, ↓i_isTheme, ↓i_isBarge, i_lt, i_le, i_eq, i_clamp, i_upd, i_m1, Int32.toInt_toInt64, Int32.toInt_add, Int32.toInt_sub, Int32.toInt_mul, bm32, Int32.reduceToInt, Int64.reduceToInt, Nat.reduceLT, Nat.reduceEqDiff, reduceIte] <;> omega)) (by first | omega | (simp (disch := omega) only [↓i_in, ↓i_isCouple, ↓i_isBridge, ↓i_isTheme, ↓i_isBarge, i_lt, i_le, i_eq, i_clamp, i_upd, i_m1, Int32.toInt_toInt64, Int32.toInt_add, Int32.toInt_sub, Int32.toInt_mul, bm32, Int32.reduceToInt, Int64.reduceToInt, Nat.reduceLT, Nat.reduceEqDiff, reduceIte] <;> omega))), ?_⟩
  refine ⟨fun c_1 => ?_, fun c_1 => ?_⟩
  · skip
    try simp (disch := omega) only [↓i_in, ↓i_isCouple, ↓i_isBridge, ↓i_isTheme, ↓i_isBarge, i_lt, i_le, i_eq, i_clamp, i_upd, i_m1, Int32.toInt_toInt64, Int32.toInt_add, Int32.toInt_sub, Int32.toInt_mul, bm32, Int32.reduceToInt, Int64.reduceToInt, Nat.reduceLT, Nat.reduceEqDiff, reduceIte] at c_1
    refine ⟨fun c_2 => ?_, fun c_2 => ?_⟩
    · exact trivial
    · exact trivial
  · exact trivial
set_option maxHeartbeats 4000000 in
theorem p_lasts {G : Nat → Int32} {f0 : Nat → Int32} {f10 : Nat → Int32} {c_ : Int32} {t_ : Int32} : ∀ (r : Int32) (u : (Nat → Int32)), f_m_lasts G f0 f10 c_ t_ = (r, u) → QG G u := by
  intro r u e
  unfold f_m_lasts at e
  by_cases c_1 : (f_m_isCouple G c_) = 0
  · rw [if_pos c_1] at e
    try simp (disch := omega) only [↓i_in, ↓i_isCouple, ↓i_isBridge, ↓i_isTheme, ↓i_isBarge, i_lt, i_le, i_eq, i_clamp, i_upd, i_m1, Int32.toInt_toInt64, Int32.toInt_add, Int32.toInt_sub, Int32.toInt_mul, bm32, Int32.reduceToInt, Int64.reduceToInt, Nat.reduceLT, Nat.reduceEqDiff, reduceIte] at c_1
    cases e
    exact (QG.refl _)
  · rw [if_neg c_1] at e
    try simp (disch := omega) only [↓i_in, ↓i_isCouple, ↓i_isBridge, ↓i_isTheme, ↓i_isBarge, i_lt, i_le, i_eq, i_clamp, i_upd, i_m1, Int32.toInt_toInt64, Int32.toInt_add, Int32.toInt_sub, Int32.toInt_mul, bm32, Int32.reduceToInt, Int64.reduceToInt, Nat.reduceLT, Nat.reduceEqDiff, reduceIte] at c_1
    by_cases c_2 : (f_m_isTheme G t_) = 0
    · rw [if_pos c_2] at e
      try simp (disch := omega) only [↓i_in, ↓i_isCouple, ↓i_isBridge, ↓i_isTheme, ↓i_isBarge, i_lt, i_le, i_eq, i_clamp, i_upd, i_m1, Int32.toInt_toInt64, Int32.toInt_add, Int32.toInt_sub, Int32.toInt_mul, bm32, Int32.reduceToInt, Int64.reduceToInt, Nat.reduceLT, Nat.reduceEqDiff, reduceIte] at c_2
      cases e
      exact (QG.refl _)
    · rw [if_neg c_2] at e
      try simp (disch := omega) only [↓i_in, ↓i_isCouple, ↓i_isBridge, ↓i_isTheme, ↓i_isBarge, i_lt, i_le, i_eq, i_clamp, i_upd, i_m1, Int32.toInt_toInt64, Int32.toInt_add, Int32.toInt_sub, Int32.toInt_mul, bm32, Int32.reduceToInt, Int64.reduceToInt, Nat.reduceLT, Nat.reduceEqDiff, reduceIte] at c_2
      by_cases c_3 : (f_m_isDone f0 c_) = 0
      · rw [if_pos c_3] at e
        try simp (disch := omega) only [↓i_in, ↓i_isCouple, ↓i_isBridge, ↓i_isTheme, ↓i_isBarge, i_lt, i_le, i_eq, i_clamp, i_upd, i_m1, Int32.toInt_toInt64, Int32.toInt_add, Int32.toInt_sub, Int32.toInt_mul, bm32, Int32.reduceToInt, Int64.reduceToInt, Nat.reduceLT, Nat.reduceEqDiff, reduceIte] at c_3
        generalize x_4 : (f_m_lastsOf G f0 f10 c_ t_) = z_5 at e
        obtain ⟨r_15, u_14⟩ := z_5
        replace e : ((r_15, u_14)) = (r, u) := e
        have p_6 := p_lastsOf _ _ x_4
        have i_7 := p_6
        obtain ⟨u_14_2, u_14_3, u_14_4, u_14_5, u_14_6, u_14_14, u_14_42⟩ := QGs i_7
        cases e
        exact i_7
      · rw [if_neg c_3] at e
        try simp (disch := omega) only [↓i_in, ↓i_isCouple, ↓i_isBridge, ↓i_isTheme, ↓i_isBarge, i_lt, i_le, i_eq, i_clamp, i_upd, i_m1, Int32.toInt_toInt64, Int32.toInt_add, Int32.toInt_sub, Int32.toInt_mul, bm32, Int32.reduceToInt, Int64.reduceToInt, Nat.reduceLT, Nat.reduceEqDiff, reduceIte] at c_3
        cases e
        exact (QG.refl _)
set_option maxHeartbeats 4000000 in
theorem s_lasts {G : Nat → Int32} {f0 : Nat → Int32} {f10 : Nat → Int32} {c_ : Int32} {t_ : Int32} (h_0 : GI G) : S_m_lasts G f0 f10 c_ t_ := by
  unfold S_m_lasts
  have h_0_g := h_0
  obtain ⟨⟨h_0_2a, h_0_2b⟩, ⟨h_0_3a, h_0_3b⟩, ⟨h_0_4a, h_0_4b⟩, ⟨h_0_5a, h_0_5b⟩, ⟨h_0_6a, h_0_6b⟩, ⟨h_0_14a, h_0_14b⟩, ⟨h_0_42a, h_0_42b⟩⟩ := h_0_g
  refine ⟨s_isCouple, ?_⟩
  refine ⟨fun c_1 => ?_, fun c_1 => ?_⟩
  · exact trivial
  · skip
    try simp (disch := omega) only [↓i_in, ↓i_isCouple, ↓i_isBridge, ↓i_isTheme, ↓i_isBarge, i_lt, i_le, i_eq, i_clamp, i_upd, i_m1, Int32.toInt_toInt64, Int32.toInt_add, Int32.toInt_sub, Int32.toInt_mul, bm32, Int32.reduceToInt, Int64.reduceToInt, Nat.reduceLT, Nat.reduceEqDiff, reduceIte] at c_1
    refine ⟨s_isTheme, ?_⟩
    refine ⟨fun c_2 => ?_, fun c_2 => ?_⟩
    · exact trivial
    · skip
      try simp (disch := omega) only [↓i_in, ↓i_isCouple, ↓i_isBridge, ↓i_isTheme, ↓i_isBarge, i_lt, i_le, i_eq, i_clamp, i_upd, i_m1, Int32.toInt_toInt64, Int32.toInt_add, Int32.toInt_sub, Int32.toInt_mul, bm32, Int32.reduceToInt, Int64.reduceToInt, Nat.reduceLT, Nat.reduceEqDiff, reduceIte] at c_2
      refine ⟨s_isDone, ?_⟩
      refine ⟨fun c_3 => ?_, fun c_3 => ?_⟩
      · skip
        try simp (disch := omega) only [↓i_in, ↓i_isCouple, ↓i_isBridge, ↓i_isTheme, ↓i_isBarge, i_lt, i_le, i_eq, i_clamp, i_upd, i_m1, Int32.toInt_toInt64, Int32.toInt_add, Int32.toInt_sub, Int32.toInt_mul, bm32, Int32.reduceToInt, Int64.reduceToInt, Nat.reduceLT, Nat.reduceEqDiff, reduceIte] at c_3
        refine ⟨(s_lastsOf (by first | omega | (simp (disch := omega) only [↓i_in, ↓i_isCouple, ↓i_isBridge, ↓i_isTheme, ↓i_isBarge, i_lt, i_le, i_eq, i_clamp, i_upd, i_m1, Int32.toInt_toInt64, Int32.toInt_add, Int32.toInt_sub, Int32.toInt_mul, bm32, Int32.reduceToInt, Int64.reduceToInt, Nat.reduceLT, Nat.reduceEqDiff, reduceIte] <;> omega)) (by first | omega | (simp (disch := omega) only [↓i_in, ↓i_isCouple, ↓i_isBridge, ↓i_isTheme, ↓i_isBarge, i_lt, i_le, i_eq, i_clamp, i_upd, i_m1, Int32.toInt_toInt64, Int32.toInt_add, Int32.toInt_sub, Int32.toInt_mul, bm32, Int32.reduceToInt, Int64.reduceToInt, Nat.reduceLT, Nat.reduceEqDiff, reduceIte] <;> omega)) (by first | omega | (simp (disch := omega) only [↓i_in, ↓i_isCouple, ↓i_isBridge, ↓i_isTheme, ↓i_isBarge, i_lt, i_le, i_eq, i_clamp, i_upd, i_m1, Int32.toInt_toInt64, Int32.toInt_add, Int32.toInt_sub, Int32.toInt_mul, bm32, Int32.reduceToInt, Int64.reduceToInt, Nat.reduceLT, Nat.reduceEqDiff, reduceIte] <;> omega)) (by first | omega | (simp (disch := omega) only [↓i_in, ↓i_isCouple, ↓i_isBridge, ↓i_isTheme, ↓i_isBarge, i_lt, i_le, i_eq, i_clamp, i_upd, i_m1, Int32.toInt_toInt64, Int32.toInt_add, Int32.toInt_sub, Int32.toInt_mul, bm32, Int32.reduceToInt, Int64.reduceToInt, Nat.reduceLT, Nat.reduceEqDiff, reduceIte] <;> omega))), ?_⟩
        intro r_15 u_14 e_4
        have p_5 := p_lastsOf _ _ e_4.symm
        have i_6 := p_5
        obtain ⟨u_14_2, u_14_3, u_14_4, u_14_5, u_14_6, u_14_14, u_14_42⟩ := QGs i_6
        exact trivial
      · exact trivial
end
section
set_option maxHeartbeats 4000000 in
theorem sl_best_17 {G : Nat → Int32} {f0 : Nat → Int32} {f10 : Nat → Int32} {f8 : Nat → Int32} {c_ : Int32} {b_ : Int32} {K : Int32 → Int32 → Int32 → (Nat → Int32) → Prop} (h_0 : GI G) (h_1 : 0 ≤ c_.toInt) (h_2 : c_.toInt < 6) (h_3 : 0 ≤ b_.toInt) (h_4 : b_.toInt < 6) (hK : ∀ w_1l5 w_1l4 w_1l3 w_1m0, (QG G w_1m0 ∧ (0 ≤ w_1l5.toInt) ∧ (w_1l5.toInt ≤ 5)) → K w_1l5 w_1l4 w_1l3 w_1m0) : ∀ (n : Nat) w_1l5 w_1l4 w_1l3 w_1m0, (QG G w_1m0 ∧ (0 ≤ w_1l5.toInt) ∧ (w_1l5.toInt ≤ 5)) → (6 - w_1l5.toInt).toNat < n → S_m_best_17 f0 f10 f8 c_ b_ K n w_1l5 w_1l4 w_1l3 w_1m0 := by
  have h_0_g := h_0
  obtain ⟨⟨h_0_2a, h_0_2b⟩, ⟨h_0_3a, h_0_3b⟩, ⟨h_0_4a, h_0_4b⟩, ⟨h_0_5a, h_0_5b⟩, ⟨h_0_6a, h_0_6b⟩, ⟨h_0_14a, h_0_14b⟩, ⟨h_0_42a, h_0_42b⟩⟩ := h_0_g
  intro n
  induction n with
  | zero => intro w_1l5 w_1l4 w_1l3 w_1m0 hI hm; exact absurd hm (Nat.not_lt_zero _)
  | succ n ih =>
    intro w_1l5 w_1l4 w_1l3 w_1m0 hI hm
    rw [S_m_best_17_s]
    have hI0 := hI
    obtain ⟨i_1, i_2, i_3⟩ := hI0
    obtain ⟨w_1m0_2, w_1m0_3, w_1m0_4, w_1m0_5, w_1m0_6, w_1m0_14, w_1m0_42⟩ := QGs i_1
    refine ⟨fun c_4 => ?_, fun c_4 => ?_⟩
    · skip
      try simp (disch := omega) only [↓i_in, ↓i_isCouple, ↓i_isBridge, ↓i_isTheme, ↓i_isBarge, i_lt, i_le, i_eq, i_clamp, i_upd, i_m1, Int32.toInt_toInt64, Int32.toInt_add, Int32.toInt_sub, Int32.toInt_mul, bm32, Int32.reduceToInt, Int64.reduceToInt, Nat.reduceLT, Nat.reduceEqDiff, reduceIte, w_1m0_2, w_1m0_3, w_1m0_4, w_1m0_5, w_1m0_6, w_1m0_14, w_1m0_42] at c_4
      exact hK w_1l5 w_1l4 w_1l3 w_1m0 hI
    · skip
      try simp (disch := omega) only [↓i_in, ↓i_isCouple, ↓i_isBridge, ↓i_isTheme, ↓i_isBarge, i_lt, i_le, i_eq, i_clamp, i_upd, i_m1, Int32.toInt_toInt64, Int32.toInt_add, Int32.toInt_sub, Int32.toInt_mul, bm32, Int32.reduceToInt, Int64.reduceToInt, Nat.reduceLT, Nat.reduceEqDiff, reduceIte, w_1m0_2, w_1m0_3, w_1m0_4, w_1m0_5, w_1m0_6, w_1m0_14, w_1m0_42] at c_4
      refine ⟨(s_opens (by first | omega | (simp (disch := omega) only [↓i_in, ↓i_isCouple, ↓i_isBridge, ↓i_isTheme, ↓i_isBarge, i_lt, i_le, i_eq, i_clamp, i_upd, i_m1, Int32.toInt_toInt64, Int32.toInt_add, Int32.toInt_sub, Int32.toInt_mul, bm32, Int32.reduceToInt, Int64.reduceToInt, Nat.reduceLT, Nat.reduceEqDiff, reduceIte, w_1m0_2, w_1m0_3, w_1m0_4, w_1m0_5, w_1m0_6, w_1m0_14, w_1m0_42] <;> omega)) (by first | omega | (simp (disch := omega) only [↓i_in, ↓i_isCouple, ↓i_isBridge, ↓i_isTheme, ↓i_isBarge, i_lt, i_le, i_eq, i_clamp, i_upd, i_m1, Int32.toInt_toInt64, Int32.toInt_add, Int32.toInt_sub, Int32.toInt_mul, bm32, Int32.reduceToInt, Int64.reduceToInt, Nat.reduceLT, Nat.reduceEqDiff, reduceIte, w_1m0_2, w_1m0_3, w_1m0_4, w_1m0_5, w_1m0_6, w_1m0_14, w_1m0_42] <;> omega)) (by first | omega | (simp (disch := omega) only [↓i_in, ↓i_isCouple, ↓i_isBridge, ↓i_isTheme, ↓i_isBarge, i_lt, i_le, i_eq, i_clamp, i_upd, i_m1, Int32.toInt_toInt64, Int32.toInt_add, Int32.toInt_sub, Int32.toInt_mul, bm32, Int32.reduceToInt, Int64.reduceToInt, Nat.reduceLT, Nat.reduceEqDiff, reduceIte, w_1m0_2, w_1m0_3, w_1m0_4, w_1m0_5, w_1m0_6, w_1m0_14, w_1m0_42] <;> omega)) (by first | omega | (simp (disch := omega) only [↓i_in, ↓i_isCouple, ↓i_isBridge, ↓i_isTheme, ↓i_isBarge, i_lt, i_le, i_eq, i_clamp, i_upd, i_m1, Int32.toInt_toInt64, Int32.toInt_add, Int32.toInt_sub, Int32.toInt_mul, bm32, Int32.reduceToInt, Int64.reduceToInt, Nat.reduceLT, Nat.reduceEqDiff, reduceIte, w_1m0_2, w_1m0_3, w_1m0_4, w_1m0_5, w_1m0_6, w_1m0_14, w_1m0_42] <;> omega)) (by first | omega | (simp (disch := omega) only [↓i_in, ↓i_isCouple, ↓i_isBridge, ↓i_isTheme, ↓i_isBarge, i_lt, i_le, i_eq, i_clamp, i_upd, i_m1, Int32.toInt_toInt64, Int32.toInt_add, Int32.toInt_sub, Int32.toInt_mul, bm32, Int32.reduceToInt, Int64.reduceToInt, Nat.reduceLT, Nat.reduceEqDiff, reduceIte, w_1m0_2, w_1m0_3, w_1m0_4, w_1m0_5, w_1m0_6, w_1m0_14, w_1m0_42] <;> omega)) (by first | omega | (simp (disch := omega) only [↓i_in, ↓i_isCouple, ↓i_isBridge, ↓i_isTheme, ↓i_isBarge, i_lt, i_le, i_eq, i_clamp, i_upd, i_m1, Int32.toInt_toInt64, Int32.toInt_add, Int32.toInt_sub, Int32.toInt_mul, bm32, Int32.reduceToInt, Int64.reduceToInt, Nat.reduceLT, Nat.reduceEqDiff, reduceIte, w_1m0_2, w_1m0_3, w_1m0_4, w_1m0_5, w_1m0_6, w_1m0_14, w_1m0_42] <;> omega))), ?_⟩
      intro r_5 u_4 e_5
      have p_6 := p_opens _ _ e_5.symm
      have i_7 := p_6
      replace i_7 := QG.trans i_1 i_7
      obtain ⟨u_4_2, u_4_3, u_4_4, u_4_5, u_4_6, u_4_14, u_4_42⟩ := QGs i_7
      refine ⟨fun c_8 => ?_, fun c_8 => ?_⟩
      · skip
        try simp (disch := omega) only [↓i_in, ↓i_isCouple, ↓i_isBridge, ↓i_isTheme, ↓i_isBarge, i_lt, i_le, i_eq, i_clamp, i_upd, i_m1, Int32.toInt_toInt64, Int32.toInt_add, Int32.toInt_sub, Int32.toInt_mul, bm32, Int32.reduceToInt, Int64.reduceToInt, Nat.reduceLT, Nat.reduceEqDiff, reduceIte, w_1m0_2, w_1m0_3, w_1m0_4, w_1m0_5, w_1m0_6, w_1m0_14, w_1m0_42, u_4_2, u_4_3, u_4_4, u_4_5, u_4_6, u_4_14, u_4_42] at c_8
        exact ih (w_1l5 + 1) w_1l4 w_1l3 u_4 (⟨i_7, (by first | omega | (simp (disch := omega) only [↓i_in, ↓i_isCouple, ↓i_isBridge, ↓i_isTheme, ↓i_isBarge, i_lt, i_le, i_eq, i_clamp, i_upd, i_m1, Int32.toInt_toInt64, Int32.toInt_add, Int32.toInt_sub, Int32.toInt_mul, bm32, Int32.reduceToInt, Int64.reduceToInt, Nat.reduceLT, Nat.reduceEqDiff, reduceIte, w_1m0_2, w_1m0_3, w_1m0_4, w_1m0_5, w_1m0_6, w_1m0_14, w_1m0_42, u_4_2, u_4_3, u_4_4, u_4_5, u_4_6, u_4_14, u_4_42] <;> omega)), (by first | omega | (simp (disch := omega) only [↓i_in, ↓i_isCouple, ↓i_isBridge, ↓i_isTheme, ↓i_isBarge, i_lt, i_le, i_eq, i_clamp, i_upd, i_m1, Int32.toInt_toInt64, Int32.toInt_add, Int32.toInt_sub, Int32.toInt_mul, bm32, Int32.reduceToInt, Int64.reduceToInt, Nat.reduceLT, Nat.reduceEqDiff, reduceIte, w_1m0_2, w_1m0_3, w_1m0_4, w_1m0_5, w_1m0_6, w_1m0_14, w_1m0_42, u_4_2, u_4_3, u_4_4, u_4_5, u_4_6, u_4_14, u_4_42] <;> omega))⟩) (by first | omega | (simp (disch := omega) only [↓i_in, ↓i_isCouple, ↓i_isBridge, ↓i_isTheme, ↓i_isBarge, i_lt, i_le, i_eq, i_clamp, i_upd, i_m1, Int32.toInt_toInt64, Int32.toInt_add, Int32.toInt_sub, Int32.toInt_mul, bm32, Int32.reduceToInt, Int64.reduceToInt, Nat.reduceLT, Nat.reduceEqDiff, reduceIte, w_1m0_2, w_1m0_3, w_1m0_4, w_1m0_5, w_1m0_6, w_1m0_14, w_1m0_42, u_4_2, u_4_3, u_4_4, u_4_5, u_4_6, u_4_14, u_4_42] <;> omega))
      · skip
        try simp (disch := omega) only [↓i_in, ↓i_isCouple, ↓i_isBridge, ↓i_isTheme, ↓i_isBarge, i_lt, i_le, i_eq, i_clamp, i_upd, i_m1, Int32.toInt_toInt64, Int32.toInt_add, Int32.toInt_sub, Int32.toInt_mul, bm32, Int32.reduceToInt, Int64.reduceToInt, Nat.reduceLT, Nat.reduceEqDiff, reduceIte, w_1m0_2, w_1m0_3, w_1m0_4, w_1m0_5, w_1m0_6, w_1m0_14, w_1m0_42, u_4_2, u_4_3, u_4_4, u_4_5, u_4_6, u_4_14, u_4_42] at c_8
        refine ⟨vp_in_iff.mpr (by first | omega | (simp (disch := omega) only [↓i_in, ↓i_isCouple, ↓i_isBridge, ↓i_isTheme, ↓i_isBarge, i_lt, i_le, i_eq, i_clamp, i_upd, i_m1, Int32.toInt_toInt64, Int32.toInt_add, Int32.toInt_sub, Int32.toInt_mul, bm32, Int32.reduceToInt, Int64.reduceToInt, Nat.reduceLT, Nat.reduceEqDiff, reduceIte, w_1m0_2, w_1m0_3, w_1m0_4, w_1m0_5, w_1m0_6, w_1m0_14, w_1m0_42, u_4_2, u_4_3, u_4_4, u_4_5, u_4_6, u_4_14, u_4_42] <;> omega)), ?_⟩
        refine ⟨fun c_9 => ?_, fun c_9 => ?_⟩
        · skip
          try simp (disch := omega) only [↓i_in, ↓i_isCouple, ↓i_isBridge, ↓i_isTheme, ↓i_isBarge, i_lt, i_le, i_eq, i_clamp, i_upd, i_m1, Int32.toInt_toInt64, Int32.toInt_add, Int32.toInt_sub, Int32.toInt_mul, bm32, Int32.reduceToInt, Int64.reduceToInt, Nat.reduceLT, Nat.reduceEqDiff, reduceIte, w_1m0_2, w_1m0_3, w_1m0_4, w_1m0_5, w_1m0_6, w_1m0_14, w_1m0_42, u_4_2, u_4_3, u_4_4, u_4_5, u_4_6, u_4_14, u_4_42] at c_9
          exact ih (w_1l5 + 1) (u_4 32) w_1l5 (upd u_4 35 ((f0 ((0 + c_) : Int32).toNatClampNeg) - (u_4 33))) (⟨(QG_upd i_7 (by decide) (by decide)), (by first | omega | (simp (disch := omega) only [↓i_in, ↓i_isCouple, ↓i_isBridge, ↓i_isTheme, ↓i_isBarge, i_lt, i_le, i_eq, i_clamp, i_upd, i_m1, Int32.toInt_toInt64, Int32.toInt_add, Int32.toInt_sub, Int32.toInt_mul, bm32, Int32.reduceToInt, Int64.reduceToInt, Nat.reduceLT, Nat.reduceEqDiff, reduceIte, w_1m0_2, w_1m0_3, w_1m0_4, w_1m0_5, w_1m0_6, w_1m0_14, w_1m0_42, u_4_2, u_4_3, u_4_4, u_4_5, u_4_6, u_4_14, u_4_42] <;> omega)), (by first | omega | (simp (disch := omega) only [↓i_in, ↓i_isCouple, ↓i_isBridge, ↓i_isTheme, ↓i_isBarge, i_lt, i_le, i_eq, i_clamp, i_upd, i_m1, Int32.toInt_toInt64, Int32.toInt_add, Int32.toInt_sub, Int32.toInt_mul, bm32, Int32.reduceToInt, Int64.reduceToInt, Nat.reduceLT, Nat.reduceEqDiff, reduceIte, w_1m0_2, w_1m0_3, w_1m0_4, w_1m0_5, w_1m0_6, w_1m0_14, w_1m0_42, u_4_2, u_4_3, u_4_4, u_4_5, u_4_6, u_4_14, u_4_42] <;> omega))⟩) (by first | omega | (simp (disch := omega) only [↓i_in, ↓i_isCouple, ↓i_isBridge, ↓i_isTheme, ↓i_isBarge, i_lt, i_le, i_eq, i_clamp, i_upd, i_m1, Int32.toInt_toInt64, Int32.toInt_add, Int32.toInt_sub, Int32.toInt_mul, bm32, Int32.reduceToInt, Int64.reduceToInt, Nat.reduceLT, Nat.reduceEqDiff, reduceIte, w_1m0_2, w_1m0_3, w_1m0_4, w_1m0_5, w_1m0_6, w_1m0_14, w_1m0_42, u_4_2, u_4_3, u_4_4, u_4_5, u_4_6, u_4_14, u_4_42] <;> omega))
        · skip
          try simp (disch := omega) only [↓i_in, ↓i_isCouple, ↓i_isBridge, ↓i_isTheme, ↓i_isBarge, i_lt, i_le, i_eq, i_clamp, i_upd, i_m1, Int32.toInt_toInt64, Int32.toInt_add, Int32.toInt_sub, Int32.toInt_mul, bm32, Int32.reduceToInt, Int64.reduceToInt, Nat.reduceLT, Nat.reduceEqDiff, reduceIte, w_1m0_2, w_1m0_3, w_1m0_4, w_1m0_5, w_1m0_6, w_1m0_14, w_1m0_42, u_4_2, u_4_3, u_4_4, u_4_5, u_4_6, u_4_14, u_4_42] at c_9
          refine ⟨fun c_10 => ?_, fun c_10 => ?_⟩
          · skip
            try simp (disch := omega) only [↓i_in, ↓i_isCouple, ↓i_isBridge, ↓i_isTheme, ↓i_isBarge, i_lt, i_le, i_eq, i_clamp, i_upd, i_m1, Int32.toInt_toInt64, Int32.toInt_add, Int32.toInt_sub, Int32.toInt_mul, bm32, Int32.reduceToInt, Int64.reduceToInt, Nat.reduceLT, Nat.reduceEqDiff, reduceIte, w_1m0_2, w_1m0_3, w_1m0_4, w_1m0_5, w_1m0_6, w_1m0_14, w_1m0_42, u_4_2, u_4_3, u_4_4, u_4_5, u_4_6, u_4_14, u_4_42] at c_10
            refine ⟨fun c_11 => ?_, fun c_11 => ?_⟩
            · skip
              try simp (disch := omega) only [↓i_in, ↓i_isCouple, ↓i_isBridge, ↓i_isTheme, ↓i_isBarge, i_lt, i_le, i_eq, i_clamp, i_upd, i_m1, Int32.toInt_toInt64, Int32.toInt_add, Int32.toInt_sub, Int32.toInt_mul, bm32, Int32.reduceToInt, Int64.reduceToInt, Nat.reduceLT, Nat.reduceEqDiff, reduceIte, w_1m0_2, w_1m0_3, w_1m0_4, w_1m0_5, w_1m0_6, w_1m0_14, w_1m0_42, u_4_2, u_4_3, u_4_4, u_4_5, u_4_6, u_4_14, u_4_42] at c_11
              exact ih (w_1l5 + 1) w_1l4 w_1l3 (upd u_4 35 (u_4 35)) (⟨(QG_upd i_7 (by decide) (by decide)), (by first | omega | (simp (disch := omega) only [↓i_in, ↓i_isCouple, ↓i_isBridge, ↓i_isTheme, ↓i_isBarge, i_lt, i_le, i_eq, i_clamp, i_upd, i_m1, Int32.toInt_toInt64, Int32.toInt_add, Int32.toInt_sub, Int32.toInt_mul, bm32, Int32.reduceToInt, Int64.reduceToInt, Nat.reduceLT, Nat.reduceEqDiff, reduceIte, w_1m0_2, w_1m0_3, w_1m0_4, w_1m0_5, w_1m0_6, w_1m0_14, w_1m0_42, u_4_2, u_4_3, u_4_4, u_4_5, u_4_6, u_4_14, u_4_42] <;> omega)), (by first | omega | (simp (disch := omega) only [↓i_in, ↓i_isCouple, ↓i_isBridge, ↓i_isTheme, ↓i_isBarge, i_lt, i_le, i_eq, i_clamp, i_upd, i_m1, Int32.toInt_toInt64, Int32.toInt_add, Int32.toInt_sub, Int32.toInt_mul, bm32, Int32.reduceToInt, Int64.reduceToInt, Nat.reduceLT, Nat.reduceEqDiff, reduceIte, w_1m0_2, w_1m0_3, w_1m0_4, w_1m0_5, w_1m0_6, w_1m0_14, w_1m0_42, u_4_2, u_4_3, u_4_4, u_4_5, u_4_6, u_4_14, u_4_42] <;> omega))⟩) (by first | omega | (simp (disch := omega) only [↓i_in, ↓i_isCouple, ↓i_isBridge, ↓i_isTheme, ↓i_isBarge, i_lt, i_le, i_eq, i_clamp, i_upd, i_m1, Int32.toInt_toInt64, Int32.toInt_add, Int32.toInt_sub, Int32.toInt_mul, bm32, Int32.reduceToInt, Int64.reduceToInt, Nat.reduceLT, Nat.reduceEqDiff, reduceIte, w_1m0_2, w_1m0_3, w_1m0_4, w_1m0_5, w_1m0_6, w_1m0_14, w_1m0_42, u_4_2, u_4_3, u_4_4, u_4_5, u_4_6, u_4_14, u_4_42] <;> omega))
            · skip
              try simp (disch := omega) only [↓i_in, ↓i_isCouple, ↓i_isBridge, ↓i_isTheme, ↓i_isBarge, i_lt, i_le, i_eq, i_clamp, i_upd, i_m1, Int32.toInt_toInt64, Int32.toInt_add, Int32.toInt_sub, Int32.toInt_mul, bm32, Int32.reduceToInt, Int64.reduceToInt, Nat.reduceLT, Nat.reduceEqDiff, reduceIte, w_1m0_2, w_1m0_3, w_1m0_4, w_1m0_5, w_1m0_6, w_1m0_14, w_1m0_42, u_4_2, u_4_3, u_4_4, u_4_5, u_4_6, u_4_14, u_4_42] at c_11
              exact ih (w_1l5 + 1) (u_4 32) w_1l5 (upd u_4 35 ((f0 ((0 + c_) : Int32).toNatClampNeg) - (u_4 33))) (⟨(QG_upd i_7 (by decide) (by decide)), (by first | omega | (simp (disch := omega) only [↓i_in, ↓i_isCouple, ↓i_isBridge, ↓i_isTheme, ↓i_isBarge, i_lt, i_le, i_eq, i_clamp, i_upd, i_m1, Int32.toInt_toInt64, Int32.toInt_add, Int32.toInt_sub, Int32.toInt_mul, bm32, Int32.reduceToInt, Int64.reduceToInt, Nat.reduceLT, Nat.reduceEqDiff, reduceIte, w_1m0_2, w_1m0_3, w_1m0_4, w_1m0_5, w_1m0_6, w_1m0_14, w_1m0_42, u_4_2, u_4_3, u_4_4, u_4_5, u_4_6, u_4_14, u_4_42] <;> omega)), (by first | omega | (simp (disch := omega) only [↓i_in, ↓i_isCouple, ↓i_isBridge, ↓i_isTheme, ↓i_isBarge, i_lt, i_le, i_eq, i_clamp, i_upd, i_m1, Int32.toInt_toInt64, Int32.toInt_add, Int32.toInt_sub, Int32.toInt_mul, bm32, Int32.reduceToInt, Int64.reduceToInt, Nat.reduceLT, Nat.reduceEqDiff, reduceIte, w_1m0_2, w_1m0_3, w_1m0_4, w_1m0_5, w_1m0_6, w_1m0_14, w_1m0_42, u_4_2, u_4_3, u_4_4, u_4_5, u_4_6, u_4_14, u_4_42] <;> omega))⟩) (by first | omega | (simp (disch := omega) only [↓i_in, ↓i_isCouple, ↓i_isBridge, ↓i_isTheme, ↓i_isBarge, i_lt, i_le, i_eq, i_clamp, i_upd, i_m1, Int32.toInt_toInt64, Int32.toInt_add, Int32.toInt_sub, Int32.toInt_mul, bm32, Int32.reduceToInt, Int64.reduceToInt, Nat.reduceLT, Nat.reduceEqDiff, reduceIte, w_1m0_2, w_1m0_3, w_1m0_4, w_1m0_5, w_1m0_6, w_1m0_14, w_1m0_42, u_4_2, u_4_3, u_4_4, u_4_5, u_4_6, u_4_14, u_4_42] <;> omega))
          · skip
            try simp (disch := omega) only [↓i_in, ↓i_isCouple, ↓i_isBridge, ↓i_isTheme, ↓i_isBarge, i_lt, i_le, i_eq, i_clamp, i_upd, i_m1, Int32.toInt_toInt64, Int32.toInt_add, Int32.toInt_sub, Int32.toInt_mul, bm32, Int32.reduceToInt, Int64.reduceToInt, Nat.reduceLT, Nat.reduceEqDiff, reduceIte, w_1m0_2, w_1m0_3, w_1m0_4, w_1m0_5, w_1m0_6, w_1m0_14, w_1m0_42, u_4_2, u_4_3, u_4_4, u_4_5, u_4_6, u_4_14, u_4_42] at c_10
            exact ih (w_1l5 + 1) w_1l4 w_1l3 (upd u_4 35 (u_4 35)) (⟨(QG_upd i_7 (by decide) (by decide)), (by first | omega | (simp (disch := omega) only [↓i_in, ↓i_isCouple, ↓i_isBridge, ↓i_isTheme, ↓i_isBarge, i_lt, i_le, i_eq, i_clamp, i_upd, i_m1, Int32.toInt_toInt64, Int32.toInt_add, Int32.toInt_sub, Int32.toInt_mul, bm32, Int32.reduceToInt, Int64.reduceToInt, Nat.reduceLT, Nat.reduceEqDiff, reduceIte, w_1m0_2, w_1m0_3, w_1m0_4, w_1m0_5, w_1m0_6, w_1m0_14, w_1m0_42, u_4_2, u_4_3, u_4_4, u_4_5, u_4_6, u_4_14, u_4_42] <;> omega)), (by first | omega | (simp (disch := omega) only [↓i_in, ↓i_isCouple, ↓i_isBridge, ↓i_isTheme, ↓i_isBarge, i_lt, i_le, i_eq, i_clamp, i_upd, i_m1, Int32.toInt_toInt64, Int32.toInt_add, Int32.toInt_sub, Int32.toInt_mul, bm32, Int32.reduceToInt, Int64.reduceToInt, Nat.reduceLT, Nat.reduceEqDiff, reduceIte, w_1m0_2, w_1m0_3, w_1m0_4, w_1m0_5, w_1m0_6, w_1m0_14, w_1m0_42, u_4_2, u_4_3, u_4_4, u_4_5, u_4_6, u_4_14, u_4_42] <;> omega))⟩) (by first | omega | (simp (disch := omega) only [↓i_in, ↓i_isCouple, ↓i_isBridge, ↓i_isTheme, ↓i_isBarge, i_lt, i_le, i_eq, i_clamp, i_upd, i_m1, Int32.toInt_toInt64, Int32.toInt_add, Int32.toInt_sub, Int32.toInt_mul, bm32, Int32.reduceToInt, Int64.reduceToInt, Nat.reduceLT, Nat.reduceEqDiff, reduceIte, w_1m0_2, w_1m0_3, w_1m0_4, w_1m0_5, w_1m0_6, w_1m0_14, w_1m0_42, u_4_2, u_4_3, u_4_4, u_4_5, u_4_6, u_4_14, u_4_42] <;> omega))
set_option maxHeartbeats 4000000 in
theorem pl_best_17 {G : Nat → Int32} {f0 : Nat → Int32} {f10 : Nat → Int32} {f8 : Nat → Int32} {c_ : Int32} {b_ : Int32} (h_0 : GI G) (h_1 : 0 ≤ c_.toInt) (h_2 : c_.toInt < 6) (h_3 : 0 ≤ b_.toInt) (h_4 : b_.toInt < 6) : ∀ (n : Nat) w_1l5 w_1l4 w_1l3 w_1m0, (QG G w_1m0 ∧ (0 ≤ w_1l5.toInt) ∧ (w_1l5.toInt ≤ 5)) → ∀ r0 r1 r2 r3, f_m_best_17 f0 f10 f8 c_ b_ n w_1l5 w_1l4 w_1l3 w_1m0 = (r0, r1, r2, r3) → QG G r3 ∧ (0 ≤ r0.toInt) ∧ (r0.toInt ≤ 5) := by
  have h_0_g := h_0
  obtain ⟨⟨h_0_2a, h_0_2b⟩, ⟨h_0_3a, h_0_3b⟩, ⟨h_0_4a, h_0_4b⟩, ⟨h_0_5a, h_0_5b⟩, ⟨h_0_6a, h_0_6b⟩, ⟨h_0_14a, h_0_14b⟩, ⟨h_0_42a, h_0_42b⟩⟩ := h_0_g
  intro n
  induction n with
  | zero =>
    intro w_1l5 w_1l4 w_1l3 w_1m0 hI r0 r1 r2 r3 e
    replace e : (w_1l5, w_1l4, w_1l3, w_1m0) = (r0, r1, r2, r3) := e
    cases e
    exact hI
  | succ n ih =>
    intro w_1l5 w_1l4 w_1l3 w_1m0 hI r0 r1 r2 r3 e
    rw [f_m_best_17_s] at e
    have hI0 := hI
    obtain ⟨i_1, i_2, i_3⟩ := hI0
    obtain ⟨w_1m0_2, w_1m0_3, w_1m0_4, w_1m0_5, w_1m0_6, w_1m0_14, w_1m0_42⟩ := QGs i_1
    by_cases c_4 : (w_1m0 4) ≤ w_1l5
    · rw [if_pos c_4] at e
      try simp (disch := omega) only [↓i_in, ↓i_isCouple, ↓i_isBridge, ↓i_isTheme, ↓i_isBarge, i_lt, i_le, i_eq, i_clamp, i_upd, i_m1, Int32.toInt_toInt64, Int32.toInt_add, Int32.toInt_sub, Int32.toInt_mul, bm32, Int32.reduceToInt, Int64.reduceToInt, Nat.reduceLT, Nat.reduceEqDiff, reduceIte, w_1m0_2, w_1m0_3, w_1m0_4, w_1m0_5, w_1m0_6, w_1m0_14, w_1m0_42] at c_4
      cases e
      exact hI
    · rw [if_neg c_4] at e
      try simp (disch := omega) only [↓i_in, ↓i_isCouple, ↓i_isBridge, ↓i_isTheme, ↓i_isBarge, i_lt, i_le, i_eq, i_clamp, i_upd, i_m1, Int32.toInt_toInt64, Int32.toInt_add, Int32.toInt_sub, Int32.toInt_mul, bm32, Int32.reduceToInt, Int64.reduceToInt, Nat.reduceLT, Nat.reduceEqDiff, reduceIte, w_1m0_2, w_1m0_3, w_1m0_4, w_1m0_5, w_1m0_6, w_1m0_14, w_1m0_42] at c_4
      generalize x_5 : (f_m_opens w_1m0 f0 f10 f8 c_ b_ w_1l5) = z_6 at e
      obtain ⟨r_5, u_4⟩ := z_6
      replace e : ((if r_5 = 0 then (f_m_best_17 f0 f10 f8 c_ b_ n (w_1l5 + 1) w_1l4 w_1l3 u_4) else (if (u_4 32) < w_1l4 then (f_m_best_17 f0 f10 f8 c_ b_ n (w_1l5 + 1) (u_4 32) w_1l5 (upd u_4 35 ((f0 ((0 + c_) : Int32).toNatClampNeg) - (u_4 33)))) else (if (u_4 32) = w_1l4 then (if (u_4 35) ≤ ((f0 ((0 + c_) : Int32).toNatClampNeg) - (u_4 33)) then (f_m_best_17 f0 f10 f8 c_ b_ n (w_1l5 + 1) w_1l4 w_1l3 (upd u_4 35 (u_4 35))) else (f_m_best_17 f0 f10 f8 c_ b_ n (w_1l5 + 1) (u_4 32) w_1l5 (upd u_4 35 ((f0 ((0 + c_) : Int32).toNatClampNeg) - (u_4 33))))) else (f_m_best_17 f0 f10 f8 c_ b_ n (w_1l5 + 1) w_1l4 w_1l3 (upd u_4 35 (u_4 35))))))) = (r0, r1, r2, r3) := e
      have p_7 := p_opens _ _ x_5
      have i_8 := p_7
      replace i_8 := QG.trans i_1 i_8
      obtain ⟨u_4_2, u_4_3, u_4_4, u_4_5, u_4_6, u_4_14, u_4_42⟩ := QGs i_8
      by_cases c_9 : r_5 = 0
      · rw [if_pos c_9] at e
        try simp (disch := omega) only [↓i_in, ↓i_isCouple, ↓i_isBridge, ↓i_isTheme, ↓i_isBarge, i_lt, i_le, i_eq, i_clamp, i_upd, i_m1, Int32.toInt_toInt64, Int32.toInt_add, Int32.toInt_sub, Int32.toInt_mul, bm32, Int32.reduceToInt, Int64.reduceToInt, Nat.reduceLT, Nat.reduceEqDiff, reduceIte, w_1m0_2, w_1m0_3, w_1m0_4, w_1m0_5, w_1m0_6, w_1m0_14, w_1m0_42, u_4_2, u_4_3, u_4_4, u_4_5, u_4_6, u_4_14, u_4_42] at c_9
        exact ih (w_1l5 + 1) w_1l4 w_1l3 u_4 (⟨i_8, (by first | omega | (simp (disch := omega) only [↓i_in, ↓i_isCouple, ↓i_isBridge, ↓i_isTheme, ↓i_isBarge, i_lt, i_le, i_eq, i_clamp, i_upd, i_m1, Int32.toInt_toInt64, Int32.toInt_add, Int32.toInt_sub, Int32.toInt_mul, bm32, Int32.reduceToInt, Int64.reduceToInt, Nat.reduceLT, Nat.reduceEqDiff, reduceIte, w_1m0_2, w_1m0_3, w_1m0_4, w_1m0_5, w_1m0_6, w_1m0_14, w_1m0_42, u_4_2, u_4_3, u_4_4, u_4_5, u_4_6, u_4_14, u_4_42] <;> omega)), (by first | omega | (simp (disch := omega) only [↓i_in, ↓i_isCouple, ↓i_isBridge, ↓i_isTheme, ↓i_isBarge, i_lt, i_le, i_eq, i_clamp, i_upd, i_m1, Int32.toInt_toInt64, Int32.toInt_add, Int32.toInt_sub, Int32.toInt_mul, bm32, Int32.reduceToInt, Int64.reduceToInt, Nat.reduceLT, Nat.reduceEqDiff, reduceIte, w_1m0_2, w_1m0_3, w_1m0_4, w_1m0_5, w_1m0_6, w_1m0_14, w_1m0_42, u_4_2, u_4_3, u_4_4, u_4_5, u_4_6, u_4_14, u_4_42] <;> omega))⟩) _ _ _ _ e
      · rw [if_neg c_9] at e
        try simp (disch := omega) only [↓i_in, ↓i_isCouple, ↓i_isBridge, ↓i_isTheme, ↓i_isBarge, i_lt, i_le, i_eq, i_clamp, i_upd, i_m1, Int32.toInt_toInt64, Int32.toInt_add, Int32.toInt_sub, Int32.toInt_mul, bm32, Int32.reduceToInt, Int64.reduceToInt, Nat.reduceLT, Nat.reduceEqDiff, reduceIte, w_1m0_2, w_1m0_3, w_1m0_4, w_1m0_5, w_1m0_6, w_1m0_14, w_1m0_42, u_4_2, u_4_3, u_4_4, u_4_5, u_4_6, u_4_14, u_4_42] at c_9
        by_cases c_10 : (u_4 32) < w_1l4
        · rw [if_pos c_10] at e
          try simp (disch := omega) only [↓i_in, ↓i_isCouple, ↓i_isBridge, ↓i_isTheme, ↓i_isBarge, i_lt, i_le, i_eq, i_clamp, i_upd, i_m1, Int32.toInt_toInt64, Int32.toInt_add, Int32.toInt_sub, Int32.toInt_mul, bm32, Int32.reduceToInt, Int64.reduceToInt, Nat.reduceLT, Nat.reduceEqDiff, reduceIte, w_1m0_2, w_1m0_3, w_1m0_4, w_1m0_5, w_1m0_6, w_1m0_14, w_1m0_42, u_4_2, u_4_3, u_4_4, u_4_5, u_4_6, u_4_14, u_4_42] at c_10
          exact ih (w_1l5 + 1) (u_4 32) w_1l5 (upd u_4 35 ((f0 ((0 + c_) : Int32).toNatClampNeg) - (u_4 33))) (⟨(QG_upd i_8 (by decide) (by decide)), (by first | omega | (simp (disch := omega) only [↓i_in, ↓i_isCouple, ↓i_isBridge, ↓i_isTheme, ↓i_isBarge, i_lt, i_le, i_eq, i_clamp, i_upd, i_m1, Int32.toInt_toInt64, Int32.toInt_add, Int32.toInt_sub, Int32.toInt_mul, bm32, Int32.reduceToInt, Int64.reduceToInt, Nat.reduceLT, Nat.reduceEqDiff, reduceIte, w_1m0_2, w_1m0_3, w_1m0_4, w_1m0_5, w_1m0_6, w_1m0_14, w_1m0_42, u_4_2, u_4_3, u_4_4, u_4_5, u_4_6, u_4_14, u_4_42] <;> omega)), (by first | omega | (simp (disch := omega) only [↓i_in, ↓i_isCouple, ↓i_isBridge, ↓i_isTheme, ↓i_isBarge, i_lt, i_le, i_eq, i_clamp, i_upd, i_m1, Int32.toInt_toInt64, Int32.toInt_add, Int32.toInt_sub, Int32.toInt_mul, bm32, Int32.reduceToInt, Int64.reduceToInt, Nat.reduceLT, Nat.reduceEqDiff, reduceIte, w_1m0_2, w_1m0_3, w_1m0_4, w_1m0_5, w_1m0_6, w_1m0_14, w_1m0_42, u_4_2, u_4_3, u_4_4, u_4_5, u_4_6, u_4_14, u_4_42] <;> omega))⟩) _ _ _ _ e
        · rw [if_neg c_10] at e
          try simp (disch := omega) only [↓i_in, ↓i_isCouple, ↓i_isBridge, ↓i_isTheme, ↓i_isBarge, i_lt, i_le, i_eq, i_clamp, i_upd, i_m1, Int32.toInt_toInt64, Int32.toInt_add, Int32.toInt_sub, Int32.toInt_mul, bm32, Int32.reduceToInt, Int64.reduceToInt, Nat.reduceLT, Nat.reduceEqDiff, reduceIte, w_1m0_2, w_1m0_3, w_1m0_4, w_1m0_5, w_1m0_6, w_1m0_14, w_1m0_42, u_4_2, u_4_3, u_4_4, u_4_5, u_4_6, u_4_14, u_4_42] at c_10
          by_cases c_11 : (u_4 32) = w_1l4
          · rw [if_pos c_11] at e
            try simp (disch := omega) only [↓i_in, ↓i_isCouple, ↓i_isBridge, ↓i_isTheme, ↓i_isBarge, i_lt, i_le, i_eq, i_clamp, i_upd, i_m1, Int32.toInt_toInt64, Int32.toInt_add, Int32.toInt_sub, Int32.toInt_mul, bm32, Int32.reduceToInt, Int64.reduceToInt, Nat.reduceLT, Nat.reduceEqDiff, reduceIte, w_1m0_2, w_1m0_3, w_1m0_4, w_1m0_5, w_1m0_6, w_1m0_14, w_1m0_42, u_4_2, u_4_3, u_4_4, u_4_5, u_4_6, u_4_14, u_4_42] at c_11
            by_cases c_12 : (u_4 35) ≤ ((f0 ((0 + c_) : Int32).toNatClampNeg) - (u_4 33))
            · rw [if_pos c_12] at e
              try simp (disch := omega) only [↓i_in, ↓i_isCouple, ↓i_isBridge, ↓i_isTheme, ↓i_isBarge, i_lt, i_le, i_eq, i_clamp, i_upd, i_m1, Int32.toInt_toInt64, Int32.toInt_add, Int32.toInt_sub, Int32.toInt_mul, bm32, Int32.reduceToInt, Int64.reduceToInt, Nat.reduceLT, Nat.reduceEqDiff, reduceIte, w_1m0_2, w_1m0_3, w_1m0_4, w_1m0_5, w_1m0_6, w_1m0_14, w_1m0_42, u_4_2, u_4_3, u_4_4, u_4_5, u_4_6, u_4_14, u_4_42] at c_12
              exact ih (w_1l5 + 1) w_1l4 w_1l3 (upd u_4 35 (u_4 35)) (⟨(QG_upd i_8 (by decide) (by decide)), (by first | omega | (simp (disch := omega) only [↓i_in, ↓i_isCouple, ↓i_isBridge, ↓i_isTheme, ↓i_isBarge, i_lt, i_le, i_eq, i_clamp, i_upd, i_m1, Int32.toInt_toInt64, Int32.toInt_add, Int32.toInt_sub, Int32.toInt_mul, bm32, Int32.reduceToInt, Int64.reduceToInt, Nat.reduceLT, Nat.reduceEqDiff, reduceIte, w_1m0_2, w_1m0_3, w_1m0_4, w_1m0_5, w_1m0_6, w_1m0_14, w_1m0_42, u_4_2, u_4_3, u_4_4, u_4_5, u_4_6, u_4_14, u_4_42] <;> omega)), (by first | omega | (simp (disch := omega) only [↓i_in, ↓i_isCouple, ↓i_isBridge, ↓i_isTheme, ↓i_isBarge, i_lt, i_le, i_eq, i_clamp, i_upd, i_m1, Int32.toInt_toInt64, Int32.toInt_add, Int32.toInt_sub, Int32.toInt_mul, bm32, Int32.reduceToInt, Int64.reduceToInt, Nat.reduceLT, Nat.reduceEqDiff, reduceIte, w_1m0_2, w_1m0_3, w_1m0_4, w_1m0_5, w_1m0_6, w_1m0_14, w_1m0_42, u_4_2, u_4_3, u_4_4, u_4_5, u_4_6, u_4_14, u_4_42] <;> omega))⟩) _ _ _ _ e
            · rw [if_neg c_12] at e
              try simp (disch := omega) only [↓i_in, ↓i_isCouple, ↓i_isBridge, ↓i_isTheme, ↓i_isBarge, i_lt, i_le, i_eq, i_clamp, i_upd, i_m1, Int32.toInt_toInt64, Int32.toInt_add, Int32.toInt_sub, Int32.toInt_mul, bm32, Int32.reduceToInt, Int64.reduceToInt, Nat.reduceLT, Nat.reduceEqDiff, reduceIte, w_1m0_2, w_1m0_3, w_1m0_4, w_1m0_5, w_1m0_6, w_1m0_14, w_1m0_42, u_4_2, u_4_3, u_4_4, u_4_5, u_4_6, u_4_14, u_4_42] at c_12
              exact ih (w_1l5 + 1) (u_4 32) w_1l5 (upd u_4 35 ((f0 ((0 + c_) : Int32).toNatClampNeg) - (u_4 33))) (⟨(QG_upd i_8 (by decide) (by decide)), (by first | omega | (simp (disch := omega) only [↓i_in, ↓i_isCouple, ↓i_isBridge, ↓i_isTheme, ↓i_isBarge, i_lt, i_le, i_eq, i_clamp, i_upd, i_m1, Int32.toInt_toInt64, Int32.toInt_add, Int32.toInt_sub, Int32.toInt_mul, bm32, Int32.reduceToInt, Int64.reduceToInt, Nat.reduceLT, Nat.reduceEqDiff, reduceIte, w_1m0_2, w_1m0_3, w_1m0_4, w_1m0_5, w_1m0_6, w_1m0_14, w_1m0_42, u_4_2, u_4_3, u_4_4, u_4_5, u_4_6, u_4_14, u_4_42] <;> omega)), (by first | omega | (simp (disch := omega) only [↓i_in, ↓i_isCouple, ↓i_isBridge, ↓i_isTheme, ↓i_isBarge, i_lt, i_le, i_eq, i_clamp, i_upd, i_m1, Int32.toInt_toInt64, Int32.toInt_add, Int32.toInt_sub, Int32.toInt_mul, bm32, Int32.reduceToInt, Int64.reduceToInt, Nat.reduceLT, Nat.reduceEqDiff, reduceIte, w_1m0_2, w_1m0_3, w_1m0_4, w_1m0_5, w_1m0_6, w_1m0_14, w_1m0_42, u_4_2, u_4_3, u_4_4, u_4_5, u_4_6, u_4_14, u_4_42] <;> omega))⟩) _ _ _ _ e
          · rw [if_neg c_11] at e
            try simp (disch := omega) only [↓i_in, ↓i_isCouple, ↓i_isBridge, ↓i_isTheme, ↓i_isBarge, i_lt, i_le, i_eq, i_clamp, i_upd, i_m1, Int32.toInt_toInt64, Int32.toInt_add, Int32.toInt_sub, Int32.toInt_mul, bm32, Int32.reduceToInt, Int64.reduceToInt, Nat.reduceLT, Nat.reduceEqDiff, reduceIte, w_1m0_2, w_1m0_3, w_1m0_4, w_1m0_5, w_1m0_6, w_1m0_14, w_1m0_42, u_4_2, u_4_3, u_4_4, u_4_5, u_4_6, u_4_14, u_4_42] at c_11
            exact ih (w_1l5 + 1) w_1l4 w_1l3 (upd u_4 35 (u_4 35)) (⟨(QG_upd i_8 (by decide) (by decide)), (by first | omega | (simp (disch := omega) only [↓i_in, ↓i_isCouple, ↓i_isBridge, ↓i_isTheme, ↓i_isBarge, i_lt, i_le, i_eq, i_clamp, i_upd, i_m1, Int32.toInt_toInt64, Int32.toInt_add, Int32.toInt_sub, Int32.toInt_mul, bm32, Int32.reduceToInt, Int64.reduceToInt, Nat.reduceLT, Nat.reduceEqDiff, reduceIte, w_1m0_2, w_1m0_3, w_1m0_4, w_1m0_5, w_1m0_6, w_1m0_14, w_1m0_42, u_4_2, u_4_3, u_4_4, u_4_5, u_4_6, u_4_14, u_4_42] <;> omega)), (by first | omega | (simp (disch := omega) only [↓i_in, ↓i_isCouple, ↓i_isBridge, ↓i_isTheme, ↓i_isBarge, i_lt, i_le, i_eq, i_clamp, i_upd, i_m1, Int32.toInt_toInt64, Int32.toInt_add, Int32.toInt_sub, Int32.toInt_mul, bm32, Int32.reduceToInt, Int64.reduceToInt, Nat.reduceLT, Nat.reduceEqDiff, reduceIte, w_1m0_2, w_1m0_3, w_1m0_4, w_1m0_5, w_1m0_6, w_1m0_14, w_1m0_42, u_4_2, u_4_3, u_4_4, u_4_5, u_4_6, u_4_14, u_4_42] <;> omega))⟩) _ _ _ _ e
set_option maxHeartbeats 4000000 in
theorem s_best {G : Nat → Int32} {f0 : Nat → Int32} {f10 : Nat → Int32} {f8 : Nat → Int32} {c_ : Int32} {b_ : Int32} (h_0 : GI G) (h_1 : 0 ≤ c_.toInt) (h_2 : c_.toInt < 6) (h_3 : 0 ≤ b_.toInt) (h_4 : b_.toInt < 6) : S_m_best G f0 f10 f8 c_ b_ := by
  unfold S_m_best
  have h_0_g := h_0
  obtain ⟨⟨h_0_2a, h_0_2b⟩, ⟨h_0_3a, h_0_3b⟩, ⟨h_0_4a, h_0_4b⟩, ⟨h_0_5a, h_0_5b⟩, ⟨h_0_6a, h_0_6b⟩, ⟨h_0_14a, h_0_14b⟩, ⟨h_0_42a, h_0_42b⟩⟩ := h_0_g
  refine sl_best_17 h_0 (by first | omega | (simp (disch := omega) only [↓i_in, ↓i_isCouple, ↓i_isBridge, ↓i_isTheme, ↓i_isBarge, i_lt, i_le, i_eq, i_clamp, i_upd, i_m1, Int32.toInt_toInt64, Int32.toInt_add, Int32.toInt_sub, Int32.toInt_mul, bm32, Int32.reduceToInt, Int64.reduceToInt, Nat.reduceLT, Nat.reduceEqDiff, reduceIte] <;> omega)) (by first | omega | (simp (disch := omega) only [↓i_in, ↓i_isCouple, ↓i_isBridge, ↓i_isTheme, ↓i_isBarge, i_lt, i_le, i_eq, i_clamp, i_upd, i_m1, Int32.toInt_toInt64, Int32.toInt_add, Int32.toInt_sub, Int32.toInt_mul, bm32, Int32.reduceToInt, Int64.reduceToInt, Nat.reduceLT, Nat.reduceEqDiff, reduceIte] <;> omega)) (by first | omega | (simp (disch := omega) only [↓i_in, ↓i_isCouple, ↓i_isBridge, ↓i_isTheme, ↓i_isBarge, i_lt, i_le, i_eq, i_clamp, i_upd, i_m1, Int32.toInt_toInt64, Int32.toInt_add, Int32.toInt_sub, Int32.toInt_mul, bm32, Int32.reduceToInt, Int64.reduceToInt, Nat.reduceLT, Nat.reduceEqDiff, reduceIte] <;> omega)) (by first | omega | (simp (disch := omega) only [↓i_in, ↓i_isCouple, ↓i_isBridge, ↓i_isTheme, ↓i_isBarge, i_lt, i_le, i_eq, i_clamp, i_upd, i_m1, Int32.toInt_toInt64, Int32.toInt_add, Int32.toInt_sub, Int32.toInt_mul, bm32, Int32.reduceToInt, Int64.reduceToInt, Nat.reduceLT, Nat.reduceEqDiff, reduceIte] <;> omega)) ?_ 10 0 999 (-1) (upd G 35 999) (⟨(QG_upd (QG.refl _) (by decide) (by decide)), (by first | omega | (simp (disch := omega) only [↓i_in, ↓i_isCouple, ↓i_isBridge, ↓i_isTheme, ↓i_isBarge, i_lt, i_le, i_eq, i_clamp, i_upd, i_m1, Int32.toInt_toInt64, Int32.toInt_add, Int32.toInt_sub, Int32.toInt_mul, bm32, Int32.reduceToInt, Int64.reduceToInt, Nat.reduceLT, Nat.reduceEqDiff, reduceIte] <;> omega)), (by first | omega | (simp (disch := omega) only [↓i_in, ↓i_isCouple, ↓i_isBridge, ↓i_isTheme, ↓i_isBarge, i_lt, i_le, i_eq, i_clamp, i_upd, i_m1, Int32.toInt_toInt64, Int32.toInt_add, Int32.toInt_sub, Int32.toInt_mul, bm32, Int32.reduceToInt, Int64.reduceToInt, Nat.reduceLT, Nat.reduceEqDiff, reduceIte] <;> omega))⟩) (by first | omega | (simp (disch := omega) only [↓i_in, ↓i_isCouple, ↓i_isBridge, ↓i_isTheme, ↓i_isBarge, i_lt, i_le, i_eq, i_clamp, i_upd, i_m1, Int32.toInt_toInt64, Int32.toInt_add, Int32.toInt_sub, Int32.toInt_mul, bm32, Int32.reduceToInt, Int64.reduceToInt, Nat.reduceLT, Nat.reduceEqDiff, reduceIte] <;> omega))
  intro w_1l5 w_1l4 w_1l3 w_1m0 i_1
  obtain ⟨i_2, i_3, i_4⟩ := i_1
  obtain ⟨w_1m0_2, w_1m0_3, w_1m0_4, w_1m0_5, w_1m0_6, w_1m0_14, w_1m0_42⟩ := QGs i_2
  exact trivial
set_option maxHeartbeats 4000000 in
theorem p_best {G : Nat → Int32} {f0 : Nat → Int32} {f10 : Nat → Int32} {f8 : Nat → Int32} {c_ : Int32} {b_ : Int32} (h_0 : GI G) (h_1 : 0 ≤ c_.toInt) (h_2 : c_.toInt < 6) (h_3 : 0 ≤ b_.toInt) (h_4 : b_.toInt < 6) : ∀ (r : Int32) (u : (Nat → Int32)), f_m_best G f0 f10 f8 c_ b_ = (r, u) → QG G u := by
  have h_0_g := h_0
  obtain ⟨⟨h_0_2a, h_0_2b⟩, ⟨h_0_3a, h_0_3b⟩, ⟨h_0_4a, h_0_4b⟩, ⟨h_0_5a, h_0_5b⟩, ⟨h_0_6a, h_0_6b⟩, ⟨h_0_14a, h_0_14b⟩, ⟨h_0_42a, h_0_42b⟩⟩ := h_0_g
  intro r u e
  unfold f_m_best at e
  generalize x_1 : (f_m_best_17 f0 f10 f8 c_ b_ 10 0 999 (-1) (upd G 35 999)) = z_2 at e
  obtain ⟨w_1l5, w_1l4, w_1l3, w_1m0⟩ := z_2
  replace e : ((w_1l3, w_1m0)) = (r, u) := e
  have p_3 := pl_best_17 h_0 (by first | omega | (simp (disch := omega) only [↓i_in, ↓i_isCouple, ↓i_isBridge, ↓i_isTheme, ↓i_isBarge, i_lt, i_le, i_eq, i_clamp, i_upd, i_m1, Int32.toInt_toInt64, Int32.toInt_add, Int32.toInt_sub, Int32.toInt_mul, bm32, Int32.reduceToInt, Int64.reduceToInt, Nat.reduceLT, Nat.reduceEqDiff, reduceIte] <;> omega)) (by first | omega | (simp (disch := omega) only [↓i_in, ↓i_isCouple, ↓i_isBridge, ↓i_isTheme, ↓i_isBarge, i_lt, i_le, i_eq, i_clamp, i_upd, i_m1, Int32.toInt_toInt64, Int32.toInt_add, Int32.toInt_sub, Int32.toInt_mul, bm32, Int32.reduceToInt, Int64.reduceToInt, Nat.reduceLT, Nat.reduceEqDiff, reduceIte] <;> omega)) (by first | omega | (simp (disch := omega) only [↓i_in, ↓i_isCouple, ↓i_isBridge, ↓i_isTheme, ↓i_isBarge, i_lt, i_le, i_eq, i_clamp, i_upd, i_m1, Int32.toInt_toInt64, Int32.toInt_add, Int32.toInt_sub, Int32.toInt_mul, bm32, Int32.reduceToInt, Int64.reduceToInt, Nat.reduceLT, Nat.reduceEqDiff, reduceIte] <;> omega)) (by first | omega | (simp (disch := omega) only [↓i_in, ↓i_isCouple, ↓i_isBridge, ↓i_isTheme, ↓i_isBarge, i_lt, i_le, i_eq, i_clamp, i_upd, i_m1, Int32.toInt_toInt64, Int32.toInt_add, Int32.toInt_sub, Int32.toInt_mul, bm32, Int32.reduceToInt, Int64.reduceToInt, Nat.reduceLT, Nat.reduceEqDiff, reduceIte] <;> omega)) 10 0 999 (-1) (upd G 35 999) (⟨(QG_upd (QG.refl _) (by decide) (by decide)), (by first | omega | (simp (disch := omega) only [↓i_in, ↓i_isCouple, ↓i_isBridge, ↓i_isTheme, ↓i_isBarge, i_lt, i_le, i_eq, i_clamp, i_upd, i_m1, Int32.toInt_toInt64, Int32.toInt_add, Int32.toInt_sub, Int32.toInt_mul, bm32, Int32.reduceToInt, Int64.reduceToInt, Nat.reduceLT, Nat.reduceEqDiff, reduceIte] <;> omega)), (by first | omega | (simp (disch := omega) only [↓i_in, ↓i_isCouple, ↓i_isBridge, ↓i_isTheme, ↓i_isBarge, i_lt, i_le, i_eq, i_clamp, i_upd, i_m1, Int32.toInt_toInt64, Int32.toInt_add, Int32.toInt_sub, Int32.toInt_mul, bm32, Int32.reduceToInt, Int64.reduceToInt, Nat.reduceLT, Nat.reduceEqDiff, reduceIte] <;> omega))⟩) _ _ _ _ x_1
  obtain ⟨i_4, i_5, i_6⟩ := p_3
  obtain ⟨w_1m0_2, w_1m0_3, w_1m0_4, w_1m0_5, w_1m0_6, w_1m0_14, w_1m0_42⟩ := QGs i_4
  cases e
  exact i_4
set_option maxHeartbeats 4000000 in
theorem s_bestTheme {G : Nat → Int32} {f0 : Nat → Int32} {f10 : Nat → Int32} {f8 : Nat → Int32} {c_ : Int32} {b_ : Int32} (h_0 : GI G) : S_m_bestTheme G f0 f10 f8 c_ b_ := by
  unfold S_m_bestTheme
  have h_0_g := h_0
  obtain ⟨⟨h_0_2a, h_0_2b⟩, ⟨h_0_3a, h_0_3b⟩, ⟨h_0_4a, h_0_4b⟩, ⟨h_0_5a, h_0_5b⟩, ⟨h_0_6a, h_0_6b⟩, ⟨h_0_14a, h_0_14b⟩, ⟨h_0_42a, h_0_42b⟩⟩ := h_0_g
  refine ⟨s_isCouple, ?_⟩
  refine ⟨fun c_1 => ?_, fun c_1 => ?_⟩
  · exact trivial
  · skip
    try simp (disch := omega) only [↓i_in, ↓i_isCouple, ↓i_isBridge, ↓i_isTheme, ↓i_isBarge, i_lt, i_le, i_eq, i_clamp, i_upd, i_m1, Int32.toInt_toInt64, Int32.toInt_add, Int32.toInt_sub, Int32.toInt_mul, bm32, Int32.reduceToInt, Int64.reduceToInt, Nat.reduceLT, Nat.reduceEqDiff, reduceIte] at c_1
    refine ⟨s_isBridge, ?_⟩
    refine ⟨fun c_2 => ?_, fun c_2 => ?_⟩
    · exact trivial
    · skip
      try simp (disch := omega) only [↓i_in, ↓i_isCouple, ↓i_isBridge, ↓i_isTheme, ↓i_isBarge, i_lt, i_le, i_eq, i_clamp, i_upd, i_m1, Int32.toInt_toInt64, Int32.toInt_add, Int32.toInt_sub, Int32.toInt_mul, bm32, Int32.reduceToInt, Int64.reduceToInt, Nat.reduceLT, Nat.reduceEqDiff, reduceIte] at c_2
      refine ⟨(s_best h_0 (by first | omega | (simp (disch := omega) only [↓i_in, ↓i_isCouple, ↓i_isBridge, ↓i_isTheme, ↓i_isBarge, i_lt, i_le, i_eq, i_clamp, i_upd, i_m1, Int32.toInt_toInt64, Int32.toInt_add, Int32.toInt_sub, Int32.toInt_mul, bm32, Int32.reduceToInt, Int64.reduceToInt, Nat.reduceLT, Nat.reduceEqDiff, reduceIte] <;> omega)) (by first | omega | (simp (disch := omega) only [↓i_in, ↓i_isCouple, ↓i_isBridge, ↓i_isTheme, ↓i_isBarge, i_lt, i_le, i_eq, i_clamp, i_upd, i_m1, Int32.toInt_toInt64, Int32.toInt_add, Int32.toInt_sub, Int32.toInt_mul, bm32, Int32.reduceToInt, Int64.reduceToInt, Nat.reduceLT, Nat.reduceEqDiff, reduceIte] <;> omega)) (by first | omega | (simp (disch := omega) only [↓i_in, ↓i_isCouple, ↓i_isBridge, ↓i_isTheme, ↓i_isBarge, i_lt, i_le, i_eq, i_clamp, i_upd, i_m1, Int32.toInt_toInt64, Int32.toInt_add, Int32.toInt_sub, Int32.toInt_mul, bm32, Int32.reduceToInt, Int64.reduceToInt, Nat.reduceLT, Nat.reduceEqDiff, reduceIte] <;> omega)) (by first | omega | (simp (disch := omega) only [↓i_in, ↓i_isCouple, ↓i_isBridge, ↓i_isTheme, ↓i_isBarge, i_lt, i_le, i_eq, i_clamp, i_upd, i_m1, Int32.toInt_toInt64, Int32.toInt_add, Int32.toInt_sub, Int32.toInt_mul, bm32, Int32.reduceToInt, Int64.reduceToInt, Nat.reduceLT, Nat.reduceEqDiff, reduceIte] <;> omega))), ?_⟩
      intro r_11 u_10 e_3
      have p_4 := p_best h_0 (by first | omega | (simp (disch := omega) only [↓i_in, ↓i_isCouple, ↓i_isBridge, ↓i_isTheme, ↓i_isBarge, i_lt, i_le, i_eq, i_clamp, i_upd, i_m1, Int32.toInt_toInt64, Int32.toInt_add, Int32.toInt_sub, Int32.toInt_mul, bm32, Int32.reduceToInt, Int64.reduceToInt, Nat.reduceLT, Nat.reduceEqDiff, reduceIte] <;> omega)) (by first | omega | (simp (disch := omega) only [↓i_in, ↓i_isCouple, ↓i_isBridge, ↓i_isTheme, ↓i_isBarge, i_lt, i_le, i_eq, i_clamp, i_upd, i_m1, Int32.toInt_toInt64, Int32.toInt_add, Int32.toInt_sub, Int32.toInt_mul, bm32, Int32.reduceToInt, Int64.reduceToInt, Nat.reduceLT, Nat.reduceEqDiff, reduceIte] <;> omega)) (by first | omega | (simp (disch := omega) only [↓i_in, ↓i_isCouple, ↓i_isBridge, ↓i_isTheme, ↓i_isBarge, i_lt, i_le, i_eq, i_clamp, i_upd, i_m1, Int32.toInt_toInt64, Int32.toInt_add, Int32.toInt_sub, Int32.toInt_mul, bm32, Int32.reduceToInt, Int64.reduceToInt, Nat.reduceLT, Nat.reduceEqDiff, reduceIte] <;> omega)) (by first | omega | (simp (disch := omega) only [↓i_in, ↓i_isCouple, ↓i_isBridge, ↓i_isTheme, ↓i_isBarge, i_lt, i_le, i_eq, i_clamp, i_upd, i_m1, Int32.toInt_toInt64, Int32.toInt_add, Int32.toInt_sub, Int32.toInt_mul, bm32, Int32.reduceToInt, Int64.reduceToInt, Nat.reduceLT, Nat.reduceEqDiff, reduceIte] <;> omega)) _ _ e_3.symm
      have i_5 := p_4
      obtain ⟨u_10_2, u_10_3, u_10_4, u_10_5, u_10_6, u_10_14, u_10_42⟩ := QGs i_5
      exact trivial
set_option maxHeartbeats 4000000 in
theorem p_bestTheme {G : Nat → Int32} {f0 : Nat → Int32} {f10 : Nat → Int32} {f8 : Nat → Int32} {c_ : Int32} {b_ : Int32} (h_0 : GI G) : ∀ (r : Int32) (u : (Nat → Int32)), f_m_bestTheme G f0 f10 f8 c_ b_ = (r, u) → QG G u := by
  have h_0_g := h_0
  obtain ⟨⟨h_0_2a, h_0_2b⟩, ⟨h_0_3a, h_0_3b⟩, ⟨h_0_4a, h_0_4b⟩, ⟨h_0_5a, h_0_5b⟩, ⟨h_0_6a, h_0_6b⟩, ⟨h_0_14a, h_0_14b⟩, ⟨h_0_42a, h_0_42b⟩⟩ := h_0_g
  intro r u e
  unfold f_m_bestTheme at e
  by_cases c_1 : (f_m_isCouple G c_) = 0
  · rw [if_pos c_1] at e
    try simp (disch := omega) only [↓i_in, ↓i_isCouple, ↓i_isBridge, ↓i_isTheme, ↓i_isBarge, i_lt, i_le, i_eq, i_clamp, i_upd, i_m1, Int32.toInt_toInt64, Int32.toInt_add, Int32.toInt_sub, Int32.toInt_mul, bm32, Int32.reduceToInt, Int64.reduceToInt, Nat.reduceLT, Nat.reduceEqDiff, reduceIte] at c_1
    cases e
    exact (QG.refl _)
  · rw [if_neg c_1] at e
    try simp (disch := omega) only [↓i_in, ↓i_isCouple, ↓i_isBridge, ↓i_isTheme, ↓i_isBarge, i_lt, i_le, i_eq, i_clamp, i_upd, i_m1, Int32.toInt_toInt64, Int32.toInt_add, Int32.toInt_sub, Int32.toInt_mul, bm32, Int32.reduceToInt, Int64.reduceToInt, Nat.reduceLT, Nat.reduceEqDiff, reduceIte] at c_1
    by_cases c_2 : (f_m_isBridge G b_) = 0
    · rw [if_pos c_2] at e
      try simp (disch := omega) only [↓i_in, ↓i_isCouple, ↓i_isBridge, ↓i_isTheme, ↓i_isBarge, i_lt, i_le, i_eq, i_clamp, i_upd, i_m1, Int32.toInt_toInt64, Int32.toInt_add, Int32.toInt_sub, Int32.toInt_mul, bm32, Int32.reduceToInt, Int64.reduceToInt, Nat.reduceLT, Nat.reduceEqDiff, reduceIte] at c_2
      cases e
      exact (QG.refl _)
    · rw [if_neg c_2] at e
      try simp (disch := omega) only [↓i_in, ↓i_isCouple, ↓i_isBridge, ↓i_isTheme, ↓i_isBarge, i_lt, i_le, i_eq, i_clamp, i_upd, i_m1, Int32.toInt_toInt64, Int32.toInt_add, Int32.toInt_sub, Int32.toInt_mul, bm32, Int32.reduceToInt, Int64.reduceToInt, Nat.reduceLT, Nat.reduceEqDiff, reduceIte] at c_2
      generalize x_3 : (f_m_best G f0 f10 f8 c_ b_) = z_4 at e
      obtain ⟨r_11, u_10⟩ := z_4
      replace e : ((r_11, u_10)) = (r, u) := e
      have p_5 := p_best h_0 (by first | omega | (simp (disch := omega) only [↓i_in, ↓i_isCouple, ↓i_isBridge, ↓i_isTheme, ↓i_isBarge, i_lt, i_le, i_eq, i_clamp, i_upd, i_m1, Int32.toInt_toInt64, Int32.toInt_add, Int32.toInt_sub, Int32.toInt_mul, bm32, Int32.reduceToInt, Int64.reduceToInt, Nat.reduceLT, Nat.reduceEqDiff, reduceIte] <;> omega)) (by first | omega | (simp (disch := omega) only [↓i_in, ↓i_isCouple, ↓i_isBridge, ↓i_isTheme, ↓i_isBarge, i_lt, i_le, i_eq, i_clamp, i_upd, i_m1, Int32.toInt_toInt64, Int32.toInt_add, Int32.toInt_sub, Int32.toInt_mul, bm32, Int32.reduceToInt, Int64.reduceToInt, Nat.reduceLT, Nat.reduceEqDiff, reduceIte] <;> omega)) (by first | omega | (simp (disch := omega) only [↓i_in, ↓i_isCouple, ↓i_isBridge, ↓i_isTheme, ↓i_isBarge, i_lt, i_le, i_eq, i_clamp, i_upd, i_m1, Int32.toInt_toInt64, Int32.toInt_add, Int32.toInt_sub, Int32.toInt_mul, bm32, Int32.reduceToInt, Int64.reduceToInt, Nat.reduceLT, Nat.reduceEqDiff, reduceIte] <;> omega)) (by first | omega | (simp (disch := omega) only [↓i_in, ↓i_isCouple, ↓i_isBridge, ↓i_isTheme, ↓i_isBarge, i_lt, i_le, i_eq, i_clamp, i_upd, i_m1, Int32.toInt_toInt64, Int32.toInt_add, Int32.toInt_sub, Int32.toInt_mul, bm32, Int32.reduceToInt, Int64.reduceToInt, Nat.reduceLT, Nat.reduceEqDiff, reduceIte] <;> omega)) _ _ x_3
      have i_6 := p_5
      obtain ⟨u_10_2, u_10_3, u_10_4, u_10_5, u_10_6, u_10_14, u_10_42⟩ := QGs i_6
      cases e
      exact i_6
set_option maxHeartbeats 4000000 in
theorem sl_layCosts_12 {G : Nat → Int32} {f0 : Nat → Int32} {f10 : Nat → Int32} {f8 : Nat → Int32} {w_1l1 : Int32} {K : Int32 → (Nat → Int32) → (Nat → Int32) → Prop} (h_0 : GI G) (h_1 : 0 ≤ w_1l1.toInt) (h_2 : w_1l1.toInt < 6) (hK : ∀ w_3l2 w_3m0 w_3m1, (QG G w_3m0 ∧ (0 ≤ w_3l2.toInt) ∧ (w_3l2.toInt ≤ 6)) → K w_3l2 w_3m0 w_3m1) : ∀ (n : Nat) w_3l2 w_3m0 w_3m1, (QG G w_3m0 ∧ (0 ≤ w_3l2.toInt) ∧ (w_3l2.toInt ≤ 6)) → (7 - w_3l2.toInt).toNat < n → S_m_layCosts_12 f0 f10 f8 w_1l1 K n w_3l2 w_3m0 w_3m1 := by
  have h_0_g := h_0
  obtain ⟨⟨h_0_2a, h_0_2b⟩, ⟨h_0_3a, h_0_3b⟩, ⟨h_0_4a, h_0_4b⟩, ⟨h_0_5a, h_0_5b⟩, ⟨h_0_6a, h_0_6b⟩, ⟨h_0_14a, h_0_14b⟩, ⟨h_0_42a, h_0_42b⟩⟩ := h_0_g
  intro n
  induction n with
  | zero => intro w_3l2 w_3m0 w_3m1 hI hm; exact absurd hm (Nat.not_lt_zero _)
  | succ n ih =>
    intro w_3l2 w_3m0 w_3m1 hI hm
    rw [S_m_layCosts_12_s]
    have hI0 := hI
    obtain ⟨i_1, i_2, i_3⟩ := hI0
    obtain ⟨w_3m0_2, w_3m0_3, w_3m0_4, w_3m0_5, w_3m0_6, w_3m0_14, w_3m0_42⟩ := QGs i_1
    refine ⟨fun c_4 => ?_, fun c_4 => ?_⟩
    · skip
      try simp (disch := omega) only [↓i_in, ↓i_isCouple, ↓i_isBridge, ↓i_isTheme, ↓i_isBarge, i_lt, i_le, i_eq, i_clamp, i_upd, i_m1, Int32.toInt_toInt64, Int32.toInt_add, Int32.toInt_sub, Int32.toInt_mul, bm32, Int32.reduceToInt, Int64.reduceToInt, Nat.reduceLT, Nat.reduceEqDiff, reduceIte, w_3m0_2, w_3m0_3, w_3m0_4, w_3m0_5, w_3m0_6, w_3m0_14, w_3m0_42] at c_4
      exact hK w_3l2 w_3m0 w_3m1 hI
    · skip
      try simp (disch := omega) only [↓i_in, ↓i_isCouple, ↓i_isBridge, ↓i_isTheme, ↓i_isBarge, i_lt, i_le, i_eq, i_clamp, i_upd, i_m1, Int32.toInt_toInt64, Int32.toInt_add, Int32.toInt_sub, Int32.toInt_mul, bm32, Int32.reduceToInt, Int64.reduceToInt, Nat.reduceLT, Nat.reduceEqDiff, reduceIte, w_3m0_2, w_3m0_3, w_3m0_4, w_3m0_5, w_3m0_6, w_3m0_14, w_3m0_42] at c_4
      refine ⟨(s_best (GI.of i_1 h_0) (by first | omega | (simp (disch := omega) only [↓i_in, ↓i_isCouple, ↓i_isBridge, ↓i_isTheme, ↓i_isBarge, i_lt, i_le, i_eq, i_clamp, i_upd, i_m1, Int32.toInt_toInt64, Int32.toInt_add, Int32.toInt_sub, Int32.toInt_mul, bm32, Int32.reduceToInt, Int64.reduceToInt, Nat.reduceLT, Nat.reduceEqDiff, reduceIte, w_3m0_2, w_3m0_3, w_3m0_4, w_3m0_5, w_3m0_6, w_3m0_14, w_3m0_42] <;> omega)) (by first | omega | (simp (disch := omega) only [↓i_in, ↓i_isCouple, ↓i_isBridge, ↓i_isTheme, ↓i_isBarge, i_lt, i_le, i_eq, i_clamp, i_upd, i_m1, Int32.toInt_toInt64, Int32.toInt_add, Int32.toInt_sub, Int32.toInt_mul, bm32, Int32.reduceToInt, Int64.reduceToInt, Nat.reduceLT, Nat.reduceEqDiff, reduceIte, w_3m0_2, w_3m0_3, w_3m0_4, w_3m0_5, w_3m0_6, w_3m0_14, w_3m0_42] <;> omega)) (by first | omega | (simp (disch := omega) only [↓i_in, ↓i_isCouple, ↓i_isBridge, ↓i_isTheme, ↓i_isBarge, i_lt, i_le, i_eq, i_clamp, i_upd, i_m1, Int32.toInt_toInt64, Int32.toInt_add, Int32.toInt_sub, Int32.toInt_mul, bm32, Int32.reduceToInt, Int64.reduceToInt, Nat.reduceLT, Nat.reduceEqDiff, reduceIte, w_3m0_2, w_3m0_3, w_3m0_4, w_3m0_5, w_3m0_6, w_3m0_14, w_3m0_42] <;> omega)) (by first | omega | (simp (disch := omega) only [↓i_in, ↓i_isCouple, ↓i_isBridge, ↓i_isTheme, ↓i_isBarge, i_lt, i_le, i_eq, i_clamp, i_upd, i_m1, Int32.toInt_toInt64, Int32.toInt_add, Int32.toInt_sub, Int32.toInt_mul, bm32, Int32.reduceToInt, Int64.reduceToInt, Nat.reduceLT, Nat.reduceEqDiff, reduceIte, w_3m0_2, w_3m0_3, w_3m0_4, w_3m0_5, w_3m0_6, w_3m0_14, w_3m0_42] <;> omega))), ?_⟩
      intro r_7 u_6 e_5
      have p_6 := p_best (GI.of i_1 h_0) (by first | omega | (simp (disch := omega) only [↓i_in, ↓i_isCouple, ↓i_isBridge, ↓i_isTheme, ↓i_isBarge, i_lt, i_le, i_eq, i_clamp, i_upd, i_m1, Int32.toInt_toInt64, Int32.toInt_add, Int32.toInt_sub, Int32.toInt_mul, bm32, Int32.reduceToInt, Int64.reduceToInt, Nat.reduceLT, Nat.reduceEqDiff, reduceIte, w_3m0_2, w_3m0_3, w_3m0_4, w_3m0_5, w_3m0_6, w_3m0_14, w_3m0_42] <;> omega)) (by first | omega | (simp (disch := omega) only [↓i_in, ↓i_isCouple, ↓i_isBridge, ↓i_isTheme, ↓i_isBarge, i_lt, i_le, i_eq, i_clamp, i_upd, i_m1, Int32.toInt_toInt64, Int32.toInt_add, Int32.toInt_sub, Int32.toInt_mul, bm32, Int32.reduceToInt, Int64.reduceToInt, Nat.reduceLT, Nat.reduceEqDiff, reduceIte, w_3m0_2, w_3m0_3, w_3m0_4, w_3m0_5, w_3m0_6, w_3m0_14, w_3m0_42] <;> omega)) (by first | omega | (simp (disch := omega) only [↓i_in, ↓i_isCouple, ↓i_isBridge, ↓i_isTheme, ↓i_isBarge, i_lt, i_le, i_eq, i_clamp, i_upd, i_m1, Int32.toInt_toInt64, Int32.toInt_add, Int32.toInt_sub, Int32.toInt_mul, bm32, Int32.reduceToInt, Int64.reduceToInt, Nat.reduceLT, Nat.reduceEqDiff, reduceIte, w_3m0_2, w_3m0_3, w_3m0_4, w_3m0_5, w_3m0_6, w_3m0_14, w_3m0_42] <;> omega)) (by first | omega | (simp (disch := omega) only [↓i_in, ↓i_isCouple, ↓i_isBridge, ↓i_isTheme, ↓i_isBarge, i_lt, i_le, i_eq, i_clamp, i_upd, i_m1, Int32.toInt_toInt64, Int32.toInt_add, Int32.toInt_sub, Int32.toInt_mul, bm32, Int32.reduceToInt, Int64.reduceToInt, Nat.reduceLT, Nat.reduceEqDiff, reduceIte, w_3m0_2, w_3m0_3, w_3m0_4, w_3m0_5, w_3m0_6, w_3m0_14, w_3m0_42] <;> omega)) _ _ e_5.symm
      have i_7 := p_6
      replace i_7 := QG.trans i_1 i_7
      obtain ⟨u_6_2, u_6_3, u_6_4, u_6_5, u_6_6, u_6_14, u_6_42⟩ := QGs i_7
      refine ⟨fun c_8 => ?_, fun c_8 => ?_⟩
      · skip
        try simp (disch := omega) only [↓i_in, ↓i_isCouple, ↓i_isBridge, ↓i_isTheme, ↓i_isBarge, i_lt, i_le, i_eq, i_clamp, i_upd, i_m1, Int32.toInt_toInt64, Int32.toInt_add, Int32.toInt_sub, Int32.toInt_mul, bm32, Int32.reduceToInt, Int64.reduceToInt, Nat.reduceLT, Nat.reduceEqDiff, reduceIte, w_3m0_2, w_3m0_3, w_3m0_4, w_3m0_5, w_3m0_6, w_3m0_14, w_3m0_42, u_6_2, u_6_3, u_6_4, u_6_5, u_6_6, u_6_14, u_6_42] at c_8
        refine ⟨vp_in_iff.mpr (by first | omega | (simp (disch := omega) only [↓i_in, ↓i_isCouple, ↓i_isBridge, ↓i_isTheme, ↓i_isBarge, i_lt, i_le, i_eq, i_clamp, i_upd, i_m1, Int32.toInt_toInt64, Int32.toInt_add, Int32.toInt_sub, Int32.toInt_mul, bm32, Int32.reduceToInt, Int64.reduceToInt, Nat.reduceLT, Nat.reduceEqDiff, reduceIte, w_3m0_2, w_3m0_3, w_3m0_4, w_3m0_5, w_3m0_6, w_3m0_14, w_3m0_42, u_6_2, u_6_3, u_6_4, u_6_5, u_6_6, u_6_14, u_6_42] <;> omega)), ?_⟩
        exact ih (w_3l2 + 1) u_6 (upd w_3m1 (((6 * w_1l1) + w_3l2) : Int32).toNatClampNeg 1000000000) (⟨i_7, (by first | omega | (simp (disch := omega) only [↓i_in, ↓i_isCouple, ↓i_isBridge, ↓i_isTheme, ↓i_isBarge, i_lt, i_le, i_eq, i_clamp, i_upd, i_m1, Int32.toInt_toInt64, Int32.toInt_add, Int32.toInt_sub, Int32.toInt_mul, bm32, Int32.reduceToInt, Int64.reduceToInt, Nat.reduceLT, Nat.reduceEqDiff, reduceIte, w_3m0_2, w_3m0_3, w_3m0_4, w_3m0_5, w_3m0_6, w_3m0_14, w_3m0_42, u_6_2, u_6_3, u_6_4, u_6_5, u_6_6, u_6_14, u_6_42] <;> omega)), (by first | omega | (simp (disch := omega) only [↓i_in, ↓i_isCouple, ↓i_isBridge, ↓i_isTheme, ↓i_isBarge, i_lt, i_le, i_eq, i_clamp, i_upd, i_m1, Int32.toInt_toInt64, Int32.toInt_add, Int32.toInt_sub, Int32.toInt_mul, bm32, Int32.reduceToInt, Int64.reduceToInt, Nat.reduceLT, Nat.reduceEqDiff, reduceIte, w_3m0_2, w_3m0_3, w_3m0_4, w_3m0_5, w_3m0_6, w_3m0_14, w_3m0_42, u_6_2, u_6_3, u_6_4, u_6_5, u_6_6, u_6_14, u_6_42] <;> omega))⟩) (by first | omega | (simp (disch := omega) only [↓i_in, ↓i_isCouple, ↓i_isBridge, ↓i_isTheme, ↓i_isBarge, i_lt, i_le, i_eq, i_clamp, i_upd, i_m1, Int32.toInt_toInt64, Int32.toInt_add, Int32.toInt_sub, Int32.toInt_mul, bm32, Int32.reduceToInt, Int64.reduceToInt, Nat.reduceLT, Nat.reduceEqDiff, reduceIte, w_3m0_2, w_3m0_3, w_3m0_4, w_3m0_5, w_3m0_6, w_3m0_14, w_3m0_42, u_6_2, u_6_3, u_6_4, u_6_5, u_6_6, u_6_14, u_6_42] <;> omega))
      · skip
        try simp (disch := omega) only [↓i_in, ↓i_isCouple, ↓i_isBridge, ↓i_isTheme, ↓i_isBarge, i_lt, i_le, i_eq, i_clamp, i_upd, i_m1, Int32.toInt_toInt64, Int32.toInt_add, Int32.toInt_sub, Int32.toInt_mul, bm32, Int32.reduceToInt, Int64.reduceToInt, Nat.reduceLT, Nat.reduceEqDiff, reduceIte, w_3m0_2, w_3m0_3, w_3m0_4, w_3m0_5, w_3m0_6, w_3m0_14, w_3m0_42, u_6_2, u_6_3, u_6_4, u_6_5, u_6_6, u_6_14, u_6_42] at c_8
        refine ⟨vp_in_iff.mpr (by first | omega | (simp (disch := omega) only [↓i_in, ↓i_isCouple, ↓i_isBridge, ↓i_isTheme, ↓i_isBarge, i_lt, i_le, i_eq, i_clamp, i_upd, i_m1, Int32.toInt_toInt64, Int32.toInt_add, Int32.toInt_sub, Int32.toInt_mul, bm32, Int32.reduceToInt, Int64.reduceToInt, Nat.reduceLT, Nat.reduceEqDiff, reduceIte, w_3m0_2, w_3m0_3, w_3m0_4, w_3m0_5, w_3m0_6, w_3m0_14, w_3m0_42, u_6_2, u_6_3, u_6_4, u_6_5, u_6_6, u_6_14, u_6_42] <;> omega)), ?_⟩
        exact ih (w_3l2 + 1) u_6 (upd w_3m1 (((6 * w_1l1) + w_3l2) : Int32).toNatClampNeg (u_6 35)) (⟨i_7, (by first | omega | (simp (disch := omega) only [↓i_in, ↓i_isCouple, ↓i_isBridge, ↓i_isTheme, ↓i_isBarge, i_lt, i_le, i_eq, i_clamp, i_upd, i_m1, Int32.toInt_toInt64, Int32.toInt_add, Int32.toInt_sub, Int32.toInt_mul, bm32, Int32.reduceToInt, Int64.reduceToInt, Nat.reduceLT, Nat.reduceEqDiff, reduceIte, w_3m0_2, w_3m0_3, w_3m0_4, w_3m0_5, w_3m0_6, w_3m0_14, w_3m0_42, u_6_2, u_6_3, u_6_4, u_6_5, u_6_6, u_6_14, u_6_42] <;> omega)), (by first | omega | (simp (disch := omega) only [↓i_in, ↓i_isCouple, ↓i_isBridge, ↓i_isTheme, ↓i_isBarge, i_lt, i_le, i_eq, i_clamp, i_upd, i_m1, Int32.toInt_toInt64, Int32.toInt_add, Int32.toInt_sub, Int32.toInt_mul, bm32, Int32.reduceToInt, Int64.reduceToInt, Nat.reduceLT, Nat.reduceEqDiff, reduceIte, w_3m0_2, w_3m0_3, w_3m0_4, w_3m0_5, w_3m0_6, w_3m0_14, w_3m0_42, u_6_2, u_6_3, u_6_4, u_6_5, u_6_6, u_6_14, u_6_42] <;> omega))⟩) (by first | omega | (simp (disch := omega) only [↓i_in, ↓i_isCouple, ↓i_isBridge, ↓i_isTheme, ↓i_isBarge, i_lt, i_le, i_eq, i_clamp, i_upd, i_m1, Int32.toInt_toInt64, Int32.toInt_add, Int32.toInt_sub, Int32.toInt_mul, bm32, Int32.reduceToInt, Int64.reduceToInt, Nat.reduceLT, Nat.reduceEqDiff, reduceIte, w_3m0_2, w_3m0_3, w_3m0_4, w_3m0_5, w_3m0_6, w_3m0_14, w_3m0_42, u_6_2, u_6_3, u_6_4, u_6_5, u_6_6, u_6_14, u_6_42] <;> omega))
set_option maxHeartbeats 4000000 in
theorem pl_layCosts_12 {G : Nat → Int32} {f0 : Nat → Int32} {f10 : Nat → Int32} {f8 : Nat → Int32} {w_1l1 : Int32} (h_0 : GI G) (h_1 : 0 ≤ w_1l1.toInt) (h_2 : w_1l1.toInt < 6) : ∀ (n : Nat) w_3l2 w_3m0 w_3m1, (QG G w_3m0 ∧ (0 ≤ w_3l2.toInt) ∧ (w_3l2.toInt ≤ 6)) → ∀ r0 r1 r2, f_m_layCosts_12 f0 f10 f8 w_1l1 n w_3l2 w_3m0 w_3m1 = (r0, r1, r2) → QG G r1 ∧ (0 ≤ r0.toInt) ∧ (r0.toInt ≤ 6) := by
  have h_0_g := h_0
  obtain ⟨⟨h_0_2a, h_0_2b⟩, ⟨h_0_3a, h_0_3b⟩, ⟨h_0_4a, h_0_4b⟩, ⟨h_0_5a, h_0_5b⟩, ⟨h_0_6a, h_0_6b⟩, ⟨h_0_14a, h_0_14b⟩, ⟨h_0_42a, h_0_42b⟩⟩ := h_0_g
  intro n
  induction n with
  | zero =>
    intro w_3l2 w_3m0 w_3m1 hI r0 r1 r2 e
    replace e : (w_3l2, w_3m0, w_3m1) = (r0, r1, r2) := e
    cases e
    exact hI
  | succ n ih =>
    intro w_3l2 w_3m0 w_3m1 hI r0 r1 r2 e
    rw [f_m_layCosts_12_s] at e
    have hI0 := hI
    obtain ⟨i_1, i_2, i_3⟩ := hI0
    obtain ⟨w_3m0_2, w_3m0_3, w_3m0_4, w_3m0_5, w_3m0_6, w_3m0_14, w_3m0_42⟩ := QGs i_1
    by_cases c_4 : (w_3m0 5) ≤ w_3l2
    · rw [if_pos c_4] at e
      try simp (disch := omega) only [↓i_in, ↓i_isCouple, ↓i_isBridge, ↓i_isTheme, ↓i_isBarge, i_lt, i_le, i_eq, i_clamp, i_upd, i_m1, Int32.toInt_toInt64, Int32.toInt_add, Int32.toInt_sub, Int32.toInt_mul, bm32, Int32.reduceToInt, Int64.reduceToInt, Nat.reduceLT, Nat.reduceEqDiff, reduceIte, w_3m0_2, w_3m0_3, w_3m0_4, w_3m0_5, w_3m0_6, w_3m0_14, w_3m0_42] at c_4
      cases e
      exact hI
    · rw [if_neg c_4] at e
      try simp (disch := omega) only [↓i_in, ↓i_isCouple, ↓i_isBridge, ↓i_isTheme, ↓i_isBarge, i_lt, i_le, i_eq, i_clamp, i_upd, i_m1, Int32.toInt_toInt64, Int32.toInt_add, Int32.toInt_sub, Int32.toInt_mul, bm32, Int32.reduceToInt, Int64.reduceToInt, Nat.reduceLT, Nat.reduceEqDiff, reduceIte, w_3m0_2, w_3m0_3, w_3m0_4, w_3m0_5, w_3m0_6, w_3m0_14, w_3m0_42] at c_4
      generalize x_5 : (f_m_best w_3m0 f0 f10 f8 w_3l2 w_1l1) = z_6 at e
      obtain ⟨r_7, u_6⟩ := z_6
      replace e : ((if r_7 = (-1) then (f_m_layCosts_12 f0 f10 f8 w_1l1 n (w_3l2 + 1) u_6 (upd w_3m1 (((6 * w_1l1) + w_3l2) : Int32).toNatClampNeg 1000000000)) else (f_m_layCosts_12 f0 f10 f8 w_1l1 n (w_3l2 + 1) u_6 (upd w_3m1 (((6 * w_1l1) + w_3l2) : Int32).toNatClampNeg (u_6 35))))) = (r0, r1, r2) := e
      have p_7 := p_best (GI.of i_1 h_0) (by first | omega | (simp (disch := omega) only [↓i_in, ↓i_isCouple, ↓i_isBridge, ↓i_isTheme, ↓i_isBarge, i_lt, i_le, i_eq, i_clamp, i_upd, i_m1, Int32.toInt_toInt64, Int32.toInt_add, Int32.toInt_sub, Int32.toInt_mul, bm32, Int32.reduceToInt, Int64.reduceToInt, Nat.reduceLT, Nat.reduceEqDiff, reduceIte, w_3m0_2, w_3m0_3, w_3m0_4, w_3m0_5, w_3m0_6, w_3m0_14, w_3m0_42] <;> omega)) (by first | omega | (simp (disch := omega) only [↓i_in, ↓i_isCouple, ↓i_isBridge, ↓i_isTheme, ↓i_isBarge, i_lt, i_le, i_eq, i_clamp, i_upd, i_m1, Int32.toInt_toInt64, Int32.toInt_add, Int32.toInt_sub, Int32.toInt_mul, bm32, Int32.reduceToInt, Int64.reduceToInt, Nat.reduceLT, Nat.reduceEqDiff, reduceIte, w_3m0_2, w_3m0_3, w_3m0_4, w_3m0_5, w_3m0_6, w_3m0_14, w_3m0_42] <;> omega)) (by first | omega | (simp (disch := omega) only [↓i_in, ↓i_isCouple, ↓i_isBridge, ↓i_isTheme, ↓i_isBarge, i_lt, i_le, i_eq, i_clamp, i_upd, i_m1, Int32.toInt_toInt64, Int32.toInt_add, Int32.toInt_sub, Int32.toInt_mul, bm32, Int32.reduceToInt, Int64.reduceToInt, Nat.reduceLT, Nat.reduceEqDiff, reduceIte, w_3m0_2, w_3m0_3, w_3m0_4, w_3m0_5, w_3m0_6, w_3m0_14, w_3m0_42] <;> omega)) (by first | omega | (simp (disch := omega) only [↓i_in, ↓i_isCouple, ↓i_isBridge, ↓i_isTheme, ↓i_isBarge, i_lt, i_le, i_eq, i_clamp, i_upd, i_m1, Int32.toInt_toInt64, Int32.toInt_add, Int32.toInt_sub, Int32.toInt_mul, bm32, Int32.reduceToInt, Int64.reduceToInt, Nat.reduceLT, Nat.reduceEqDiff, reduceIte, w_3m0_2, w_3m0_3, w_3m0_4, w_3m0_5, w_3m0_6, w_3m0_14, w_3m0_42] <;> omega)) _ _ x_5
      have i_8 := p_7
      replace i_8 := QG.trans i_1 i_8
      obtain ⟨u_6_2, u_6_3, u_6_4, u_6_5, u_6_6, u_6_14, u_6_42⟩ := QGs i_8
      by_cases c_9 : r_7 = (-1)
      · rw [if_pos c_9] at e
        try simp (disch := omega) only [↓i_in, ↓i_isCouple, ↓i_isBridge, ↓i_isTheme, ↓i_isBarge, i_lt, i_le, i_eq, i_clamp, i_upd, i_m1, Int32.toInt_toInt64, Int32.toInt_add, Int32.toInt_sub, Int32.toInt_mul, bm32, Int32.reduceToInt, Int64.reduceToInt, Nat.reduceLT, Nat.reduceEqDiff, reduceIte, w_3m0_2, w_3m0_3, w_3m0_4, w_3m0_5, w_3m0_6, w_3m0_14, w_3m0_42, u_6_2, u_6_3, u_6_4, u_6_5, u_6_6, u_6_14, u_6_42] at c_9
        exact ih (w_3l2 + 1) u_6 (upd w_3m1 (((6 * w_1l1) + w_3l2) : Int32).toNatClampNeg 1000000000) (⟨i_8, (by first | omega | (simp (disch := omega) only [↓i_in, ↓i_isCouple, ↓i_isBridge, ↓i_isTheme, ↓i_isBarge, i_lt, i_le, i_eq, i_clamp, i_upd, i_m1, Int32.toInt_toInt64, Int32.toInt_add, Int32.toInt_sub, Int32.toInt_mul, bm32, Int32.reduceToInt, Int64.reduceToInt, Nat.reduceLT, Nat.reduceEqDiff, reduceIte, w_3m0_2, w_3m0_3, w_3m0_4, w_3m0_5, w_3m0_6, w_3m0_14, w_3m0_42, u_6_2, u_6_3, u_6_4, u_6_5, u_6_6, u_6_14, u_6_42] <;> omega)), (by first | omega | (simp (disch := omega) only [↓i_in, ↓i_isCouple, ↓i_isBridge, ↓i_isTheme, ↓i_isBarge, i_lt, i_le, i_eq, i_clamp, i_upd, i_m1, Int32.toInt_toInt64, Int32.toInt_add, Int32.toInt_sub, Int32.toInt_mul, bm32, Int32.reduceToInt, Int64.reduceToInt, Nat.reduceLT, Nat.reduceEqDiff, reduceIte, w_3m0_2, w_3m0_3, w_3m0_4, w_3m0_5, w_3m0_6, w_3m0_14, w_3m0_42, u_6_2, u_6_3, u_6_4, u_6_5, u_6_6, u_6_14, u_6_42] <;> omega))⟩) _ _ _ e
      · rw [if_neg c_9] at e
        try simp (disch := omega) only [↓i_in, ↓i_isCouple, ↓i_isBridge, ↓i_isTheme, ↓i_isBarge, i_lt, i_le, i_eq, i_clamp, i_upd, i_m1, Int32.toInt_toInt64, Int32.toInt_add, Int32.toInt_sub, Int32.toInt_mul, bm32, Int32.reduceToInt, Int64.reduceToInt, Nat.reduceLT, Nat.reduceEqDiff, reduceIte, w_3m0_2, w_3m0_3, w_3m0_4, w_3m0_5, w_3m0_6, w_3m0_14, w_3m0_42, u_6_2, u_6_3, u_6_4, u_6_5, u_6_6, u_6_14, u_6_42] at c_9
        exact ih (w_3l2 + 1) u_6 (upd w_3m1 (((6 * w_1l1) + w_3l2) : Int32).toNatClampNeg (u_6 35)) (⟨i_8, (by first | omega | (simp (disch := omega) only [↓i_in, ↓i_isCouple, ↓i_isBridge, ↓i_isTheme, ↓i_isBarge, i_lt, i_le, i_eq, i_clamp, i_upd, i_m1, Int32.toInt_toInt64, Int32.toInt_add, Int32.toInt_sub, Int32.toInt_mul, bm32, Int32.reduceToInt, Int64.reduceToInt, Nat.reduceLT, Nat.reduceEqDiff, reduceIte, w_3m0_2, w_3m0_3, w_3m0_4, w_3m0_5, w_3m0_6, w_3m0_14, w_3m0_42, u_6_2, u_6_3, u_6_4, u_6_5, u_6_6, u_6_14, u_6_42] <;> omega)), (by first | omega | (simp (disch := omega) only [↓i_in, ↓i_isCouple, ↓i_isBridge, ↓i_isTheme, ↓i_isBarge, i_lt, i_le, i_eq, i_clamp, i_upd, i_m1, Int32.toInt_toInt64, Int32.toInt_add, Int32.toInt_sub, Int32.toInt_mul, bm32, Int32.reduceToInt, Int64.reduceToInt, Nat.reduceLT, Nat.reduceEqDiff, reduceIte, w_3m0_2, w_3m0_3, w_3m0_4, w_3m0_5, w_3m0_6, w_3m0_14, w_3m0_42, u_6_2, u_6_3, u_6_4, u_6_5, u_6_6, u_6_14, u_6_42] <;> omega))⟩) _ _ _ e
set_option maxHeartbeats 4000000 in
theorem sl_layCosts_2 {G : Nat → Int32} {f0 : Nat → Int32} {f10 : Nat → Int32} {f8 : Nat → Int32} {K : Int32 → (Nat → Int32) → (Nat → Int32) → Prop} (h_0 : GI G) (hK : ∀ w_1l1 w_1m0 w_1m1, (QG G w_1m0 ∧ (0 ≤ w_1l1.toInt) ∧ (w_1l1.toInt ≤ 6)) → K w_1l1 w_1m0 w_1m1) : ∀ (n : Nat) w_1l1 w_1m0 w_1m1, (QG G w_1m0 ∧ (0 ≤ w_1l1.toInt) ∧ (w_1l1.toInt ≤ 6)) → (7 - w_1l1.toInt).toNat < n → S_m_layCosts_2 f0 f10 f8 K n w_1l1 w_1m0 w_1m1 := by
  have h_0_g := h_0
  obtain ⟨⟨h_0_2a, h_0_2b⟩, ⟨h_0_3a, h_0_3b⟩, ⟨h_0_4a, h_0_4b⟩, ⟨h_0_5a, h_0_5b⟩, ⟨h_0_6a, h_0_6b⟩, ⟨h_0_14a, h_0_14b⟩, ⟨h_0_42a, h_0_42b⟩⟩ := h_0_g
  intro n
  induction n with
  | zero => intro w_1l1 w_1m0 w_1m1 hI hm; exact absurd hm (Nat.not_lt_zero _)
  | succ n ih =>
    intro w_1l1 w_1m0 w_1m1 hI hm
    rw [S_m_layCosts_2_s]
    have hI0 := hI
    obtain ⟨i_1, i_2, i_3⟩ := hI0
    obtain ⟨w_1m0_2, w_1m0_3, w_1m0_4, w_1m0_5, w_1m0_6, w_1m0_14, w_1m0_42⟩ := QGs i_1
    refine ⟨fun c_4 => ?_, fun c_4 => ?_⟩
    · skip
      try simp (disch := omega) only [↓i_in, ↓i_isCouple, ↓i_isBridge, ↓i_isTheme, ↓i_isBarge, i_lt, i_le, i_eq, i_clamp, i_upd, i_m1, Int32.toInt_toInt64, Int32.toInt_add, Int32.toInt_sub, Int32.toInt_mul, bm32, Int32.reduceToInt, Int64.reduceToInt, Nat.reduceLT, Nat.reduceEqDiff, reduceIte, w_1m0_2, w_1m0_3, w_1m0_4, w_1m0_5, w_1m0_6, w_1m0_14, w_1m0_42] at c_4
      exact hK w_1l1 w_1m0 w_1m1 hI
    · skip
      try simp (disch := omega) only [↓i_in, ↓i_isCouple, ↓i_isBridge, ↓i_isTheme, ↓i_isBarge, i_lt, i_le, i_eq, i_clamp, i_upd, i_m1, Int32.toInt_toInt64, Int32.toInt_add, Int32.toInt_sub, Int32.toInt_mul, bm32, Int32.reduceToInt, Int64.reduceToInt, Nat.reduceLT, Nat.reduceEqDiff, reduceIte, w_1m0_2, w_1m0_3, w_1m0_4, w_1m0_5, w_1m0_6, w_1m0_14, w_1m0_42] at c_4
      refine sl_layCosts_12 h_0 (by first | omega | (simp (disch := omega) only [↓i_in, ↓i_isCouple, ↓i_isBridge, ↓i_isTheme, ↓i_isBarge, i_lt, i_le, i_eq, i_clamp, i_upd, i_m1, Int32.toInt_toInt64, Int32.toInt_add, Int32.toInt_sub, Int32.toInt_mul, bm32, Int32.reduceToInt, Int64.reduceToInt, Nat.reduceLT, Nat.reduceEqDiff, reduceIte, w_1m0_2, w_1m0_3, w_1m0_4, w_1m0_5, w_1m0_6, w_1m0_14, w_1m0_42] <;> omega)) (by first | omega | (simp (disch := omega) only [↓i_in, ↓i_isCouple, ↓i_isBridge, ↓i_isTheme, ↓i_isBarge, i_lt, i_le, i_eq, i_clamp, i_upd, i_m1, Int32.toInt_toInt64, Int32.toInt_add, Int32.toInt_sub, Int32.toInt_mul, bm32, Int32.reduceToInt, Int64.reduceToInt, Nat.reduceLT, Nat.reduceEqDiff, reduceIte, w_1m0_2, w_1m0_3, w_1m0_4, w_1m0_5, w_1m0_6, w_1m0_14, w_1m0_42] <;> omega)) ?_ 10 0 w_1m0 w_1m1 (⟨i_1, (by first | omega | (simp (disch := omega) only [↓i_in, ↓i_isCouple, ↓i_isBridge, ↓i_isTheme, ↓i_isBarge, i_lt, i_le, i_eq, i_clamp, i_upd, i_m1, Int32.toInt_toInt64, Int32.toInt_add, Int32.toInt_sub, Int32.toInt_mul, bm32, Int32.reduceToInt, Int64.reduceToInt, Nat.reduceLT, Nat.reduceEqDiff, reduceIte, w_1m0_2, w_1m0_3, w_1m0_4, w_1m0_5, w_1m0_6, w_1m0_14, w_1m0_42] <;> omega)), (by first | omega | (simp (disch := omega) only [↓i_in, ↓i_isCouple, ↓i_isBridge, ↓i_isTheme, ↓i_isBarge, i_lt, i_le, i_eq, i_clamp, i_upd, i_m1, Int32.toInt_toInt64, Int32.toInt_add, Int32.toInt_sub, Int32.toInt_mul, bm32, Int32.reduceToInt, Int64.reduceToInt, Nat.reduceLT, Nat.reduceEqDiff, reduceIte, w_1m0_2, w_1m0_3, w_1m0_4, w_1m0_5, w_1m0_6, w_1m0_14, w_1m0_42] <;> omega))⟩) (by first | omega | (simp (disch := omega) only [↓i_in, ↓i_isCouple, ↓i_isBridge, ↓i_isTheme, ↓i_isBarge, i_lt, i_le, i_eq, i_clamp, i_upd, i_m1, Int32.toInt_toInt64, Int32.toInt_add, Int32.toInt_sub, Int32.toInt_mul, bm32, Int32.reduceToInt, Int64.reduceToInt, Nat.reduceLT, Nat.reduceEqDiff, reduceIte, w_1m0_2, w_1m0_3, w_1m0_4, w_1m0_5, w_1m0_6, w_1m0_14, w_1m0_42] <;> omega))
      intro w_3l2 w_3m0 w_3m1 i_5
      obtain ⟨i_6, i_7, i_8⟩ := i_5
      obtain ⟨w_3m0_2, w_3m0_3, w_3m0_4, w_3m0_5, w_3m0_6, w_3m0_14, w_3m0_42⟩ := QGs i_6
      exact ih (w_1l1 + 1) w_3m0 w_3m1 (⟨i_6, (by first | omega | (simp (disch := omega) only [↓i_in, ↓i_isCouple, ↓i_isBridge, ↓i_isTheme, ↓i_isBarge, i_lt, i_le, i_eq, i_clamp, i_upd, i_m1, Int32.toInt_toInt64, Int32.toInt_add, Int32.toInt_sub, Int32.toInt_mul, bm32, Int32.reduceToInt, Int64.reduceToInt, Nat.reduceLT, Nat.reduceEqDiff, reduceIte, w_1m0_2, w_1m0_3, w_1m0_4, w_1m0_5, w_1m0_6, w_1m0_14, w_1m0_42, w_3m0_2, w_3m0_3, w_3m0_4, w_3m0_5, w_3m0_6, w_3m0_14, w_3m0_42] <;> omega)), (by first | omega | (simp (disch := omega) only [↓i_in, ↓i_isCouple, ↓i_isBridge, ↓i_isTheme, ↓i_isBarge, i_lt, i_le, i_eq, i_clamp, i_upd, i_m1, Int32.toInt_toInt64, Int32.toInt_add, Int32.toInt_sub, Int32.toInt_mul, bm32, Int32.reduceToInt, Int64.reduceToInt, Nat.reduceLT, Nat.reduceEqDiff, reduceIte, w_1m0_2, w_1m0_3, w_1m0_4, w_1m0_5, w_1m0_6, w_1m0_14, w_1m0_42, w_3m0_2, w_3m0_3, w_3m0_4, w_3m0_5, w_3m0_6, w_3m0_14, w_3m0_42] <;> omega))⟩) (by first | omega | (simp (disch := omega) only [↓i_in, ↓i_isCouple, ↓i_isBridge, ↓i_isTheme, ↓i_isBarge, i_lt, i_le, i_eq, i_clamp, i_upd, i_m1, Int32.toInt_toInt64, Int32.toInt_add, Int32.toInt_sub, Int32.toInt_mul, bm32, Int32.reduceToInt, Int64.reduceToInt, Nat.reduceLT, Nat.reduceEqDiff, reduceIte, w_1m0_2, w_1m0_3, w_1m0_4, w_1m0_5, w_1m0_6, w_1m0_14, w_1m0_42, w_3m0_2, w_3m0_3, w_3m0_4, w_3m0_5, w_3m0_6, w_3m0_14, w_3m0_42] <;> omega))
set_option maxHeartbeats 4000000 in
theorem pl_layCosts_2 {G : Nat → Int32} {f0 : Nat → Int32} {f10 : Nat → Int32} {f8 : Nat → Int32} (h_0 : GI G) : ∀ (n : Nat) w_1l1 w_1m0 w_1m1, (QG G w_1m0 ∧ (0 ≤ w_1l1.toInt) ∧ (w_1l1.toInt ≤ 6)) → ∀ r0 r1 r2, f_m_layCosts_2 f0 f10 f8 n w_1l1 w_1m0 w_1m1 = (r0, r1, r2) → QG G r1 ∧ (0 ≤ r0.toInt) ∧ (r0.toInt ≤ 6) := by
  have h_0_g := h_0
  obtain ⟨⟨h_0_2a, h_0_2b⟩, ⟨h_0_3a, h_0_3b⟩, ⟨h_0_4a, h_0_4b⟩, ⟨h_0_5a, h_0_5b⟩, ⟨h_0_6a, h_0_6b⟩, ⟨h_0_14a, h_0_14b⟩, ⟨h_0_42a, h_0_42b⟩⟩ := h_0_g
  intro n
  induction n with
  | zero =>
    intro w_1l1 w_1m0 w_1m1 hI r0 r1 r2 e
    replace e : (w_1l1, w_1m0, w_1m1) = (r0, r1, r2) := e
    cases e
    exact hI
  | succ n ih =>
    intro w_1l1 w_1m0 w_1m1 hI r0 r1 r2 e
    rw [f_m_layCosts_2_s] at e
    have hI0 := hI
    obtain ⟨i_1, i_2, i_3⟩ := hI0
    obtain ⟨w_1m0_2, w_1m0_3, w_1m0_4, w_1m0_5, w_1m0_6, w_1m0_14, w_1m0_42⟩ := QGs i_1
    by_cases c_4 : (w_1m0 3) ≤ w_1l1
    · rw [if_pos c_4] at e
      try simp (disch := omega) only [↓i_in, ↓i_isCouple, ↓i_isBridge, ↓i_isTheme, ↓i_isBarge, i_lt, i_le, i_eq, i_clamp, i_upd, i_m1, Int32.toInt_toInt64, Int32.toInt_add, Int32.toInt_sub, Int32.toInt_mul, bm32, Int32.reduceToInt, Int64.reduceToInt, Nat.reduceLT, Nat.reduceEqDiff, reduceIte, w_1m0_2, w_1m0_3, w_1m0_4, w_1m0_5, w_1m0_6, w_1m0_14, w_1m0_42] at c_4
      cases e
      exact hI
    · rw [if_neg c_4] at e
      try simp (disch := omega) only [↓i_in, ↓i_isCouple, ↓i_isBridge, ↓i_isTheme, ↓i_isBarge, i_lt, i_le, i_eq, i_clamp, i_upd, i_m1, Int32.toInt_toInt64, Int32.toInt_add, Int32.toInt_sub, Int32.toInt_mul, bm32, Int32.reduceToInt, Int64.reduceToInt, Nat.reduceLT, Nat.reduceEqDiff, reduceIte, w_1m0_2, w_1m0_3, w_1m0_4, w_1m0_5, w_1m0_6, w_1m0_14, w_1m0_42] at c_4
      generalize x_5 : (f_m_layCosts_12 f0 f10 f8 w_1l1 10 0 w_1m0 w_1m1) = z_6 at e
      obtain ⟨w_3l2, w_3m0, w_3m1⟩ := z_6
      replace e : ((f_m_layCosts_2 f0 f10 f8 n (w_1l1 + 1) w_3m0 w_3m1)) = (r0, r1, r2) := e
      have p_7 := pl_layCosts_12 h_0 (by first | omega | (simp (disch := omega) only [↓i_in, ↓i_isCouple, ↓i_isBridge, ↓i_isTheme, ↓i_isBarge, i_lt, i_le, i_eq, i_clamp, i_upd, i_m1, Int32.toInt_toInt64, Int32.toInt_add, Int32.toInt_sub, Int32.toInt_mul, bm32, Int32.reduceToInt, Int64.reduceToInt, Nat.reduceLT, Nat.reduceEqDiff, reduceIte, w_1m0_2, w_1m0_3, w_1m0_4, w_1m0_5, w_1m0_6, w_1m0_14, w_1m0_42] <;> omega)) (by first | omega | (simp (disch := omega) only [↓i_in, ↓i_isCouple, ↓i_isBridge, ↓i_isTheme, ↓i_isBarge, i_lt, i_le, i_eq, i_clamp, i_upd, i_m1, Int32.toInt_toInt64, Int32.toInt_add, Int32.toInt_sub, Int32.toInt_mul, bm32, Int32.reduceToInt, Int64.reduceToInt, Nat.reduceLT, Nat.reduceEqDiff, reduceIte, w_1m0_2, w_1m0_3, w_1m0_4, w_1m0_5, w_1m0_6, w_1m0_14, w_1m0_42] <;> omega)) 10 0 w_1m0 w_1m1 (⟨i_1, (by first | omega | (simp (disch := omega) only [↓i_in, ↓i_isCouple, ↓i_isBridge, ↓i_isTheme, ↓i_isBarge, i_lt, i_le, i_eq, i_clamp, i_upd, i_m1, Int32.toInt_toInt64, Int32.toInt_add, Int32.toInt_sub, Int32.toInt_mul, bm32, Int32.reduceToInt, Int64.reduceToInt, Nat.reduceLT, Nat.reduceEqDiff, reduceIte, w_1m0_2, w_1m0_3, w_1m0_4, w_1m0_5, w_1m0_6, w_1m0_14, w_1m0_42] <;> omega)), (by first | omega | (simp (disch := omega) only [↓i_in, ↓i_isCouple, ↓i_isBridge, ↓i_isTheme, ↓i_isBarge, i_lt, i_le, i_eq, i_clamp, i_upd, i_m1, Int32.toInt_toInt64, Int32.toInt_add, Int32.toInt_sub, Int32.toInt_mul, bm32, Int32.reduceToInt, Int64.reduceToInt, Nat.reduceLT, Nat.reduceEqDiff, reduceIte, w_1m0_2, w_1m0_3, w_1m0_4, w_1m0_5, w_1m0_6, w_1m0_14, w_1m0_42] <;> omega))⟩) _ _ _ x_5
      obtain ⟨i_8, i_9, i_10⟩ := p_7
      obtain ⟨w_3m0_2, w_3m0_3, w_3m0_4, w_3m0_5, w_3m0_6, w_3m0_14, w_3m0_42⟩ := QGs i_8
      exact ih (w_1l1 + 1) w_3m0 w_3m1 (⟨i_8, (by first | omega | (simp (disch := omega) only [↓i_in, ↓i_isCouple, ↓i_isBridge, ↓i_isTheme, ↓i_isBarge, i_lt, i_le, i_eq, i_clamp, i_upd, i_m1, Int32.toInt_toInt64, Int32.toInt_add, Int32.toInt_sub, Int32.toInt_mul, bm32, Int32.reduceToInt, Int64.reduceToInt, Nat.reduceLT, Nat.reduceEqDiff, reduceIte, w_1m0_2, w_1m0_3, w_1m0_4, w_1m0_5, w_1m0_6, w_1m0_14, w_1m0_42, w_3m0_2, w_3m0_3, w_3m0_4, w_3m0_5, w_3m0_6, w_3m0_14, w_3m0_42] <;> omega)), (by first | omega | (simp (disch := omega) only [↓i_in, ↓i_isCouple, ↓i_isBridge, ↓i_isTheme, ↓i_isBarge, i_lt, i_le, i_eq, i_clamp, i_upd, i_m1, Int32.toInt_toInt64, Int32.toInt_add, Int32.toInt_sub, Int32.toInt_mul, bm32, Int32.reduceToInt, Int64.reduceToInt, Nat.reduceLT, Nat.reduceEqDiff, reduceIte, w_1m0_2, w_1m0_3, w_1m0_4, w_1m0_5, w_1m0_6, w_1m0_14, w_1m0_42, w_3m0_2, w_3m0_3, w_3m0_4, w_3m0_5, w_3m0_6, w_3m0_14, w_3m0_42] <;> omega))⟩) _ _ _ e
set_option maxHeartbeats 4000000 in
theorem s_layCosts {G : Nat → Int32} {f0 : Nat → Int32} {f10 : Nat → Int32} {f8 : Nat → Int32} {f37 : Nat → Int32} (h_0 : GI G) : S_m_layCosts G f0 f10 f8 f37 := by
  unfold S_m_layCosts
  have h_0_g := h_0
  obtain ⟨⟨h_0_2a, h_0_2b⟩, ⟨h_0_3a, h_0_3b⟩, ⟨h_0_4a, h_0_4b⟩, ⟨h_0_5a, h_0_5b⟩, ⟨h_0_6a, h_0_6b⟩, ⟨h_0_14a, h_0_14b⟩, ⟨h_0_42a, h_0_42b⟩⟩ := h_0_g
  refine sl_layCosts_2 h_0 ?_ 10 0 G f37 (⟨(QG.refl _), (by first | omega | (simp (disch := omega) only [↓i_in, ↓i_isCouple, ↓i_isBridge, ↓i_isTheme, ↓i_isBarge, i_lt, i_le, i_eq, i_clamp, i_upd, i_m1, Int32.toInt_toInt64, Int32.toInt_add, Int32.toInt_sub, Int32.toInt_mul, bm32, Int32.reduceToInt, Int64.reduceToInt, Nat.reduceLT, Nat.reduceEqDiff, reduceIte] <;> omega)), (by first | omega | (simp (disch := omega) only [↓i_in, ↓i_isCouple, ↓i_isBridge, ↓i_isTheme, ↓i_isBarge, i_lt, i_le, i_eq, i_clamp, i_upd, i_m1, Int32.toInt_toInt64, Int32.toInt_add, Int32.toInt_sub, Int32.toInt_mul, bm32, Int32.reduceToInt, Int64.reduceToInt, Nat.reduceLT, Nat.reduceEqDiff, reduceIte] <;> omega))⟩) (by first | omega | (simp (disch := omega) only [↓i_in, ↓i_isCouple, ↓i_isBridge, ↓i_isTheme, ↓i_isBarge, i_lt, i_le, i_eq, i_clamp, i_upd, i_m1, Int32.toInt_toInt64, Int32.toInt_add, Int32.toInt_sub, Int32.toInt_mul, bm32, Int32.reduceToInt, Int64.reduceToInt, Nat.reduceLT, Nat.reduceEqDiff, reduceIte] <;> omega))
  intro w_1l1 w_1m0 w_1m1 i_1
  obtain ⟨i_2, i_3, i_4⟩ := i_1
  obtain ⟨w_1m0_2, w_1m0_3, w_1m0_4, w_1m0_5, w_1m0_6, w_1m0_14, w_1m0_42⟩ := QGs i_2
  exact trivial
set_option maxHeartbeats 4000000 in
theorem p_layCosts {G : Nat → Int32} {f0 : Nat → Int32} {f10 : Nat → Int32} {f8 : Nat → Int32} {f37 : Nat → Int32} (h_0 : GI G) : ∀ (u : (Nat → Int32)) (v : (Nat → Int32)), f_m_layCosts G f0 f10 f8 f37 = (u, v) → QG G u := by
  have h_0_g := h_0
  obtain ⟨⟨h_0_2a, h_0_2b⟩, ⟨h_0_3a, h_0_3b⟩, ⟨h_0_4a, h_0_4b⟩, ⟨h_0_5a, h_0_5b⟩, ⟨h_0_6a, h_0_6b⟩, ⟨h_0_14a, h_0_14b⟩, ⟨h_0_42a, h_0_42b⟩⟩ := h_0_g
  intro u v e
  unfold f_m_layCosts at e
  generalize x_1 : (f_m_layCosts_2 f0 f10 f8 10 0 G f37) = z_2 at e
  obtain ⟨w_1l1, w_1m0, w_1m1⟩ := z_2
  replace e : ((w_1m0, w_1m1)) = (u, v) := e
  have p_3 := pl_layCosts_2 h_0 10 0 G f37 (⟨(QG.refl _), (by first | omega | (simp (disch := omega) only [↓i_in, ↓i_isCouple, ↓i_isBridge, ↓i_isTheme, ↓i_isBarge, i_lt, i_le, i_eq, i_clamp, i_upd, i_m1, Int32.toInt_toInt64, Int32.toInt_add, Int32.toInt_sub, Int32.toInt_mul, bm32, Int32.reduceToInt, Int64.reduceToInt, Nat.reduceLT, Nat.reduceEqDiff, reduceIte] <;> omega)), (by first | omega | (simp (disch := omega) only [↓i_in, ↓i_isCouple, ↓i_isBridge, ↓i_isTheme, ↓i_isBarge, i_lt, i_le, i_eq, i_clamp, i_upd, i_m1, Int32.toInt_toInt64, Int32.toInt_add, Int32.toInt_sub, Int32.toInt_mul, bm32, Int32.reduceToInt, Int64.reduceToInt, Nat.reduceLT, Nat.reduceEqDiff, reduceIte] <;> omega))⟩) _ _ _ x_1
  obtain ⟨i_4, i_5, i_6⟩ := p_3
  obtain ⟨w_1m0_2, w_1m0_3, w_1m0_4, w_1m0_5, w_1m0_6, w_1m0_14, w_1m0_42⟩ := QGs i_4
  cases e
  exact i_4
set_option maxHeartbeats 4000000 in
theorem sl_wornOut_22 {G : Nat → Int32} {f0 : Nat → Int32} {f10 : Nat → Int32} {w_1l3 : Int32} {K : Int32 → Int32 → (Nat → Int32) → Prop} (h_0 : GI G) (h_1 : 0 ≤ w_1l3.toInt) (h_2 : w_1l3.toInt < 6) (hK : ∀ w_3l5 w_3l4 w_3m0, (QG G w_3m0 ∧ (0 ≤ w_3l5.toInt) ∧ (w_3l5.toInt ≤ 5)) → K w_3l5 w_3l4 w_3m0) : ∀ (n : Nat) w_3l5 w_3l4 w_3m0, (QG G w_3m0 ∧ (0 ≤ w_3l5.toInt) ∧ (w_3l5.toInt ≤ 5)) → (6 - w_3l5.toInt).toNat < n → S_m_wornOut_22 f0 f10 w_1l3 K n w_3l5 w_3l4 w_3m0 := by
  have h_0_g := h_0
  obtain ⟨⟨h_0_2a, h_0_2b⟩, ⟨h_0_3a, h_0_3b⟩, ⟨h_0_4a, h_0_4b⟩, ⟨h_0_5a, h_0_5b⟩, ⟨h_0_6a, h_0_6b⟩, ⟨h_0_14a, h_0_14b⟩, ⟨h_0_42a, h_0_42b⟩⟩ := h_0_g
  intro n
  induction n with
  | zero => intro w_3l5 w_3l4 w_3m0 hI hm; exact absurd hm (Nat.not_lt_zero _)
  | succ n ih =>
    intro w_3l5 w_3l4 w_3m0 hI hm
    rw [S_m_wornOut_22_s]
    have hI0 := hI
    obtain ⟨i_1, i_2, i_3⟩ := hI0
    obtain ⟨w_3m0_2, w_3m0_3, w_3m0_4, w_3m0_5, w_3m0_6, w_3m0_14, w_3m0_42⟩ := QGs i_1
    refine ⟨fun c_4 => ?_, fun c_4 => ?_⟩
    · skip
      try simp (disch := omega) only [↓i_in, ↓i_isCouple, ↓i_isBridge, ↓i_isTheme, ↓i_isBarge, i_lt, i_le, i_eq, i_clamp, i_upd, i_m1, Int32.toInt_toInt64, Int32.toInt_add, Int32.toInt_sub, Int32.toInt_mul, bm32, Int32.reduceToInt, Int64.reduceToInt, Nat.reduceLT, Nat.reduceEqDiff, reduceIte, w_3m0_2, w_3m0_3, w_3m0_4, w_3m0_5, w_3m0_6, w_3m0_14, w_3m0_42] at c_4
      exact hK w_3l5 w_3l4 w_3m0 hI
    · skip
      try simp (disch := omega) only [↓i_in, ↓i_isCouple, ↓i_isBridge, ↓i_isTheme, ↓i_isBarge, i_lt, i_le, i_eq, i_clamp, i_upd, i_m1, Int32.toInt_toInt64, Int32.toInt_add, Int32.toInt_sub, Int32.toInt_mul, bm32, Int32.reduceToInt, Int64.reduceToInt, Nat.reduceLT, Nat.reduceEqDiff, reduceIte, w_3m0_2, w_3m0_3, w_3m0_4, w_3m0_5, w_3m0_6, w_3m0_14, w_3m0_42] at c_4
      refine ⟨(s_lastsOf (by first | omega | (simp (disch := omega) only [↓i_in, ↓i_isCouple, ↓i_isBridge, ↓i_isTheme, ↓i_isBarge, i_lt, i_le, i_eq, i_clamp, i_upd, i_m1, Int32.toInt_toInt64, Int32.toInt_add, Int32.toInt_sub, Int32.toInt_mul, bm32, Int32.reduceToInt, Int64.reduceToInt, Nat.reduceLT, Nat.reduceEqDiff, reduceIte, w_3m0_2, w_3m0_3, w_3m0_4, w_3m0_5, w_3m0_6, w_3m0_14, w_3m0_42] <;> omega)) (by first | omega | (simp (disch := omega) only [↓i_in, ↓i_isCouple, ↓i_isBridge, ↓i_isTheme, ↓i_isBarge, i_lt, i_le, i_eq, i_clamp, i_upd, i_m1, Int32.toInt_toInt64, Int32.toInt_add, Int32.toInt_sub, Int32.toInt_mul, bm32, Int32.reduceToInt, Int64.reduceToInt, Nat.reduceLT, Nat.reduceEqDiff, reduceIte, w_3m0_2, w_3m0_3, w_3m0_4, w_3m0_5, w_3m0_6, w_3m0_14, w_3m0_42] <;> omega)) (by first | omega | (simp (disch := omega) only [↓i_in, ↓i_isCouple, ↓i_isBridge, ↓i_isTheme, ↓i_isBarge, i_lt, i_le, i_eq, i_clamp, i_upd, i_m1, Int32.toInt_toInt64, Int32.toInt_add, Int32.toInt_sub, Int32.toInt_mul, bm32, Int32.reduceToInt, Int64.reduceToInt, Nat.reduceLT, Nat.reduceEqDiff, reduceIte, w_3m0_2, w_3m0_3, w_3m0_4, w_3m0_5, w_3m0_6, w_3m0_14, w_3m0_42] <;> omega)) (by first | omega | (simp (disch := omega) only [↓i_in, ↓i_isCouple, ↓i_isBridge, ↓i_isTheme, ↓i_isBarge, i_lt, i_le, i_eq, i_clamp, i_upd, i_m1, Int32.toInt_toInt64, Int32.toInt_add, Int32.toInt_sub, Int32.toInt_mul, bm32, Int32.reduceToInt, Int64.reduceToInt, Nat.reduceLT, Nat.reduceEqDiff, reduceIte, w_3m0_2, w_3m0_3, w_3m0_4, w_3m0_5, w_3m0_6, w_3m0_14, w_3m0_42] <;> omega))), ?_⟩
      intro r_18 u_17 e_5
      have p_6 := p_lastsOf _ _ e_5.symm
      have i_7 := p_6
      replace i_7 := QG.trans i_1 i_7
      obtain ⟨u_17_2, u_17_3, u_17_4, u_17_5, u_17_6, u_17_14, u_17_42⟩ := QGs i_7
      refine ⟨fun c_8 => ?_, fun c_8 => ?_⟩
      · skip
        try simp (disch := omega) only [↓i_in, ↓i_isCouple, ↓i_isBridge, ↓i_isTheme, ↓i_isBarge, i_lt, i_le, i_eq, i_clamp, i_upd, i_m1, Int32.toInt_toInt64, Int32.toInt_add, Int32.toInt_sub, Int32.toInt_mul, bm32, Int32.reduceToInt, Int64.reduceToInt, Nat.reduceLT, Nat.reduceEqDiff, reduceIte, w_3m0_2, w_3m0_3, w_3m0_4, w_3m0_5, w_3m0_6, w_3m0_14, w_3m0_42, u_17_2, u_17_3, u_17_4, u_17_5, u_17_6, u_17_14, u_17_42] at c_8
        exact ih (w_3l5 + 1) w_3l4 u_17 (⟨i_7, (by first | omega | (simp (disch := omega) only [↓i_in, ↓i_isCouple, ↓i_isBridge, ↓i_isTheme, ↓i_isBarge, i_lt, i_le, i_eq, i_clamp, i_upd, i_m1, Int32.toInt_toInt64, Int32.toInt_add, Int32.toInt_sub, Int32.toInt_mul, bm32, Int32.reduceToInt, Int64.reduceToInt, Nat.reduceLT, Nat.reduceEqDiff, reduceIte, w_3m0_2, w_3m0_3, w_3m0_4, w_3m0_5, w_3m0_6, w_3m0_14, w_3m0_42, u_17_2, u_17_3, u_17_4, u_17_5, u_17_6, u_17_14, u_17_42] <;> omega)), (by first | omega | (simp (disch := omega) only [↓i_in, ↓i_isCouple, ↓i_isBridge, ↓i_isTheme, ↓i_isBarge, i_lt, i_le, i_eq, i_clamp, i_upd, i_m1, Int32.toInt_toInt64, Int32.toInt_add, Int32.toInt_sub, Int32.toInt_mul, bm32, Int32.reduceToInt, Int64.reduceToInt, Nat.reduceLT, Nat.reduceEqDiff, reduceIte, w_3m0_2, w_3m0_3, w_3m0_4, w_3m0_5, w_3m0_6, w_3m0_14, w_3m0_42, u_17_2, u_17_3, u_17_4, u_17_5, u_17_6, u_17_14, u_17_42] <;> omega))⟩) (by first | omega | (simp (disch := omega) only [↓i_in, ↓i_isCouple, ↓i_isBridge, ↓i_isTheme, ↓i_isBarge, i_lt, i_le, i_eq, i_clamp, i_upd, i_m1, Int32.toInt_toInt64, Int32.toInt_add, Int32.toInt_sub, Int32.toInt_mul, bm32, Int32.reduceToInt, Int64.reduceToInt, Nat.reduceLT, Nat.reduceEqDiff, reduceIte, w_3m0_2, w_3m0_3, w_3m0_4, w_3m0_5, w_3m0_6, w_3m0_14, w_3m0_42, u_17_2, u_17_3, u_17_4, u_17_5, u_17_6, u_17_14, u_17_42] <;> omega))
      · skip
        try simp (disch := omega) only [↓i_in, ↓i_isCouple, ↓i_isBridge, ↓i_isTheme, ↓i_isBarge, i_lt, i_le, i_eq, i_clamp, i_upd, i_m1, Int32.toInt_toInt64, Int32.toInt_add, Int32.toInt_sub, Int32.toInt_mul, bm32, Int32.reduceToInt, Int64.reduceToInt, Nat.reduceLT, Nat.reduceEqDiff, reduceIte, w_3m0_2, w_3m0_3, w_3m0_4, w_3m0_5, w_3m0_6, w_3m0_14, w_3m0_42, u_17_2, u_17_3, u_17_4, u_17_5, u_17_6, u_17_14, u_17_42] at c_8
        exact ih (w_3l5 + 1) r_18 u_17 (⟨i_7, (by first | omega | (simp (disch := omega) only [↓i_in, ↓i_isCouple, ↓i_isBridge, ↓i_isTheme, ↓i_isBarge, i_lt, i_le, i_eq, i_clamp, i_upd, i_m1, Int32.toInt_toInt64, Int32.toInt_add, Int32.toInt_sub, Int32.toInt_mul, bm32, Int32.reduceToInt, Int64.reduceToInt, Nat.reduceLT, Nat.reduceEqDiff, reduceIte, w_3m0_2, w_3m0_3, w_3m0_4, w_3m0_5, w_3m0_6, w_3m0_14, w_3m0_42, u_17_2, u_17_3, u_17_4, u_17_5, u_17_6, u_17_14, u_17_42] <;> omega)), (by first | omega | (simp (disch := omega) only [↓i_in, ↓i_isCouple, ↓i_isBridge, ↓i_isTheme, ↓i_isBarge, i_lt, i_le, i_eq, i_clamp, i_upd, i_m1, Int32.toInt_toInt64, Int32.toInt_add, Int32.toInt_sub, Int32.toInt_mul, bm32, Int32.reduceToInt, Int64.reduceToInt, Nat.reduceLT, Nat.reduceEqDiff, reduceIte, w_3m0_2, w_3m0_3, w_3m0_4, w_3m0_5, w_3m0_6, w_3m0_14, w_3m0_42, u_17_2, u_17_3, u_17_4, u_17_5, u_17_6, u_17_14, u_17_42] <;> omega))⟩) (by first | omega | (simp (disch := omega) only [↓i_in, ↓i_isCouple, ↓i_isBridge, ↓i_isTheme, ↓i_isBarge, i_lt, i_le, i_eq, i_clamp, i_upd, i_m1, Int32.toInt_toInt64, Int32.toInt_add, Int32.toInt_sub, Int32.toInt_mul, bm32, Int32.reduceToInt, Int64.reduceToInt, Nat.reduceLT, Nat.reduceEqDiff, reduceIte, w_3m0_2, w_3m0_3, w_3m0_4, w_3m0_5, w_3m0_6, w_3m0_14, w_3m0_42, u_17_2, u_17_3, u_17_4, u_17_5, u_17_6, u_17_14, u_17_42] <;> omega))
set_option maxHeartbeats 4000000 in
theorem pl_wornOut_22 {G : Nat → Int32} {f0 : Nat → Int32} {f10 : Nat → Int32} {w_1l3 : Int32} (h_0 : GI G) (h_1 : 0 ≤ w_1l3.toInt) (h_2 : w_1l3.toInt < 6) : ∀ (n : Nat) w_3l5 w_3l4 w_3m0, (QG G w_3m0 ∧ (0 ≤ w_3l5.toInt) ∧ (w_3l5.toInt ≤ 5)) → ∀ r0 r1 r2, f_m_wornOut_22 f0 f10 w_1l3 n w_3l5 w_3l4 w_3m0 = (r0, r1, r2) → QG G r2 ∧ (0 ≤ r0.toInt) ∧ (r0.toInt ≤ 5) := by
  have h_0_g := h_0
  obtain ⟨⟨h_0_2a, h_0_2b⟩, ⟨h_0_3a, h_0_3b⟩, ⟨h_0_4a, h_0_4b⟩, ⟨h_0_5a, h_0_5b⟩, ⟨h_0_6a, h_0_6b⟩, ⟨h_0_14a, h_0_14b⟩, ⟨h_0_42a, h_0_42b⟩⟩ := h_0_g
  intro n
  induction n with
  | zero =>
    intro w_3l5 w_3l4 w_3m0 hI r0 r1 r2 e
    replace e : (w_3l5, w_3l4, w_3m0) = (r0, r1, r2) := e
    cases e
    exact hI
  | succ n ih =>
    intro w_3l5 w_3l4 w_3m0 hI r0 r1 r2 e
    rw [f_m_wornOut_22_s] at e
    have hI0 := hI
    obtain ⟨i_1, i_2, i_3⟩ := hI0
    obtain ⟨w_3m0_2, w_3m0_3, w_3m0_4, w_3m0_5, w_3m0_6, w_3m0_14, w_3m0_42⟩ := QGs i_1
    by_cases c_4 : (w_3m0 4) ≤ w_3l5
    · rw [if_pos c_4] at e
      try simp (disch := omega) only [↓i_in, ↓i_isCouple, ↓i_isBridge, ↓i_isTheme, ↓i_isBarge, i_lt, i_le, i_eq, i_clamp, i_upd, i_m1, Int32.toInt_toInt64, Int32.toInt_add, Int32.toInt_sub, Int32.toInt_mul, bm32, Int32.reduceToInt, Int64.reduceToInt, Nat.reduceLT, Nat.reduceEqDiff, reduceIte, w_3m0_2, w_3m0_3, w_3m0_4, w_3m0_5, w_3m0_6, w_3m0_14, w_3m0_42] at c_4
      cases e
      exact hI
    · rw [if_neg c_4] at e
      try simp (disch := omega) only [↓i_in, ↓i_isCouple, ↓i_isBridge, ↓i_isTheme, ↓i_isBarge, i_lt, i_le, i_eq, i_clamp, i_upd, i_m1, Int32.toInt_toInt64, Int32.toInt_add, Int32.toInt_sub, Int32.toInt_mul, bm32, Int32.reduceToInt, Int64.reduceToInt, Nat.reduceLT, Nat.reduceEqDiff, reduceIte, w_3m0_2, w_3m0_3, w_3m0_4, w_3m0_5, w_3m0_6, w_3m0_14, w_3m0_42] at c_4
      generalize x_5 : (f_m_lastsOf w_3m0 f0 f10 w_1l3 w_3l5) = z_6 at e
      obtain ⟨r_18, u_17⟩ := z_6
      replace e : ((if r_18 ≤ w_3l4 then (f_m_wornOut_22 f0 f10 w_1l3 n (w_3l5 + 1) w_3l4 u_17) else (f_m_wornOut_22 f0 f10 w_1l3 n (w_3l5 + 1) r_18 u_17))) = (r0, r1, r2) := e
      have p_7 := p_lastsOf _ _ x_5
      have i_8 := p_7
      replace i_8 := QG.trans i_1 i_8
      obtain ⟨u_17_2, u_17_3, u_17_4, u_17_5, u_17_6, u_17_14, u_17_42⟩ := QGs i_8
      by_cases c_9 : r_18 ≤ w_3l4
      · rw [if_pos c_9] at e
        try simp (disch := omega) only [↓i_in, ↓i_isCouple, ↓i_isBridge, ↓i_isTheme, ↓i_isBarge, i_lt, i_le, i_eq, i_clamp, i_upd, i_m1, Int32.toInt_toInt64, Int32.toInt_add, Int32.toInt_sub, Int32.toInt_mul, bm32, Int32.reduceToInt, Int64.reduceToInt, Nat.reduceLT, Nat.reduceEqDiff, reduceIte, w_3m0_2, w_3m0_3, w_3m0_4, w_3m0_5, w_3m0_6, w_3m0_14, w_3m0_42, u_17_2, u_17_3, u_17_4, u_17_5, u_17_6, u_17_14, u_17_42] at c_9
        exact ih (w_3l5 + 1) w_3l4 u_17 (⟨i_8, (by first | omega | (simp (disch := omega) only [↓i_in, ↓i_isCouple, ↓i_isBridge, ↓i_isTheme, ↓i_isBarge, i_lt, i_le, i_eq, i_clamp, i_upd, i_m1, Int32.toInt_toInt64, Int32.toInt_add, Int32.toInt_sub, Int32.toInt_mul, bm32, Int32.reduceToInt, Int64.reduceToInt, Nat.reduceLT, Nat.reduceEqDiff, reduceIte, w_3m0_2, w_3m0_3, w_3m0_4, w_3m0_5, w_3m0_6, w_3m0_14, w_3m0_42, u_17_2, u_17_3, u_17_4, u_17_5, u_17_6, u_17_14, u_17_42] <;> omega)), (by first | omega | (simp (disch := omega) only [↓i_in, ↓i_isCouple, ↓i_isBridge, ↓i_isTheme, ↓i_isBarge, i_lt, i_le, i_eq, i_clamp, i_upd, i_m1, Int32.toInt_toInt64, Int32.toInt_add, Int32.toInt_sub, Int32.toInt_mul, bm32, Int32.reduceToInt, Int64.reduceToInt, Nat.reduceLT, Nat.reduceEqDiff, reduceIte, w_3m0_2, w_3m0_3, w_3m0_4, w_3m0_5, w_3m0_6, w_3m0_14, w_3m0_42, u_17_2, u_17_3, u_17_4, u_17_5, u_17_6, u_17_14, u_17_42] <;> omega))⟩) _ _ _ e
      · rw [if_neg c_9] at e
        try simp (disch := omega) only [↓i_in, ↓i_isCouple, ↓i_isBridge, ↓i_isTheme, ↓i_isBarge, i_lt, i_le, i_eq, i_clamp, i_upd, i_m1, Int32.toInt_toInt64, Int32.toInt_add, Int32.toInt_sub, Int32.toInt_mul, bm32, Int32.reduceToInt, Int64.reduceToInt, Nat.reduceLT, Nat.reduceEqDiff, reduceIte, w_3m0_2, w_3m0_3, w_3m0_4, w_3m0_5, w_3m0_6, w_3m0_14, w_3m0_42, u_17_2, u_17_3, u_17_4, u_17_5, u_17_6, u_17_14, u_17_42] at c_9
        exact ih (w_3l5 + 1) r_18 u_17 (⟨i_8, (by first | omega | (simp (disch := omega) only [↓i_in, ↓i_isCouple, ↓i_isBridge, ↓i_isTheme, ↓i_isBarge, i_lt, i_le, i_eq, i_clamp, i_upd, i_m1, Int32.toInt_toInt64, Int32.toInt_add, Int32.toInt_sub, Int32.toInt_mul, bm32, Int32.reduceToInt, Int64.reduceToInt, Nat.reduceLT, Nat.reduceEqDiff, reduceIte, w_3m0_2, w_3m0_3, w_3m0_4, w_3m0_5, w_3m0_6, w_3m0_14, w_3m0_42, u_17_2, u_17_3, u_17_4, u_17_5, u_17_6, u_17_14, u_17_42] <;> omega)), (by first | omega | (simp (disch := omega) only [↓i_in, ↓i_isCouple, ↓i_isBridge, ↓i_isTheme, ↓i_isBarge, i_lt, i_le, i_eq, i_clamp, i_upd, i_m1, Int32.toInt_toInt64, Int32.toInt_add, Int32.toInt_sub, Int32.toInt_mul, bm32, Int32.reduceToInt, Int64.reduceToInt, Nat.reduceLT, Nat.reduceEqDiff, reduceIte, w_3m0_2, w_3m0_3, w_3m0_4, w_3m0_5, w_3m0_6, w_3m0_14, w_3m0_42, u_17_2, u_17_3, u_17_4, u_17_5, u_17_6, u_17_14, u_17_42] <;> omega))⟩) _ _ _ e
set_option maxHeartbeats 4000000 in
theorem sl_wornOut_8 {G : Nat → Int32} {f0 : Nat → Int32} {f10 : Nat → Int32} {K : Int32 → Int32 → Int32 → (Nat → Int32) → Prop} (h_0 : GI G) (hK : ∀ w_1l3 w_1l2 w_1l1 w_1m0, (QG G w_1m0 ∧ (0 ≤ w_1l3.toInt) ∧ (w_1l3.toInt ≤ 6)) → K w_1l3 w_1l2 w_1l1 w_1m0) : ∀ (n : Nat) w_1l3 w_1l2 w_1l1 w_1m0, (QG G w_1m0 ∧ (0 ≤ w_1l3.toInt) ∧ (w_1l3.toInt ≤ 6)) → (7 - w_1l3.toInt).toNat < n → S_m_wornOut_8 f0 f10 K n w_1l3 w_1l2 w_1l1 w_1m0 := by
  have h_0_g := h_0
  obtain ⟨⟨h_0_2a, h_0_2b⟩, ⟨h_0_3a, h_0_3b⟩, ⟨h_0_4a, h_0_4b⟩, ⟨h_0_5a, h_0_5b⟩, ⟨h_0_6a, h_0_6b⟩, ⟨h_0_14a, h_0_14b⟩, ⟨h_0_42a, h_0_42b⟩⟩ := h_0_g
  intro n
  induction n with
  | zero => intro w_1l3 w_1l2 w_1l1 w_1m0 hI hm; exact absurd hm (Nat.not_lt_zero _)
  | succ n ih =>
    intro w_1l3 w_1l2 w_1l1 w_1m0 hI hm
    rw [S_m_wornOut_8_s]
    have hI0 := hI
    obtain ⟨i_1, i_2, i_3⟩ := hI0
    obtain ⟨w_1m0_2, w_1m0_3, w_1m0_4, w_1m0_5, w_1m0_6, w_1m0_14, w_1m0_42⟩ := QGs i_1
    refine ⟨fun c_4 => ?_, fun c_4 => ?_⟩
    · skip
      try simp (disch := omega) only [↓i_in, ↓i_isCouple, ↓i_isBridge, ↓i_isTheme, ↓i_isBarge, i_lt, i_le, i_eq, i_clamp, i_upd, i_m1, Int32.toInt_toInt64, Int32.toInt_add, Int32.toInt_sub, Int32.toInt_mul, bm32, Int32.reduceToInt, Int64.reduceToInt, Nat.reduceLT, Nat.reduceEqDiff, reduceIte, w_1m0_2, w_1m0_3, w_1m0_4, w_1m0_5, w_1m0_6, w_1m0_14, w_1m0_42] at c_4
      exact hK w_1l3 w_1l2 w_1l1 w_1m0 hI
    · skip
      try simp (disch := omega) only [↓i_in, ↓i_isCouple, ↓i_isBridge, ↓i_isTheme, ↓i_isBarge, i_lt, i_le, i_eq, i_clamp, i_upd, i_m1, Int32.toInt_toInt64, Int32.toInt_add, Int32.toInt_sub, Int32.toInt_mul, bm32, Int32.reduceToInt, Int64.reduceToInt, Nat.reduceLT, Nat.reduceEqDiff, reduceIte, w_1m0_2, w_1m0_3, w_1m0_4, w_1m0_5, w_1m0_6, w_1m0_14, w_1m0_42] at c_4
      refine sl_wornOut_22 h_0 (by first | omega | (simp (disch := omega) only [↓i_in, ↓i_isCouple, ↓i_isBridge, ↓i_isTheme, ↓i_isBarge, i_lt, i_le, i_eq, i_clamp, i_upd, i_m1, Int32.toInt_toInt64, Int32.toInt_add, Int32.toInt_sub, Int32.toInt_mul, bm32, Int32.reduceToInt, Int64.reduceToInt, Nat.reduceLT, Nat.reduceEqDiff, reduceIte, w_1m0_2, w_1m0_3, w_1m0_4, w_1m0_5, w_1m0_6, w_1m0_14, w_1m0_42] <;> omega)) (by first | omega | (simp (disch := omega) only [↓i_in, ↓i_isCouple, ↓i_isBridge, ↓i_isTheme, ↓i_isBarge, i_lt, i_le, i_eq, i_clamp, i_upd, i_m1, Int32.toInt_toInt64, Int32.toInt_add, Int32.toInt_sub, Int32.toInt_mul, bm32, Int32.reduceToInt, Int64.reduceToInt, Nat.reduceLT, Nat.reduceEqDiff, reduceIte, w_1m0_2, w_1m0_3, w_1m0_4, w_1m0_5, w_1m0_6, w_1m0_14, w_1m0_42] <;> omega)) ?_ 10 0 0 w_1m0 (⟨i_1, (by first | omega | (simp (disch := omega) only [↓i_in, ↓i_isCouple, ↓i_isBridge, ↓i_isTheme, ↓i_isBarge, i_lt, i_le, i_eq, i_clamp, i_upd, i_m1, Int32.toInt_toInt64, Int32.toInt_add, Int32.toInt_sub, Int32.toInt_mul, bm32, Int32.reduceToInt, Int64.reduceToInt, Nat.reduceLT, Nat.reduceEqDiff, reduceIte, w_1m0_2, w_1m0_3, w_1m0_4, w_1m0_5, w_1m0_6, w_1m0_14, w_1m0_42] <;> omega)), (by first | omega | (simp (disch := omega) only [↓i_in, ↓i_isCouple, ↓i_isBridge, ↓i_isTheme, ↓i_isBarge, i_lt, i_le, i_eq, i_clamp, i_upd, i_m1, Int32.toInt_toInt64, Int32.toInt_add, Int32.toInt_sub, Int32.toInt_mul, bm32, Int32.reduceToInt, Int64.reduceToInt, Nat.reduceLT, Nat.reduceEqDiff, reduceIte, w_1m0_2, w_1m0_3, w_1m0_4, w_1m0_5, w_1m0_6, w_1m0_14, w_1m0_42] <;> omega))⟩) (by first | omega | (simp (disch := omega) only [↓i_in, ↓i_isCouple, ↓i_isBridge, ↓i_isTheme, ↓i_isBarge, i_lt, i_le, i_eq, i_clamp, i_upd, i_m1, Int32.toInt_toInt64, Int32.toInt_add, Int32.toInt_sub, Int32.toInt_mul, bm32, Int32.reduceToInt, Int64.reduceToInt, Nat.reduceLT, Nat.reduceEqDiff, reduceIte, w_1m0_2, w_1m0_3, w_1m0_4, w_1m0_5, w_1m0_6, w_1m0_14, w_1m0_42] <;> omega))
      intro w_3l5 w_3l4 w_3m0 i_5
      obtain ⟨i_6, i_7, i_8⟩ := i_5
      obtain ⟨w_3m0_2, w_3m0_3, w_3m0_4, w_3m0_5, w_3m0_6, w_3m0_14, w_3m0_42⟩ := QGs i_6
      refine ⟨s_isDone, ?_⟩
      refine ⟨fun c_9 => ?_, fun c_9 => ?_⟩
      · skip
        try simp (disch := omega) only [↓i_in, ↓i_isCouple, ↓i_isBridge, ↓i_isTheme, ↓i_isBarge, i_lt, i_le, i_eq, i_clamp, i_upd, i_m1, Int32.toInt_toInt64, Int32.toInt_add, Int32.toInt_sub, Int32.toInt_mul, bm32, Int32.reduceToInt, Int64.reduceToInt, Nat.reduceLT, Nat.reduceEqDiff, reduceIte, w_1m0_2, w_1m0_3, w_1m0_4, w_1m0_5, w_1m0_6, w_1m0_14, w_1m0_42, w_3m0_2, w_3m0_3, w_3m0_4, w_3m0_5, w_3m0_6, w_3m0_14, w_3m0_42] at c_9
        refine ⟨fun c_10 => ?_, fun c_10 => ?_⟩
        · skip
          try simp (disch := omega) only [↓i_in, ↓i_isCouple, ↓i_isBridge, ↓i_isTheme, ↓i_isBarge, i_lt, i_le, i_eq, i_clamp, i_upd, i_m1, Int32.toInt_toInt64, Int32.toInt_add, Int32.toInt_sub, Int32.toInt_mul, bm32, Int32.reduceToInt, Int64.reduceToInt, Nat.reduceLT, Nat.reduceEqDiff, reduceIte, w_1m0_2, w_1m0_3, w_1m0_4, w_1m0_5, w_1m0_6, w_1m0_14, w_1m0_42, w_3m0_2, w_3m0_3, w_3m0_4, w_3m0_5, w_3m0_6, w_3m0_14, w_3m0_42] at c_10
          exact ih (w_1l3 + 1) w_1l2 w_1l1 w_3m0 (⟨i_6, (by first | omega | (simp (disch := omega) only [↓i_in, ↓i_isCouple, ↓i_isBridge, ↓i_isTheme, ↓i_isBarge, i_lt, i_le, i_eq, i_clamp, i_upd, i_m1, Int32.toInt_toInt64, Int32.toInt_add, Int32.toInt_sub, Int32.toInt_mul, bm32, Int32.reduceToInt, Int64.reduceToInt, Nat.reduceLT, Nat.reduceEqDiff, reduceIte, w_1m0_2, w_1m0_3, w_1m0_4, w_1m0_5, w_1m0_6, w_1m0_14, w_1m0_42, w_3m0_2, w_3m0_3, w_3m0_4, w_3m0_5, w_3m0_6, w_3m0_14, w_3m0_42] <;> omega)), (by first | omega | (simp (disch := omega) only [↓i_in, ↓i_isCouple, ↓i_isBridge, ↓i_isTheme, ↓i_isBarge, i_lt, i_le, i_eq, i_clamp, i_upd, i_m1, Int32.toInt_toInt64, Int32.toInt_add, Int32.toInt_sub, Int32.toInt_mul, bm32, Int32.reduceToInt, Int64.reduceToInt, Nat.reduceLT, Nat.reduceEqDiff, reduceIte, w_1m0_2, w_1m0_3, w_1m0_4, w_1m0_5, w_1m0_6, w_1m0_14, w_1m0_42, w_3m0_2, w_3m0_3, w_3m0_4, w_3m0_5, w_3m0_6, w_3m0_14, w_3m0_42] <;> omega))⟩) (by first | omega | (simp (disch := omega) only [↓i_in, ↓i_isCouple, ↓i_isBridge, ↓i_isTheme, ↓i_isBarge, i_lt, i_le, i_eq, i_clamp, i_upd, i_m1, Int32.toInt_toInt64, Int32.toInt_add, Int32.toInt_sub, Int32.toInt_mul, bm32, Int32.reduceToInt, Int64.reduceToInt, Nat.reduceLT, Nat.reduceEqDiff, reduceIte, w_1m0_2, w_1m0_3, w_1m0_4, w_1m0_5, w_1m0_6, w_1m0_14, w_1m0_42, w_3m0_2, w_3m0_3, w_3m0_4, w_3m0_5, w_3m0_6, w_3m0_14, w_3m0_42] <;> omega))
        · skip
          try simp (disch := omega) only [↓i_in, ↓i_isCouple, ↓i_isBridge, ↓i_isTheme, ↓i_isBarge, i_lt, i_le, i_eq, i_clamp, i_upd, i_m1, Int32.toInt_toInt64, Int32.toInt_add, Int32.toInt_sub, Int32.toInt_mul, bm32, Int32.reduceToInt, Int64.reduceToInt, Nat.reduceLT, Nat.reduceEqDiff, reduceIte, w_1m0_2, w_1m0_3, w_1m0_4, w_1m0_5, w_1m0_6, w_1m0_14, w_1m0_42, w_3m0_2, w_3m0_3, w_3m0_4, w_3m0_5, w_3m0_6, w_3m0_14, w_3m0_42] at c_10
          exact ih (w_1l3 + 1) w_3l4 w_1l3 w_3m0 (⟨i_6, (by first | omega | (simp (disch := omega) only [↓i_in, ↓i_isCouple, ↓i_isBridge, ↓i_isTheme, ↓i_isBarge, i_lt, i_le, i_eq, i_clamp, i_upd, i_m1, Int32.toInt_toInt64, Int32.toInt_add, Int32.toInt_sub, Int32.toInt_mul, bm32, Int32.reduceToInt, Int64.reduceToInt, Nat.reduceLT, Nat.reduceEqDiff, reduceIte, w_1m0_2, w_1m0_3, w_1m0_4, w_1m0_5, w_1m0_6, w_1m0_14, w_1m0_42, w_3m0_2, w_3m0_3, w_3m0_4, w_3m0_5, w_3m0_6, w_3m0_14, w_3m0_42] <;> omega)), (by first | omega | (simp (disch := omega) only [↓i_in, ↓i_isCouple, ↓i_isBridge, ↓i_isTheme, ↓i_isBarge, i_lt, i_le, i_eq, i_clamp, i_upd, i_m1, Int32.toInt_toInt64, Int32.toInt_add, Int32.toInt_sub, Int32.toInt_mul, bm32, Int32.reduceToInt, Int64.reduceToInt, Nat.reduceLT, Nat.reduceEqDiff, reduceIte, w_1m0_2, w_1m0_3, w_1m0_4, w_1m0_5, w_1m0_6, w_1m0_14, w_1m0_42, w_3m0_2, w_3m0_3, w_3m0_4, w_3m0_5, w_3m0_6, w_3m0_14, w_3m0_42] <;> omega))⟩) (by first | omega | (simp (disch := omega) only [↓i_in, ↓i_isCouple, ↓i_isBridge, ↓i_isTheme, ↓i_isBarge, i_lt, i_le, i_eq, i_clamp, i_upd, i_m1, Int32.toInt_toInt64, Int32.toInt_add, Int32.toInt_sub, Int32.toInt_mul, bm32, Int32.reduceToInt, Int64.reduceToInt, Nat.reduceLT, Nat.reduceEqDiff, reduceIte, w_1m0_2, w_1m0_3, w_1m0_4, w_1m0_5, w_1m0_6, w_1m0_14, w_1m0_42, w_3m0_2, w_3m0_3, w_3m0_4, w_3m0_5, w_3m0_6, w_3m0_14, w_3m0_42] <;> omega))
      · skip
        try simp (disch := omega) only [↓i_in, ↓i_isCouple, ↓i_isBridge, ↓i_isTheme, ↓i_isBarge, i_lt, i_le, i_eq, i_clamp, i_upd, i_m1, Int32.toInt_toInt64, Int32.toInt_add, Int32.toInt_sub, Int32.toInt_mul, bm32, Int32.reduceToInt, Int64.reduceToInt, Nat.reduceLT, Nat.reduceEqDiff, reduceIte, w_1m0_2, w_1m0_3, w_1m0_4, w_1m0_5, w_1m0_6, w_1m0_14, w_1m0_42, w_3m0_2, w_3m0_3, w_3m0_4, w_3m0_5, w_3m0_6, w_3m0_14, w_3m0_42] at c_9
        exact ih (w_1l3 + 1) w_1l2 w_1l1 w_3m0 (⟨i_6, (by first | omega | (simp (disch := omega) only [↓i_in, ↓i_isCouple, ↓i_isBridge, ↓i_isTheme, ↓i_isBarge, i_lt, i_le, i_eq, i_clamp, i_upd, i_m1, Int32.toInt_toInt64, Int32.toInt_add, Int32.toInt_sub, Int32.toInt_mul, bm32, Int32.reduceToInt, Int64.reduceToInt, Nat.reduceLT, Nat.reduceEqDiff, reduceIte, w_1m0_2, w_1m0_3, w_1m0_4, w_1m0_5, w_1m0_6, w_1m0_14, w_1m0_42, w_3m0_2, w_3m0_3, w_3m0_4, w_3m0_5, w_3m0_6, w_3m0_14, w_3m0_42] <;> omega)), (by first | omega | (simp (disch := omega) only [↓i_in, ↓i_isCouple, ↓i_isBridge, ↓i_isTheme, ↓i_isBarge, i_lt, i_le, i_eq, i_clamp, i_upd, i_m1, Int32.toInt_toInt64, Int32.toInt_add, Int32.toInt_sub, Int32.toInt_mul, bm32, Int32.reduceToInt, Int64.reduceToInt, Nat.reduceLT, Nat.reduceEqDiff, reduceIte, w_1m0_2, w_1m0_3, w_1m0_4, w_1m0_5, w_1m0_6, w_1m0_14, w_1m0_42, w_3m0_2, w_3m0_3, w_3m0_4, w_3m0_5, w_3m0_6, w_3m0_14, w_3m0_42] <;> omega))⟩) (by first | omega | (simp (disch := omega) only [↓i_in, ↓i_isCouple, ↓i_isBridge, ↓i_isTheme, ↓i_isBarge, i_lt, i_le, i_eq, i_clamp, i_upd, i_m1, Int32.toInt_toInt64, Int32.toInt_add, Int32.toInt_sub, Int32.toInt_mul, bm32, Int32.reduceToInt, Int64.reduceToInt, Nat.reduceLT, Nat.reduceEqDiff, reduceIte, w_1m0_2, w_1m0_3, w_1m0_4, w_1m0_5, w_1m0_6, w_1m0_14, w_1m0_42, w_3m0_2, w_3m0_3, w_3m0_4, w_3m0_5, w_3m0_6, w_3m0_14, w_3m0_42] <;> omega))
set_option maxHeartbeats 4000000 in
theorem pl_wornOut_8 {G : Nat → Int32} {f0 : Nat → Int32} {f10 : Nat → Int32} (h_0 : GI G) : ∀ (n : Nat) w_1l3 w_1l2 w_1l1 w_1m0, (QG G w_1m0 ∧ (0 ≤ w_1l3.toInt) ∧ (w_1l3.toInt ≤ 6)) → ∀ r0 r1 r2 r3, f_m_wornOut_8 f0 f10 n w_1l3 w_1l2 w_1l1 w_1m0 = (r0, r1, r2, r3) → QG G r3 ∧ (0 ≤ r0.toInt) ∧ (r0.toInt ≤ 6) := by
  have h_0_g := h_0
  obtain ⟨⟨h_0_2a, h_0_2b⟩, ⟨h_0_3a, h_0_3b⟩, ⟨h_0_4a, h_0_4b⟩, ⟨h_0_5a, h_0_5b⟩, ⟨h_0_6a, h_0_6b⟩, ⟨h_0_14a, h_0_14b⟩, ⟨h_0_42a, h_0_42b⟩⟩ := h_0_g
  intro n
  induction n with
  | zero =>
    intro w_1l3 w_1l2 w_1l1 w_1m0 hI r0 r1 r2 r3 e
    replace e : (w_1l3, w_1l2, w_1l1, w_1m0) = (r0, r1, r2, r3) := e
    cases e
    exact hI
  | succ n ih =>
    intro w_1l3 w_1l2 w_1l1 w_1m0 hI r0 r1 r2 r3 e
    rw [f_m_wornOut_8_s] at e
    have hI0 := hI
    obtain ⟨i_1, i_2, i_3⟩ := hI0
    obtain ⟨w_1m0_2, w_1m0_3, w_1m0_4, w_1m0_5, w_1m0_6, w_1m0_14, w_1m0_42⟩ := QGs i_1
    by_cases c_4 : (w_1m0 5) ≤ w_1l3
    · rw [if_pos c_4] at e
      try simp (disch := omega) only [↓i_in, ↓i_isCouple, ↓i_isBridge, ↓i_isTheme, ↓i_isBarge, i_lt, i_le, i_eq, i_clamp, i_upd, i_m1, Int32.toInt_toInt64, Int32.toInt_add, Int32.toInt_sub, Int32.toInt_mul, bm32, Int32.reduceToInt, Int64.reduceToInt, Nat.reduceLT, Nat.reduceEqDiff, reduceIte, w_1m0_2, w_1m0_3, w_1m0_4, w_1m0_5, w_1m0_6, w_1m0_14, w_1m0_42] at c_4
      cases e
      exact hI
    · rw [if_neg c_4] at e
      try simp (disch := omega) only [↓i_in, ↓i_isCouple, ↓i_isBridge, ↓i_isTheme, ↓i_isBarge, i_lt, i_le, i_eq, i_clamp, i_upd, i_m1, Int32.toInt_toInt64, Int32.toInt_add, Int32.toInt_sub, Int32.toInt_mul, bm32, Int32.reduceToInt, Int64.reduceToInt, Nat.reduceLT, Nat.reduceEqDiff, reduceIte, w_1m0_2, w_1m0_3, w_1m0_4, w_1m0_5, w_1m0_6, w_1m0_14, w_1m0_42] at c_4
      generalize x_5 : (f_m_wornOut_22 f0 f10 w_1l3 10 0 0 w_1m0) = z_6 at e
      obtain ⟨w_3l5, w_3l4, w_3m0⟩ := z_6
      replace e : ((if (f_m_isDone f0 w_1l3) = 0 then (if w_1l2 ≤ w_3l4 then (f_m_wornOut_8 f0 f10 n (w_1l3 + 1) w_1l2 w_1l1 w_3m0) else (f_m_wornOut_8 f0 f10 n (w_1l3 + 1) w_3l4 w_1l3 w_3m0)) else (f_m_wornOut_8 f0 f10 n (w_1l3 + 1) w_1l2 w_1l1 w_3m0))) = (r0, r1, r2, r3) := e
      have p_7 := pl_wornOut_22 h_0 (by first | omega | (simp (disch := omega) only [↓i_in, ↓i_isCouple, ↓i_isBridge, ↓i_isTheme, ↓i_isBarge, i_lt, i_le, i_eq, i_clamp, i_upd, i_m1, Int32.toInt_toInt64, Int32.toInt_add, Int32.toInt_sub, Int32.toInt_mul, bm32, Int32.reduceToInt, Int64.reduceToInt, Nat.reduceLT, Nat.reduceEqDiff, reduceIte, w_1m0_2, w_1m0_3, w_1m0_4, w_1m0_5, w_1m0_6, w_1m0_14, w_1m0_42] <;> omega)) (by first | omega | (simp (disch := omega) only [↓i_in, ↓i_isCouple, ↓i_isBridge, ↓i_isTheme, ↓i_isBarge, i_lt, i_le, i_eq, i_clamp, i_upd, i_m1, Int32.toInt_toInt64, Int32.toInt_add, Int32.toInt_sub, Int32.toInt_mul, bm32, Int32.reduceToInt, Int64.reduceToInt, Nat.reduceLT, Nat.reduceEqDiff, reduceIte, w_1m0_2, w_1m0_3, w_1m0_4, w_1m0_5, w_1m0_6, w_1m0_14, w_1m0_42] <;> omega)) 10 0 0 w_1m0 (⟨i_1, (by first | omega | (simp (disch := omega) only [↓i_in, ↓i_isCouple, ↓i_isBridge, ↓i_isTheme, ↓i_isBarge, i_lt, i_le, i_eq, i_clamp, i_upd, i_m1, Int32.toInt_toInt64, Int32.toInt_add, Int32.toInt_sub, Int32.toInt_mul, bm32, Int32.reduceToInt, Int64.reduceToInt, Nat.reduceLT, Nat.reduceEqDiff, reduceIte, w_1m0_2, w_1m0_3, w_1m0_4, w_1m0_5, w_1m0_6, w_1m0_14, w_1m0_42] <;> omega)), (by first | omega | (simp (disch := omega) only [↓i_in, ↓i_isCouple, ↓i_isBridge, ↓i_isTheme, ↓i_isBarge, i_lt, i_le, i_eq, i_clamp, i_upd, i_m1, Int32.toInt_toInt64, Int32.toInt_add, Int32.toInt_sub, Int32.toInt_mul, bm32, Int32.reduceToInt, Int64.reduceToInt, Nat.reduceLT, Nat.reduceEqDiff, reduceIte, w_1m0_2, w_1m0_3, w_1m0_4, w_1m0_5, w_1m0_6, w_1m0_14, w_1m0_42] <;> omega))⟩) _ _ _ x_5
      obtain ⟨i_8, i_9, i_10⟩ := p_7
      obtain ⟨w_3m0_2, w_3m0_3, w_3m0_4, w_3m0_5, w_3m0_6, w_3m0_14, w_3m0_42⟩ := QGs i_8
      by_cases c_11 : (f_m_isDone f0 w_1l3) = 0
      · rw [if_pos c_11] at e
        try simp (disch := omega) only [↓i_in, ↓i_isCouple, ↓i_isBridge, ↓i_isTheme, ↓i_isBarge, i_lt, i_le, i_eq, i_clamp, i_upd, i_m1, Int32.toInt_toInt64, Int32.toInt_add, Int32.toInt_sub, Int32.toInt_mul, bm32, Int32.reduceToInt, Int64.reduceToInt, Nat.reduceLT, Nat.reduceEqDiff, reduceIte, w_1m0_2, w_1m0_3, w_1m0_4, w_1m0_5, w_1m0_6, w_1m0_14, w_1m0_42, w_3m0_2, w_3m0_3, w_3m0_4, w_3m0_5, w_3m0_6, w_3m0_14, w_3m0_42] at c_11
        by_cases c_12 : w_1l2 ≤ w_3l4
        · rw [if_pos c_12] at e
          try simp (disch := omega) only [↓i_in, ↓i_isCouple, ↓i_isBridge, ↓i_isTheme, ↓i_isBarge, i_lt, i_le, i_eq, i_clamp, i_upd, i_m1, Int32.toInt_toInt64, Int32.toInt_add, Int32.toInt_sub, Int32.toInt_mul, bm32, Int32.reduceToInt, Int64.reduceToInt, Nat.reduceLT, Nat.reduceEqDiff, reduceIte, w_1m0_2, w_1m0_3, w_1m0_4, w_1m0_5, w_1m0_6, w_1m0_14, w_1m0_42, w_3m0_2, w_3m0_3, w_3m0_4, w_3m0_5, w_3m0_6, w_3m0_14, w_3m0_42] at c_12
          exact ih (w_1l3 + 1) w_1l2 w_1l1 w_3m0 (⟨i_8, (by first | omega | (simp (disch := omega) only [↓i_in, ↓i_isCouple, ↓i_isBridge, ↓i_isTheme, ↓i_isBarge, i_lt, i_le, i_eq, i_clamp, i_upd, i_m1, Int32.toInt_toInt64, Int32.toInt_add, Int32.toInt_sub, Int32.toInt_mul, bm32, Int32.reduceToInt, Int64.reduceToInt, Nat.reduceLT, Nat.reduceEqDiff, reduceIte, w_1m0_2, w_1m0_3, w_1m0_4, w_1m0_5, w_1m0_6, w_1m0_14, w_1m0_42, w_3m0_2, w_3m0_3, w_3m0_4, w_3m0_5, w_3m0_6, w_3m0_14, w_3m0_42] <;> omega)), (by first | omega | (simp (disch := omega) only [↓i_in, ↓i_isCouple, ↓i_isBridge, ↓i_isTheme, ↓i_isBarge, i_lt, i_le, i_eq, i_clamp, i_upd, i_m1, Int32.toInt_toInt64, Int32.toInt_add, Int32.toInt_sub, Int32.toInt_mul, bm32, Int32.reduceToInt, Int64.reduceToInt, Nat.reduceLT, Nat.reduceEqDiff, reduceIte, w_1m0_2, w_1m0_3, w_1m0_4, w_1m0_5, w_1m0_6, w_1m0_14, w_1m0_42, w_3m0_2, w_3m0_3, w_3m0_4, w_3m0_5, w_3m0_6, w_3m0_14, w_3m0_42] <;> omega))⟩) _ _ _ _ e
        · rw [if_neg c_12] at e
          try simp (disch := omega) only [↓i_in, ↓i_isCouple, ↓i_isBridge, ↓i_isTheme, ↓i_isBarge, i_lt, i_le, i_eq, i_clamp, i_upd, i_m1, Int32.toInt_toInt64, Int32.toInt_add, Int32.toInt_sub, Int32.toInt_mul, bm32, Int32.reduceToInt, Int64.reduceToInt, Nat.reduceLT, Nat.reduceEqDiff, reduceIte, w_1m0_2, w_1m0_3, w_1m0_4, w_1m0_5, w_1m0_6, w_1m0_14, w_1m0_42, w_3m0_2, w_3m0_3, w_3m0_4, w_3m0_5, w_3m0_6, w_3m0_14, w_3m0_42] at c_12
          exact ih (w_1l3 + 1) w_3l4 w_1l3 w_3m0 (⟨i_8, (by first | omega | (simp (disch := omega) only [↓i_in, ↓i_isCouple, ↓i_isBridge, ↓i_isTheme, ↓i_isBarge, i_lt, i_le, i_eq, i_clamp, i_upd, i_m1, Int32.toInt_toInt64, Int32.toInt_add, Int32.toInt_sub, Int32.toInt_mul, bm32, Int32.reduceToInt, Int64.reduceToInt, Nat.reduceLT, Nat.reduceEqDiff, reduceIte, w_1m0_2, w_1m0_3, w_1m0_4, w_1m0_5, w_1m0_6, w_1m0_14, w_1m0_42, w_3m0_2, w_3m0_3, w_3m0_4, w_3m0_5, w_3m0_6, w_3m0_14, w_3m0_42] <;> omega)), (by first | omega | (simp (disch := omega) only [↓i_in, ↓i_isCouple, ↓i_isBridge, ↓i_isTheme, ↓i_isBarge, i_lt, i_le, i_eq, i_clamp, i_upd, i_m1, Int32.toInt_toInt64, Int32.toInt_add, Int32.toInt_sub, Int32.toInt_mul, bm32, Int32.reduceToInt, Int64.reduceToInt, Nat.reduceLT, Nat.reduceEqDiff, reduceIte, w_1m0_2, w_1m0_3, w_1m0_4, w_1m0_5, w_1m0_6, w_1m0_14, w_1m0_42, w_3m0_2, w_3m0_3, w_3m0_4, w_3m0_5, w_3m0_6, w_3m0_14, w_3m0_42] <;> omega))⟩) _ _ _ _ e
      · rw [if_neg c_11] at e
        try simp (disch := omega) only [↓i_in, ↓i_isCouple, ↓i_isBridge, ↓i_isTheme, ↓i_isBarge, i_lt, i_le, i_eq, i_clamp, i_upd, i_m1, Int32.toInt_toInt64, Int32.toInt_add, Int32.toInt_sub, Int32.toInt_mul, bm32, Int32.reduceToInt, Int64.reduceToInt, Nat.reduceLT, Nat.reduceEqDiff, reduceIte, w_1m0_2, w_1m0_3, w_1m0_4, w_1m0_5, w_1m0_6, w_1m0_14, w_1m0_42, w_3m0_2, w_3m0_3, w_3m0_4, w_3m0_5, w_3m0_6, w_3m0_14, w_3m0_42] at c_11
        exact ih (w_1l3 + 1) w_1l2 w_1l1 w_3m0 (⟨i_8, (by first | omega | (simp (disch := omega) only [↓i_in, ↓i_isCouple, ↓i_isBridge, ↓i_isTheme, ↓i_isBarge, i_lt, i_le, i_eq, i_clamp, i_upd, i_m1, Int32.toInt_toInt64, Int32.toInt_add, Int32.toInt_sub, Int32.toInt_mul, bm32, Int32.reduceToInt, Int64.reduceToInt, Nat.reduceLT, Nat.reduceEqDiff, reduceIte, w_1m0_2, w_1m0_3, w_1m0_4, w_1m0_5, w_1m0_6, w_1m0_14, w_1m0_42, w_3m0_2, w_3m0_3, w_3m0_4, w_3m0_5, w_3m0_6, w_3m0_14, w_3m0_42] <;> omega)), (by first | omega | (simp (disch := omega) only [↓i_in, ↓i_isCouple, ↓i_isBridge, ↓i_isTheme, ↓i_isBarge, i_lt, i_le, i_eq, i_clamp, i_upd, i_m1, Int32.toInt_toInt64, Int32.toInt_add, Int32.toInt_sub, Int32.toInt_mul, bm32, Int32.reduceToInt, Int64.reduceToInt, Nat.reduceLT, Nat.reduceEqDiff, reduceIte, w_1m0_2, w_1m0_3, w_1m0_4, w_1m0_5, w_1m0_6, w_1m0_14, w_1m0_42, w_3m0_2, w_3m0_3, w_3m0_4, w_3m0_5, w_3m0_6, w_3m0_14, w_3m0_42] <;> omega))⟩) _ _ _ _ e
set_option maxHeartbeats 4000000 in
theorem s_wornOut {G : Nat → Int32} {f0 : Nat → Int32} {f10 : Nat → Int32} (h_0 : GI G) : S_m_wornOut G f0 f10 := by
  unfold S_m_wornOut
  have h_0_g := h_0
  obtain ⟨⟨h_0_2a, h_0_2b⟩, ⟨h_0_3a, h_0_3b⟩, ⟨h_0_4a, h_0_4b⟩, ⟨h_0_5a, h_0_5b⟩, ⟨h_0_6a, h_0_6b⟩, ⟨h_0_14a, h_0_14b⟩, ⟨h_0_42a, h_0_42b⟩⟩ := h_0_g
  refine sl_wornOut_8 h_0 ?_ 10 0 1000000000 (-1) G (⟨(QG.refl _), (by first | omega | (simp (disch := omega) only [↓i_in, ↓i_isCouple, ↓i_isBridge, ↓i_isTheme, ↓i_isBarge, i_lt, i_le, i_eq, i_clamp, i_upd, i_m1, Int32.toInt_toInt64, Int32.toInt_add, Int32.toInt_sub, Int32.toInt_mul, bm32, Int32.reduceToInt, Int64.reduceToInt, Nat.reduceLT, Nat.reduceEqDiff, reduceIte] <;> omega)), (by first | omega | (simp (disch := omega) only [↓i_in, ↓i_isCouple, ↓i_isBridge, ↓i_isTheme, ↓i_isBarge, i_lt, i_le, i_eq, i_clamp, i_upd, i_m1, Int32.toInt_toInt64, Int32.toInt_add, Int32.toInt_sub, Int32.toInt_mul, bm32, Int32.reduceToInt, Int64.reduceToInt, Nat.reduceLT, Nat.reduceEqDiff, reduceIte] <;> omega))⟩) (by first | omega | (simp (disch := omega) only [↓i_in, ↓i_isCouple, ↓i_isBridge, ↓i_isTheme, ↓i_isBarge, i_lt, i_le, i_eq, i_clamp, i_upd, i_m1, Int32.toInt_toInt64, Int32.toInt_add, Int32.toInt_sub, Int32.toInt_mul, bm32, Int32.reduceToInt, Int64.reduceToInt, Nat.reduceLT, Nat.reduceEqDiff, reduceIte] <;> omega))
  intro w_1l3 w_1l2 w_1l1 w_1m0 i_1
  obtain ⟨i_2, i_3, i_4⟩ := i_1
  obtain ⟨w_1m0_2, w_1m0_3, w_1m0_4, w_1m0_5, w_1m0_6, w_1m0_14, w_1m0_42⟩ := QGs i_2
  exact trivial
set_option maxHeartbeats 4000000 in
theorem p_wornOut {G : Nat → Int32} {f0 : Nat → Int32} {f10 : Nat → Int32} (h_0 : GI G) : ∀ (r : Int32) (u : (Nat → Int32)), f_m_wornOut G f0 f10 = (r, u) → QG G u := by
  have h_0_g := h_0
  obtain ⟨⟨h_0_2a, h_0_2b⟩, ⟨h_0_3a, h_0_3b⟩, ⟨h_0_4a, h_0_4b⟩, ⟨h_0_5a, h_0_5b⟩, ⟨h_0_6a, h_0_6b⟩, ⟨h_0_14a, h_0_14b⟩, ⟨h_0_42a, h_0_42b⟩⟩ := h_0_g
  intro r u e
  unfold f_m_wornOut at e
  generalize x_1 : (f_m_wornOut_8 f0 f10 10 0 1000000000 (-1) G) = z_2 at e
  obtain ⟨w_1l3, w_1l2, w_1l1, w_1m0⟩ := z_2
  replace e : ((w_1l1, w_1m0)) = (r, u) := e
  have p_3 := pl_wornOut_8 h_0 10 0 1000000000 (-1) G (⟨(QG.refl _), (by first | omega | (simp (disch := omega) only [↓i_in, ↓i_isCouple, ↓i_isBridge, ↓i_isTheme, ↓i_isBarge, i_lt, i_le, i_eq, i_clamp, i_upd, i_m1, Int32.toInt_toInt64, Int32.toInt_add, Int32.toInt_sub, Int32.toInt_mul, bm32, Int32.reduceToInt, Int64.reduceToInt, Nat.reduceLT, Nat.reduceEqDiff, reduceIte] <;> omega)), (by first | omega | (simp (disch := omega) only [↓i_in, ↓i_isCouple, ↓i_isBridge, ↓i_isTheme, ↓i_isBarge, i_lt, i_le, i_eq, i_clamp, i_upd, i_m1, Int32.toInt_toInt64, Int32.toInt_add, Int32.toInt_sub, Int32.toInt_mul, bm32, Int32.reduceToInt, Int64.reduceToInt, Nat.reduceLT, Nat.reduceEqDiff, reduceIte] <;> omega))⟩) _ _ _ _ x_1
  obtain ⟨i_4, i_5, i_6⟩ := p_3
  obtain ⟨w_1m0_2, w_1m0_3, w_1m0_4, w_1m0_5, w_1m0_6, w_1m0_14, w_1m0_42⟩ := QGs i_4
  cases e
  exact i_4
set_option maxHeartbeats 4000000 in
theorem sl_hire_39 {G : Nat → Int32} {f0 : Nat → Int32} {f10 : Nat → Int32} {f8 : Nat → Int32} {b_ : Int32} {K : Int32 → Int32 → Int32 → Int32 → (Nat → Int32) → Prop} (h_0 : GI G) (h_1 : 0 ≤ b_.toInt) (h_2 : b_.toInt < 6) (hK : ∀ w_9l6 w_9l5 w_9l4 w_9l3 w_9m0, (QG G w_9m0 ∧ (0 ≤ w_9l6.toInt) ∧ (w_9l6.toInt ≤ 6)) → K w_9l6 w_9l5 w_9l4 w_9l3 w_9m0) : ∀ (n : Nat) w_9l6 w_9l5 w_9l4 w_9l3 w_9m0, (QG G w_9m0 ∧ (0 ≤ w_9l6.toInt) ∧ (w_9l6.toInt ≤ 6)) → (7 - w_9l6.toInt).toNat < n → S_m_hire_39 f0 f10 f8 b_ K n w_9l6 w_9l5 w_9l4 w_9l3 w_9m0 := by
  have h_0_g := h_0
  obtain ⟨⟨h_0_2a, h_0_2b⟩, ⟨h_0_3a, h_0_3b⟩, ⟨h_0_4a, h_0_4b⟩, ⟨h_0_5a, h_0_5b⟩, ⟨h_0_6a, h_0_6b⟩, ⟨h_0_14a, h_0_14b⟩, ⟨h_0_42a, h_0_42b⟩⟩ := h_0_g
  intro n
  induction n with
  | zero => intro w_9l6 w_9l5 w_9l4 w_9l3 w_9m0 hI hm; exact absurd hm (Nat.not_lt_zero _)
  | succ n ih =>
    intro w_9l6 w_9l5 w_9l4 w_9l3 w_9m0 hI hm
    rw [S_m_hire_39_s]
    have hI0 := hI
    obtain ⟨i_1, i_2, i_3⟩ := hI0
    obtain ⟨w_9m0_2, w_9m0_3, w_9m0_4, w_9m0_5, w_9m0_6, w_9m0_14, w_9m0_42⟩ := QGs i_1
    refine ⟨fun c_4 => ?_, fun c_4 => ?_⟩
    · skip
      try simp (disch := omega) only [↓i_in, ↓i_isCouple, ↓i_isBridge, ↓i_isTheme, ↓i_isBarge, i_lt, i_le, i_eq, i_clamp, i_upd, i_m1, Int32.toInt_toInt64, Int32.toInt_add, Int32.toInt_sub, Int32.toInt_mul, bm32, Int32.reduceToInt, Int64.reduceToInt, Nat.reduceLT, Nat.reduceEqDiff, reduceIte, w_9m0_2, w_9m0_3, w_9m0_4, w_9m0_5, w_9m0_6, w_9m0_14, w_9m0_42] at c_4
      exact hK w_9l6 w_9l5 w_9l4 w_9l3 w_9m0 hI
    · skip
      try simp (disch := omega) only [↓i_in, ↓i_isCouple, ↓i_isBridge, ↓i_isTheme, ↓i_isBarge, i_lt, i_le, i_eq, i_clamp, i_upd, i_m1, Int32.toInt_toInt64, Int32.toInt_add, Int32.toInt_sub, Int32.toInt_mul, bm32, Int32.reduceToInt, Int64.reduceToInt, Nat.reduceLT, Nat.reduceEqDiff, reduceIte, w_9m0_2, w_9m0_3, w_9m0_4, w_9m0_5, w_9m0_6, w_9m0_14, w_9m0_42] at c_4
      refine ⟨(s_best (GI.of i_1 h_0) (by first | omega | (simp (disch := omega) only [↓i_in, ↓i_isCouple, ↓i_isBridge, ↓i_isTheme, ↓i_isBarge, i_lt, i_le, i_eq, i_clamp, i_upd, i_m1, Int32.toInt_toInt64, Int32.toInt_add, Int32.toInt_sub, Int32.toInt_mul, bm32, Int32.reduceToInt, Int64.reduceToInt, Nat.reduceLT, Nat.reduceEqDiff, reduceIte, w_9m0_2, w_9m0_3, w_9m0_4, w_9m0_5, w_9m0_6, w_9m0_14, w_9m0_42] <;> omega)) (by first | omega | (simp (disch := omega) only [↓i_in, ↓i_isCouple, ↓i_isBridge, ↓i_isTheme, ↓i_isBarge, i_lt, i_le, i_eq, i_clamp, i_upd, i_m1, Int32.toInt_toInt64, Int32.toInt_add, Int32.toInt_sub, Int32.toInt_mul, bm32, Int32.reduceToInt, Int64.reduceToInt, Nat.reduceLT, Nat.reduceEqDiff, reduceIte, w_9m0_2, w_9m0_3, w_9m0_4, w_9m0_5, w_9m0_6, w_9m0_14, w_9m0_42] <;> omega)) (by first | omega | (simp (disch := omega) only [↓i_in, ↓i_isCouple, ↓i_isBridge, ↓i_isTheme, ↓i_isBarge, i_lt, i_le, i_eq, i_clamp, i_upd, i_m1, Int32.toInt_toInt64, Int32.toInt_add, Int32.toInt_sub, Int32.toInt_mul, bm32, Int32.reduceToInt, Int64.reduceToInt, Nat.reduceLT, Nat.reduceEqDiff, reduceIte, w_9m0_2, w_9m0_3, w_9m0_4, w_9m0_5, w_9m0_6, w_9m0_14, w_9m0_42] <;> omega)) (by first | omega | (simp (disch := omega) only [↓i_in, ↓i_isCouple, ↓i_isBridge, ↓i_isTheme, ↓i_isBarge, i_lt, i_le, i_eq, i_clamp, i_upd, i_m1, Int32.toInt_toInt64, Int32.toInt_add, Int32.toInt_sub, Int32.toInt_mul, bm32, Int32.reduceToInt, Int64.reduceToInt, Nat.reduceLT, Nat.reduceEqDiff, reduceIte, w_9m0_2, w_9m0_3, w_9m0_4, w_9m0_5, w_9m0_6, w_9m0_14, w_9m0_42] <;> omega))), ?_⟩
      intro r_16 u_15 e_5
      have p_6 := p_best (GI.of i_1 h_0) (by first | omega | (simp (disch := omega) only [↓i_in, ↓i_isCouple, ↓i_isBridge, ↓i_isTheme, ↓i_isBarge, i_lt, i_le, i_eq, i_clamp, i_upd, i_m1, Int32.toInt_toInt64, Int32.toInt_add, Int32.toInt_sub, Int32.toInt_mul, bm32, Int32.reduceToInt, Int64.reduceToInt, Nat.reduceLT, Nat.reduceEqDiff, reduceIte, w_9m0_2, w_9m0_3, w_9m0_4, w_9m0_5, w_9m0_6, w_9m0_14, w_9m0_42] <;> omega)) (by first | omega | (simp (disch := omega) only [↓i_in, ↓i_isCouple, ↓i_isBridge, ↓i_isTheme, ↓i_isBarge, i_lt, i_le, i_eq, i_clamp, i_upd, i_m1, Int32.toInt_toInt64, Int32.toInt_add, Int32.toInt_sub, Int32.toInt_mul, bm32, Int32.reduceToInt, Int64.reduceToInt, Nat.reduceLT, Nat.reduceEqDiff, reduceIte, w_9m0_2, w_9m0_3, w_9m0_4, w_9m0_5, w_9m0_6, w_9m0_14, w_9m0_42] <;> omega)) (by first | omega | (simp (disch := omega) only [↓i_in, ↓i_isCouple, ↓i_isBridge, ↓i_isTheme, ↓i_isBarge, i_lt, i_le, i_eq, i_clamp, i_upd, i_m1, Int32.toInt_toInt64, Int32.toInt_add, Int32.toInt_sub, Int32.toInt_mul, bm32, Int32.reduceToInt, Int64.reduceToInt, Nat.reduceLT, Nat.reduceEqDiff, reduceIte, w_9m0_2, w_9m0_3, w_9m0_4, w_9m0_5, w_9m0_6, w_9m0_14, w_9m0_42] <;> omega)) (by first | omega | (simp (disch := omega) only [↓i_in, ↓i_isCouple, ↓i_isBridge, ↓i_isTheme, ↓i_isBarge, i_lt, i_le, i_eq, i_clamp, i_upd, i_m1, Int32.toInt_toInt64, Int32.toInt_add, Int32.toInt_sub, Int32.toInt_mul, bm32, Int32.reduceToInt, Int64.reduceToInt, Nat.reduceLT, Nat.reduceEqDiff, reduceIte, w_9m0_2, w_9m0_3, w_9m0_4, w_9m0_5, w_9m0_6, w_9m0_14, w_9m0_42] <;> omega)) _ _ e_5.symm
      have i_7 := p_6
      replace i_7 := QG.trans i_1 i_7
      obtain ⟨u_15_2, u_15_3, u_15_4, u_15_5, u_15_6, u_15_14, u_15_42⟩ := QGs i_7
      refine ⟨fun c_8 => ?_, fun c_8 => ?_⟩
      · skip
        try simp (disch := omega) only [↓i_in, ↓i_isCouple, ↓i_isBridge, ↓i_isTheme, ↓i_isBarge, i_lt, i_le, i_eq, i_clamp, i_upd, i_m1, Int32.toInt_toInt64, Int32.toInt_add, Int32.toInt_sub, Int32.toInt_mul, bm32, Int32.reduceToInt, Int64.reduceToInt, Nat.reduceLT, Nat.reduceEqDiff, reduceIte, w_9m0_2, w_9m0_3, w_9m0_4, w_9m0_5, w_9m0_6, w_9m0_14, w_9m0_42, u_15_2, u_15_3, u_15_4, u_15_5, u_15_6, u_15_14, u_15_42] at c_8
        refine ⟨fun c_9 => ?_, fun c_9 => ?_⟩
        · skip
          try simp (disch := omega) only [↓i_in, ↓i_isCouple, ↓i_isBridge, ↓i_isTheme, ↓i_isBarge, i_lt, i_le, i_eq, i_clamp, i_upd, i_m1, Int32.toInt_toInt64, Int32.toInt_add, Int32.toInt_sub, Int32.toInt_mul, bm32, Int32.reduceToInt, Int64.reduceToInt, Nat.reduceLT, Nat.reduceEqDiff, reduceIte, w_9m0_2, w_9m0_3, w_9m0_4, w_9m0_5, w_9m0_6, w_9m0_14, w_9m0_42, u_15_2, u_15_3, u_15_4, u_15_5, u_15_6, u_15_14, u_15_42] at c_9
          refine ⟨fun c_10 => ?_, fun c_10 => ?_⟩
          · skip
            try simp (disch := omega) only [↓i_in, ↓i_isCouple, ↓i_isBridge, ↓i_isTheme, ↓i_isBarge, i_lt, i_le, i_eq, i_clamp, i_upd, i_m1, Int32.toInt_toInt64, Int32.toInt_add, Int32.toInt_sub, Int32.toInt_mul, bm32, Int32.reduceToInt, Int64.reduceToInt, Nat.reduceLT, Nat.reduceEqDiff, reduceIte, w_9m0_2, w_9m0_3, w_9m0_4, w_9m0_5, w_9m0_6, w_9m0_14, w_9m0_42, u_15_2, u_15_3, u_15_4, u_15_5, u_15_6, u_15_14, u_15_42] at c_10
            refine ⟨fun c_11 => ?_, fun c_11 => ?_⟩
            · skip
              try simp (disch := omega) only [↓i_in, ↓i_isCouple, ↓i_isBridge, ↓i_isTheme, ↓i_isBarge, i_lt, i_le, i_eq, i_clamp, i_upd, i_m1, Int32.toInt_toInt64, Int32.toInt_add, Int32.toInt_sub, Int32.toInt_mul, bm32, Int32.reduceToInt, Int64.reduceToInt, Nat.reduceLT, Nat.reduceEqDiff, reduceIte, w_9m0_2, w_9m0_3, w_9m0_4, w_9m0_5, w_9m0_6, w_9m0_14, w_9m0_42, u_15_2, u_15_3, u_15_4, u_15_5, u_15_6, u_15_14, u_15_42] at c_11
              refine ⟨fun c_12 => ?_, fun c_12 => ?_⟩
              · skip
                try simp (disch := omega) only [↓i_in, ↓i_isCouple, ↓i_isBridge, ↓i_isTheme, ↓i_isBarge, i_lt, i_le, i_eq, i_clamp, i_upd, i_m1, Int32.toInt_toInt64, Int32.toInt_add, Int32.toInt_sub, Int32.toInt_mul, bm32, Int32.reduceToInt, Int64.reduceToInt, Nat.reduceLT, Nat.reduceEqDiff, reduceIte, w_9m0_2, w_9m0_3, w_9m0_4, w_9m0_5, w_9m0_6, w_9m0_14, w_9m0_42, u_15_2, u_15_3, u_15_4, u_15_5, u_15_6, u_15_14, u_15_42] at c_12
                exact ih (w_9l6 + 1) w_9l5 w_9l4 w_9l3 u_15 (⟨i_7, (by first | omega | (simp (disch := omega) only [↓i_in, ↓i_isCouple, ↓i_isBridge, ↓i_isTheme, ↓i_isBarge, i_lt, i_le, i_eq, i_clamp, i_upd, i_m1, Int32.toInt_toInt64, Int32.toInt_add, Int32.toInt_sub, Int32.toInt_mul, bm32, Int32.reduceToInt, Int64.reduceToInt, Nat.reduceLT, Nat.reduceEqDiff, reduceIte, w_9m0_2, w_9m0_3, w_9m0_4, w_9m0_5, w_9m0_6, w_9m0_14, w_9m0_42, u_15_2, u_15_3, u_15_4, u_15_5, u_15_6, u_15_14, u_15_42] <;> omega)), (by first | omega | (simp (disch := omega) only [↓i_in, ↓i_isCouple, ↓i_isBridge, ↓i_isTheme, ↓i_isBarge, i_lt, i_le, i_eq, i_clamp, i_upd, i_m1, Int32.toInt_toInt64, Int32.toInt_add, Int32.toInt_sub, Int32.toInt_mul, bm32, Int32.reduceToInt, Int64.reduceToInt, Nat.reduceLT, Nat.reduceEqDiff, reduceIte, w_9m0_2, w_9m0_3, w_9m0_4, w_9m0_5, w_9m0_6, w_9m0_14, w_9m0_42, u_15_2, u_15_3, u_15_4, u_15_5, u_15_6, u_15_14, u_15_42] <;> omega))⟩) (by first | omega | (simp (disch := omega) only [↓i_in, ↓i_isCouple, ↓i_isBridge, ↓i_isTheme, ↓i_isBarge, i_lt, i_le, i_eq, i_clamp, i_upd, i_m1, Int32.toInt_toInt64, Int32.toInt_add, Int32.toInt_sub, Int32.toInt_mul, bm32, Int32.reduceToInt, Int64.reduceToInt, Nat.reduceLT, Nat.reduceEqDiff, reduceIte, w_9m0_2, w_9m0_3, w_9m0_4, w_9m0_5, w_9m0_6, w_9m0_14, w_9m0_42, u_15_2, u_15_3, u_15_4, u_15_5, u_15_6, u_15_14, u_15_42] <;> omega))
              · skip
                try simp (disch := omega) only [↓i_in, ↓i_isCouple, ↓i_isBridge, ↓i_isTheme, ↓i_isBarge, i_lt, i_le, i_eq, i_clamp, i_upd, i_m1, Int32.toInt_toInt64, Int32.toInt_add, Int32.toInt_sub, Int32.toInt_mul, bm32, Int32.reduceToInt, Int64.reduceToInt, Nat.reduceLT, Nat.reduceEqDiff, reduceIte, w_9m0_2, w_9m0_3, w_9m0_4, w_9m0_5, w_9m0_6, w_9m0_14, w_9m0_42, u_15_2, u_15_3, u_15_4, u_15_5, u_15_6, u_15_14, u_15_42] at c_12
                exact ih (w_9l6 + 1) w_9l5 1000000000 w_9l3 u_15 (⟨i_7, (by first | omega | (simp (disch := omega) only [↓i_in, ↓i_isCouple, ↓i_isBridge, ↓i_isTheme, ↓i_isBarge, i_lt, i_le, i_eq, i_clamp, i_upd, i_m1, Int32.toInt_toInt64, Int32.toInt_add, Int32.toInt_sub, Int32.toInt_mul, bm32, Int32.reduceToInt, Int64.reduceToInt, Nat.reduceLT, Nat.reduceEqDiff, reduceIte, w_9m0_2, w_9m0_3, w_9m0_4, w_9m0_5, w_9m0_6, w_9m0_14, w_9m0_42, u_15_2, u_15_3, u_15_4, u_15_5, u_15_6, u_15_14, u_15_42] <;> omega)), (by first | omega | (simp (disch := omega) only [↓i_in, ↓i_isCouple, ↓i_isBridge, ↓i_isTheme, ↓i_isBarge, i_lt, i_le, i_eq, i_clamp, i_upd, i_m1, Int32.toInt_toInt64, Int32.toInt_add, Int32.toInt_sub, Int32.toInt_mul, bm32, Int32.reduceToInt, Int64.reduceToInt, Nat.reduceLT, Nat.reduceEqDiff, reduceIte, w_9m0_2, w_9m0_3, w_9m0_4, w_9m0_5, w_9m0_6, w_9m0_14, w_9m0_42, u_15_2, u_15_3, u_15_4, u_15_5, u_15_6, u_15_14, u_15_42] <;> omega))⟩) (by first | omega | (simp (disch := omega) only [↓i_in, ↓i_isCouple, ↓i_isBridge, ↓i_isTheme, ↓i_isBarge, i_lt, i_le, i_eq, i_clamp, i_upd, i_m1, Int32.toInt_toInt64, Int32.toInt_add, Int32.toInt_sub, Int32.toInt_mul, bm32, Int32.reduceToInt, Int64.reduceToInt, Nat.reduceLT, Nat.reduceEqDiff, reduceIte, w_9m0_2, w_9m0_3, w_9m0_4, w_9m0_5, w_9m0_6, w_9m0_14, w_9m0_42, u_15_2, u_15_3, u_15_4, u_15_5, u_15_6, u_15_14, u_15_42] <;> omega))
            · skip
              try simp (disch := omega) only [↓i_in, ↓i_isCouple, ↓i_isBridge, ↓i_isTheme, ↓i_isBarge, i_lt, i_le, i_eq, i_clamp, i_upd, i_m1, Int32.toInt_toInt64, Int32.toInt_add, Int32.toInt_sub, Int32.toInt_mul, bm32, Int32.reduceToInt, Int64.reduceToInt, Nat.reduceLT, Nat.reduceEqDiff, reduceIte, w_9m0_2, w_9m0_3, w_9m0_4, w_9m0_5, w_9m0_6, w_9m0_14, w_9m0_42, u_15_2, u_15_3, u_15_4, u_15_5, u_15_6, u_15_14, u_15_42] at c_11
              refine ⟨fun c_13 => ?_, fun c_13 => ?_⟩
              · skip
                try simp (disch := omega) only [↓i_in, ↓i_isCouple, ↓i_isBridge, ↓i_isTheme, ↓i_isBarge, i_lt, i_le, i_eq, i_clamp, i_upd, i_m1, Int32.toInt_toInt64, Int32.toInt_add, Int32.toInt_sub, Int32.toInt_mul, bm32, Int32.reduceToInt, Int64.reduceToInt, Nat.reduceLT, Nat.reduceEqDiff, reduceIte, w_9m0_2, w_9m0_3, w_9m0_4, w_9m0_5, w_9m0_6, w_9m0_14, w_9m0_42, u_15_2, u_15_3, u_15_4, u_15_5, u_15_6, u_15_14, u_15_42] at c_13
                exact ih (w_9l6 + 1) w_9l5 w_9l4 w_9l6 u_15 (⟨i_7, (by first | omega | (simp (disch := omega) only [↓i_in, ↓i_isCouple, ↓i_isBridge, ↓i_isTheme, ↓i_isBarge, i_lt, i_le, i_eq, i_clamp, i_upd, i_m1, Int32.toInt_toInt64, Int32.toInt_add, Int32.toInt_sub, Int32.toInt_mul, bm32, Int32.reduceToInt, Int64.reduceToInt, Nat.reduceLT, Nat.reduceEqDiff, reduceIte, w_9m0_2, w_9m0_3, w_9m0_4, w_9m0_5, w_9m0_6, w_9m0_14, w_9m0_42, u_15_2, u_15_3, u_15_4, u_15_5, u_15_6, u_15_14, u_15_42] <;> omega)), (by first | omega | (simp (disch := omega) only [↓i_in, ↓i_isCouple, ↓i_isBridge, ↓i_isTheme, ↓i_isBarge, i_lt, i_le, i_eq, i_clamp, i_upd, i_m1, Int32.toInt_toInt64, Int32.toInt_add, Int32.toInt_sub, Int32.toInt_mul, bm32, Int32.reduceToInt, Int64.reduceToInt, Nat.reduceLT, Nat.reduceEqDiff, reduceIte, w_9m0_2, w_9m0_3, w_9m0_4, w_9m0_5, w_9m0_6, w_9m0_14, w_9m0_42, u_15_2, u_15_3, u_15_4, u_15_5, u_15_6, u_15_14, u_15_42] <;> omega))⟩) (by first | omega | (simp (disch := omega) only [↓i_in, ↓i_isCouple, ↓i_isBridge, ↓i_isTheme, ↓i_isBarge, i_lt, i_le, i_eq, i_clamp, i_upd, i_m1, Int32.toInt_toInt64, Int32.toInt_add, Int32.toInt_sub, Int32.toInt_mul, bm32, Int32.reduceToInt, Int64.reduceToInt, Nat.reduceLT, Nat.reduceEqDiff, reduceIte, w_9m0_2, w_9m0_3, w_9m0_4, w_9m0_5, w_9m0_6, w_9m0_14, w_9m0_42, u_15_2, u_15_3, u_15_4, u_15_5, u_15_6, u_15_14, u_15_42] <;> omega))
              · skip
                try simp (disch := omega) only [↓i_in, ↓i_isCouple, ↓i_isBridge, ↓i_isTheme, ↓i_isBarge, i_lt, i_le, i_eq, i_clamp, i_upd, i_m1, Int32.toInt_toInt64, Int32.toInt_add, Int32.toInt_sub, Int32.toInt_mul, bm32, Int32.reduceToInt, Int64.reduceToInt, Nat.reduceLT, Nat.reduceEqDiff, reduceIte, w_9m0_2, w_9m0_3, w_9m0_4, w_9m0_5, w_9m0_6, w_9m0_14, w_9m0_42, u_15_2, u_15_3, u_15_4, u_15_5, u_15_6, u_15_14, u_15_42] at c_13
                exact ih (w_9l6 + 1) w_9l5 1000000000 w_9l6 u_15 (⟨i_7, (by first | omega | (simp (disch := omega) only [↓i_in, ↓i_isCouple, ↓i_isBridge, ↓i_isTheme, ↓i_isBarge, i_lt, i_le, i_eq, i_clamp, i_upd, i_m1, Int32.toInt_toInt64, Int32.toInt_add, Int32.toInt_sub, Int32.toInt_mul, bm32, Int32.reduceToInt, Int64.reduceToInt, Nat.reduceLT, Nat.reduceEqDiff, reduceIte, w_9m0_2, w_9m0_3, w_9m0_4, w_9m0_5, w_9m0_6, w_9m0_14, w_9m0_42, u_15_2, u_15_3, u_15_4, u_15_5, u_15_6, u_15_14, u_15_42] <;> omega)), (by first | omega | (simp (disch := omega) only [↓i_in, ↓i_isCouple, ↓i_isBridge, ↓i_isTheme, ↓i_isBarge, i_lt, i_le, i_eq, i_clamp, i_upd, i_m1, Int32.toInt_toInt64, Int32.toInt_add, Int32.toInt_sub, Int32.toInt_mul, bm32, Int32.reduceToInt, Int64.reduceToInt, Nat.reduceLT, Nat.reduceEqDiff, reduceIte, w_9m0_2, w_9m0_3, w_9m0_4, w_9m0_5, w_9m0_6, w_9m0_14, w_9m0_42, u_15_2, u_15_3, u_15_4, u_15_5, u_15_6, u_15_14, u_15_42] <;> omega))⟩) (by first | omega | (simp (disch := omega) only [↓i_in, ↓i_isCouple, ↓i_isBridge, ↓i_isTheme, ↓i_isBarge, i_lt, i_le, i_eq, i_clamp, i_upd, i_m1, Int32.toInt_toInt64, Int32.toInt_add, Int32.toInt_sub, Int32.toInt_mul, bm32, Int32.reduceToInt, Int64.reduceToInt, Nat.reduceLT, Nat.reduceEqDiff, reduceIte, w_9m0_2, w_9m0_3, w_9m0_4, w_9m0_5, w_9m0_6, w_9m0_14, w_9m0_42, u_15_2, u_15_3, u_15_4, u_15_5, u_15_6, u_15_14, u_15_42] <;> omega))
          · skip
            try simp (disch := omega) only [↓i_in, ↓i_isCouple, ↓i_isBridge, ↓i_isTheme, ↓i_isBarge, i_lt, i_le, i_eq, i_clamp, i_upd, i_m1, Int32.toInt_toInt64, Int32.toInt_add, Int32.toInt_sub, Int32.toInt_mul, bm32, Int32.reduceToInt, Int64.reduceToInt, Nat.reduceLT, Nat.reduceEqDiff, reduceIte, w_9m0_2, w_9m0_3, w_9m0_4, w_9m0_5, w_9m0_6, w_9m0_14, w_9m0_42, u_15_2, u_15_3, u_15_4, u_15_5, u_15_6, u_15_14, u_15_42] at c_10
            refine ⟨fun c_14 => ?_, fun c_14 => ?_⟩
            · skip
              try simp (disch := omega) only [↓i_in, ↓i_isCouple, ↓i_isBridge, ↓i_isTheme, ↓i_isBarge, i_lt, i_le, i_eq, i_clamp, i_upd, i_m1, Int32.toInt_toInt64, Int32.toInt_add, Int32.toInt_sub, Int32.toInt_mul, bm32, Int32.reduceToInt, Int64.reduceToInt, Nat.reduceLT, Nat.reduceEqDiff, reduceIte, w_9m0_2, w_9m0_3, w_9m0_4, w_9m0_5, w_9m0_6, w_9m0_14, w_9m0_42, u_15_2, u_15_3, u_15_4, u_15_5, u_15_6, u_15_14, u_15_42] at c_14
              refine ⟨fun c_15 => ?_, fun c_15 => ?_⟩
              · skip
                try simp (disch := omega) only [↓i_in, ↓i_isCouple, ↓i_isBridge, ↓i_isTheme, ↓i_isBarge, i_lt, i_le, i_eq, i_clamp, i_upd, i_m1, Int32.toInt_toInt64, Int32.toInt_add, Int32.toInt_sub, Int32.toInt_mul, bm32, Int32.reduceToInt, Int64.reduceToInt, Nat.reduceLT, Nat.reduceEqDiff, reduceIte, w_9m0_2, w_9m0_3, w_9m0_4, w_9m0_5, w_9m0_6, w_9m0_14, w_9m0_42, u_15_2, u_15_3, u_15_4, u_15_5, u_15_6, u_15_14, u_15_42] at c_15
                exact ih (w_9l6 + 1) 1000000000 w_9l4 w_9l3 u_15 (⟨i_7, (by first | omega | (simp (disch := omega) only [↓i_in, ↓i_isCouple, ↓i_isBridge, ↓i_isTheme, ↓i_isBarge, i_lt, i_le, i_eq, i_clamp, i_upd, i_m1, Int32.toInt_toInt64, Int32.toInt_add, Int32.toInt_sub, Int32.toInt_mul, bm32, Int32.reduceToInt, Int64.reduceToInt, Nat.reduceLT, Nat.reduceEqDiff, reduceIte, w_9m0_2, w_9m0_3, w_9m0_4, w_9m0_5, w_9m0_6, w_9m0_14, w_9m0_42, u_15_2, u_15_3, u_15_4, u_15_5, u_15_6, u_15_14, u_15_42] <;> omega)), (by first | omega | (simp (disch := omega) only [↓i_in, ↓i_isCouple, ↓i_isBridge, ↓i_isTheme, ↓i_isBarge, i_lt, i_le, i_eq, i_clamp, i_upd, i_m1, Int32.toInt_toInt64, Int32.toInt_add, Int32.toInt_sub, Int32.toInt_mul, bm32, Int32.reduceToInt, Int64.reduceToInt, Nat.reduceLT, Nat.reduceEqDiff, reduceIte, w_9m0_2, w_9m0_3, w_9m0_4, w_9m0_5, w_9m0_6, w_9m0_14, w_9m0_42, u_15_2, u_15_3, u_15_4, u_15_5, u_15_6, u_15_14, u_15_42] <;> omega))⟩) (by first | omega | (simp (disch := omega) only [↓i_in, ↓i_isCouple, ↓i_isBridge, ↓i_isTheme, ↓i_isBarge, i_lt, i_le, i_eq, i_clamp, i_upd, i_m1, Int32.toInt_toInt64, Int32.toInt_add, Int32.toInt_sub, Int32.toInt_mul, bm32, Int32.reduceToInt, Int64.reduceToInt, Nat.reduceLT, Nat.reduceEqDiff, reduceIte, w_9m0_2, w_9m0_3, w_9m0_4, w_9m0_5, w_9m0_6, w_9m0_14, w_9m0_42, u_15_2, u_15_3, u_15_4, u_15_5, u_15_6, u_15_14, u_15_42] <;> omega))
              · skip
                try simp (disch := omega) only [↓i_in, ↓i_isCouple, ↓i_isBridge, ↓i_isTheme, ↓i_isBarge, i_lt, i_le, i_eq, i_clamp, i_upd, i_m1, Int32.toInt_toInt64, Int32.toInt_add, Int32.toInt_sub, Int32.toInt_mul, bm32, Int32.reduceToInt, Int64.reduceToInt, Nat.reduceLT, Nat.reduceEqDiff, reduceIte, w_9m0_2, w_9m0_3, w_9m0_4, w_9m0_5, w_9m0_6, w_9m0_14, w_9m0_42, u_15_2, u_15_3, u_15_4, u_15_5, u_15_6, u_15_14, u_15_42] at c_15
                exact ih (w_9l6 + 1) 1000000000 1000000000 w_9l3 u_15 (⟨i_7, (by first | omega | (simp (disch := omega) only [↓i_in, ↓i_isCouple, ↓i_isBridge, ↓i_isTheme, ↓i_isBarge, i_lt, i_le, i_eq, i_clamp, i_upd, i_m1, Int32.toInt_toInt64, Int32.toInt_add, Int32.toInt_sub, Int32.toInt_mul, bm32, Int32.reduceToInt, Int64.reduceToInt, Nat.reduceLT, Nat.reduceEqDiff, reduceIte, w_9m0_2, w_9m0_3, w_9m0_4, w_9m0_5, w_9m0_6, w_9m0_14, w_9m0_42, u_15_2, u_15_3, u_15_4, u_15_5, u_15_6, u_15_14, u_15_42] <;> omega)), (by first | omega | (simp (disch := omega) only [↓i_in, ↓i_isCouple, ↓i_isBridge, ↓i_isTheme, ↓i_isBarge, i_lt, i_le, i_eq, i_clamp, i_upd, i_m1, Int32.toInt_toInt64, Int32.toInt_add, Int32.toInt_sub, Int32.toInt_mul, bm32, Int32.reduceToInt, Int64.reduceToInt, Nat.reduceLT, Nat.reduceEqDiff, reduceIte, w_9m0_2, w_9m0_3, w_9m0_4, w_9m0_5, w_9m0_6, w_9m0_14, w_9m0_42, u_15_2, u_15_3, u_15_4, u_15_5, u_15_6, u_15_14, u_15_42] <;> omega))⟩) (by first | omega | (simp (disch := omega) only [↓i_in, ↓i_isCouple, ↓i_isBridge, ↓i_isTheme, ↓i_isBarge, i_lt, i_le, i_eq, i_clamp, i_upd, i_m1, Int32.toInt_toInt64, Int32.toInt_add, Int32.toInt_sub, Int32.toInt_mul, bm32, Int32.reduceToInt, Int64.reduceToInt, Nat.reduceLT, Nat.reduceEqDiff, reduceIte, w_9m0_2, w_9m0_3, w_9m0_4, w_9m0_5, w_9m0_6, w_9m0_14, w_9m0_42, u_15_2, u_15_3, u_15_4, u_15_5, u_15_6, u_15_14, u_15_42] <;> omega))
            · skip
              try simp (disch := omega) only [↓i_in, ↓i_isCouple, ↓i_isBridge, ↓i_isTheme, ↓i_isBarge, i_lt, i_le, i_eq, i_clamp, i_upd, i_m1, Int32.toInt_toInt64, Int32.toInt_add, Int32.toInt_sub, Int32.toInt_mul, bm32, Int32.reduceToInt, Int64.reduceToInt, Nat.reduceLT, Nat.reduceEqDiff, reduceIte, w_9m0_2, w_9m0_3, w_9m0_4, w_9m0_5, w_9m0_6, w_9m0_14, w_9m0_42, u_15_2, u_15_3, u_15_4, u_15_5, u_15_6, u_15_14, u_15_42] at c_14
              refine ⟨fun c_16 => ?_, fun c_16 => ?_⟩
              · skip
                try simp (disch := omega) only [↓i_in, ↓i_isCouple, ↓i_isBridge, ↓i_isTheme, ↓i_isBarge, i_lt, i_le, i_eq, i_clamp, i_upd, i_m1, Int32.toInt_toInt64, Int32.toInt_add, Int32.toInt_sub, Int32.toInt_mul, bm32, Int32.reduceToInt, Int64.reduceToInt, Nat.reduceLT, Nat.reduceEqDiff, reduceIte, w_9m0_2, w_9m0_3, w_9m0_4, w_9m0_5, w_9m0_6, w_9m0_14, w_9m0_42, u_15_2, u_15_3, u_15_4, u_15_5, u_15_6, u_15_14, u_15_42] at c_16
                exact ih (w_9l6 + 1) 1000000000 w_9l4 w_9l6 u_15 (⟨i_7, (by first | omega | (simp (disch := omega) only [↓i_in, ↓i_isCouple, ↓i_isBridge, ↓i_isTheme, ↓i_isBarge, i_lt, i_le, i_eq, i_clamp, i_upd, i_m1, Int32.toInt_toInt64, Int32.toInt_add, Int32.toInt_sub, Int32.toInt_mul, bm32, Int32.reduceToInt, Int64.reduceToInt, Nat.reduceLT, Nat.reduceEqDiff, reduceIte, w_9m0_2, w_9m0_3, w_9m0_4, w_9m0_5, w_9m0_6, w_9m0_14, w_9m0_42, u_15_2, u_15_3, u_15_4, u_15_5, u_15_6, u_15_14, u_15_42] <;> omega)), (by first | omega | (simp (disch := omega) only [↓i_in, ↓i_isCouple, ↓i_isBridge, ↓i_isTheme, ↓i_isBarge, i_lt, i_le, i_eq, i_clamp, i_upd, i_m1, Int32.toInt_toInt64, Int32.toInt_add, Int32.toInt_sub, Int32.toInt_mul, bm32, Int32.reduceToInt, Int64.reduceToInt, Nat.reduceLT, Nat.reduceEqDiff, reduceIte, w_9m0_2, w_9m0_3, w_9m0_4, w_9m0_5, w_9m0_6, w_9m0_14, w_9m0_42, u_15_2, u_15_3, u_15_4, u_15_5, u_15_6, u_15_14, u_15_42] <;> omega))⟩) (by first | omega | (simp (disch := omega) only [↓i_in, ↓i_isCouple, ↓i_isBridge, ↓i_isTheme, ↓i_isBarge, i_lt, i_le, i_eq, i_clamp, i_upd, i_m1, Int32.toInt_toInt64, Int32.toInt_add, Int32.toInt_sub, Int32.toInt_mul, bm32, Int32.reduceToInt, Int64.reduceToInt, Nat.reduceLT, Nat.reduceEqDiff, reduceIte, w_9m0_2, w_9m0_3, w_9m0_4, w_9m0_5, w_9m0_6, w_9m0_14, w_9m0_42, u_15_2, u_15_3, u_15_4, u_15_5, u_15_6, u_15_14, u_15_42] <;> omega))
              · skip
                try simp (disch := omega) only [↓i_in, ↓i_isCouple, ↓i_isBridge, ↓i_isTheme, ↓i_isBarge, i_lt, i_le, i_eq, i_clamp, i_upd, i_m1, Int32.toInt_toInt64, Int32.toInt_add, Int32.toInt_sub, Int32.toInt_mul, bm32, Int32.reduceToInt, Int64.reduceToInt, Nat.reduceLT, Nat.reduceEqDiff, reduceIte, w_9m0_2, w_9m0_3, w_9m0_4, w_9m0_5, w_9m0_6, w_9m0_14, w_9m0_42, u_15_2, u_15_3, u_15_4, u_15_5, u_15_6, u_15_14, u_15_42] at c_16
                exact ih (w_9l6 + 1) 1000000000 1000000000 w_9l6 u_15 (⟨i_7, (by first | omega | (simp (disch := omega) only [↓i_in, ↓i_isCouple, ↓i_isBridge, ↓i_isTheme, ↓i_isBarge, i_lt, i_le, i_eq, i_clamp, i_upd, i_m1, Int32.toInt_toInt64, Int32.toInt_add, Int32.toInt_sub, Int32.toInt_mul, bm32, Int32.reduceToInt, Int64.reduceToInt, Nat.reduceLT, Nat.reduceEqDiff, reduceIte, w_9m0_2, w_9m0_3, w_9m0_4, w_9m0_5, w_9m0_6, w_9m0_14, w_9m0_42, u_15_2, u_15_3, u_15_4, u_15_5, u_15_6, u_15_14, u_15_42] <;> omega)), (by first | omega | (simp (disch := omega) only [↓i_in, ↓i_isCouple, ↓i_isBridge, ↓i_isTheme, ↓i_isBarge, i_lt, i_le, i_eq, i_clamp, i_upd, i_m1, Int32.toInt_toInt64, Int32.toInt_add, Int32.toInt_sub, Int32.toInt_mul, bm32, Int32.reduceToInt, Int64.reduceToInt, Nat.reduceLT, Nat.reduceEqDiff, reduceIte, w_9m0_2, w_9m0_3, w_9m0_4, w_9m0_5, w_9m0_6, w_9m0_14, w_9m0_42, u_15_2, u_15_3, u_15_4, u_15_5, u_15_6, u_15_14, u_15_42] <;> omega))⟩) (by first | omega | (simp (disch := omega) only [↓i_in, ↓i_isCouple, ↓i_isBridge, ↓i_isTheme, ↓i_isBarge, i_lt, i_le, i_eq, i_clamp, i_upd, i_m1, Int32.toInt_toInt64, Int32.toInt_add, Int32.toInt_sub, Int32.toInt_mul, bm32, Int32.reduceToInt, Int64.reduceToInt, Nat.reduceLT, Nat.reduceEqDiff, reduceIte, w_9m0_2, w_9m0_3, w_9m0_4, w_9m0_5, w_9m0_6, w_9m0_14, w_9m0_42, u_15_2, u_15_3, u_15_4, u_15_5, u_15_6, u_15_14, u_15_42] <;> omega))
        · skip
          try simp (disch := omega) only [↓i_in, ↓i_isCouple, ↓i_isBridge, ↓i_isTheme, ↓i_isBarge, i_lt, i_le, i_eq, i_clamp, i_upd, i_m1, Int32.toInt_toInt64, Int32.toInt_add, Int32.toInt_sub, Int32.toInt_mul, bm32, Int32.reduceToInt, Int64.reduceToInt, Nat.reduceLT, Nat.reduceEqDiff, reduceIte, w_9m0_2, w_9m0_3, w_9m0_4, w_9m0_5, w_9m0_6, w_9m0_14, w_9m0_42, u_15_2, u_15_3, u_15_4, u_15_5, u_15_6, u_15_14, u_15_42] at c_9
          refine ⟨fun c_17 => ?_, fun c_17 => ?_⟩
          · skip
            try simp (disch := omega) only [↓i_in, ↓i_isCouple, ↓i_isBridge, ↓i_isTheme, ↓i_isBarge, i_lt, i_le, i_eq, i_clamp, i_upd, i_m1, Int32.toInt_toInt64, Int32.toInt_add, Int32.toInt_sub, Int32.toInt_mul, bm32, Int32.reduceToInt, Int64.reduceToInt, Nat.reduceLT, Nat.reduceEqDiff, reduceIte, w_9m0_2, w_9m0_3, w_9m0_4, w_9m0_5, w_9m0_6, w_9m0_14, w_9m0_42, u_15_2, u_15_3, u_15_4, u_15_5, u_15_6, u_15_14, u_15_42] at c_17
            refine ⟨fun c_18 => ?_, fun c_18 => ?_⟩
            · skip
              try simp (disch := omega) only [↓i_in, ↓i_isCouple, ↓i_isBridge, ↓i_isTheme, ↓i_isBarge, i_lt, i_le, i_eq, i_clamp, i_upd, i_m1, Int32.toInt_toInt64, Int32.toInt_add, Int32.toInt_sub, Int32.toInt_mul, bm32, Int32.reduceToInt, Int64.reduceToInt, Nat.reduceLT, Nat.reduceEqDiff, reduceIte, w_9m0_2, w_9m0_3, w_9m0_4, w_9m0_5, w_9m0_6, w_9m0_14, w_9m0_42, u_15_2, u_15_3, u_15_4, u_15_5, u_15_6, u_15_14, u_15_42] at c_18
              exact ih (w_9l6 + 1) w_9l4 w_9l4 w_9l3 u_15 (⟨i_7, (by first | omega | (simp (disch := omega) only [↓i_in, ↓i_isCouple, ↓i_isBridge, ↓i_isTheme, ↓i_isBarge, i_lt, i_le, i_eq, i_clamp, i_upd, i_m1, Int32.toInt_toInt64, Int32.toInt_add, Int32.toInt_sub, Int32.toInt_mul, bm32, Int32.reduceToInt, Int64.reduceToInt, Nat.reduceLT, Nat.reduceEqDiff, reduceIte, w_9m0_2, w_9m0_3, w_9m0_4, w_9m0_5, w_9m0_6, w_9m0_14, w_9m0_42, u_15_2, u_15_3, u_15_4, u_15_5, u_15_6, u_15_14, u_15_42] <;> omega)), (by first | omega | (simp (disch := omega) only [↓i_in, ↓i_isCouple, ↓i_isBridge, ↓i_isTheme, ↓i_isBarge, i_lt, i_le, i_eq, i_clamp, i_upd, i_m1, Int32.toInt_toInt64, Int32.toInt_add, Int32.toInt_sub, Int32.toInt_mul, bm32, Int32.reduceToInt, Int64.reduceToInt, Nat.reduceLT, Nat.reduceEqDiff, reduceIte, w_9m0_2, w_9m0_3, w_9m0_4, w_9m0_5, w_9m0_6, w_9m0_14, w_9m0_42, u_15_2, u_15_3, u_15_4, u_15_5, u_15_6, u_15_14, u_15_42] <;> omega))⟩) (by first | omega | (simp (disch := omega) only [↓i_in, ↓i_isCouple, ↓i_isBridge, ↓i_isTheme, ↓i_isBarge, i_lt, i_le, i_eq, i_clamp, i_upd, i_m1, Int32.toInt_toInt64, Int32.toInt_add, Int32.toInt_sub, Int32.toInt_mul, bm32, Int32.reduceToInt, Int64.reduceToInt, Nat.reduceLT, Nat.reduceEqDiff, reduceIte, w_9m0_2, w_9m0_3, w_9m0_4, w_9m0_5, w_9m0_6, w_9m0_14, w_9m0_42, u_15_2, u_15_3, u_15_4, u_15_5, u_15_6, u_15_14, u_15_42] <;> omega))
            · skip
              try simp (disch := omega) only [↓i_in, ↓i_isCouple, ↓i_isBridge, ↓i_isTheme, ↓i_isBarge, i_lt, i_le, i_eq, i_clamp, i_upd, i_m1, Int32.toInt_toInt64, Int32.toInt_add, Int32.toInt_sub, Int32.toInt_mul, bm32, Int32.reduceToInt, Int64.reduceToInt, Nat.reduceLT, Nat.reduceEqDiff, reduceIte, w_9m0_2, w_9m0_3, w_9m0_4, w_9m0_5, w_9m0_6, w_9m0_14, w_9m0_42, u_15_2, u_15_3, u_15_4, u_15_5, u_15_6, u_15_14, u_15_42] at c_18
              exact ih (w_9l6 + 1) w_9l4 1000000000 w_9l3 u_15 (⟨i_7, (by first | omega | (simp (disch := omega) only [↓i_in, ↓i_isCouple, ↓i_isBridge, ↓i_isTheme, ↓i_isBarge, i_lt, i_le, i_eq, i_clamp, i_upd, i_m1, Int32.toInt_toInt64, Int32.toInt_add, Int32.toInt_sub, Int32.toInt_mul, bm32, Int32.reduceToInt, Int64.reduceToInt, Nat.reduceLT, Nat.reduceEqDiff, reduceIte, w_9m0_2, w_9m0_3, w_9m0_4, w_9m0_5, w_9m0_6, w_9m0_14, w_9m0_42, u_15_2, u_15_3, u_15_4, u_15_5, u_15_6, u_15_14, u_15_42] <;> omega)), (by first | omega | (simp (disch := omega) only [↓i_in, ↓i_isCouple, ↓i_isBridge, ↓i_isTheme, ↓i_isBarge, i_lt, i_le, i_eq, i_clamp, i_upd, i_m1, Int32.toInt_toInt64, Int32.toInt_add, Int32.toInt_sub, Int32.toInt_mul, bm32, Int32.reduceToInt, Int64.reduceToInt, Nat.reduceLT, Nat.reduceEqDiff, reduceIte, w_9m0_2, w_9m0_3, w_9m0_4, w_9m0_5, w_9m0_6, w_9m0_14, w_9m0_42, u_15_2, u_15_3, u_15_4, u_15_5, u_15_6, u_15_14, u_15_42] <;> omega))⟩) (by first | omega | (simp (disch := omega) only [↓i_in, ↓i_isCouple, ↓i_isBridge, ↓i_isTheme, ↓i_isBarge, i_lt, i_le, i_eq, i_clamp, i_upd, i_m1, Int32.toInt_toInt64, Int32.toInt_add, Int32.toInt_sub, Int32.toInt_mul, bm32, Int32.reduceToInt, Int64.reduceToInt, Nat.reduceLT, Nat.reduceEqDiff, reduceIte, w_9m0_2, w_9m0_3, w_9m0_4, w_9m0_5, w_9m0_6, w_9m0_14, w_9m0_42, u_15_2, u_15_3, u_15_4, u_15_5, u_15_6, u_15_14, u_15_42] <;> omega))
          · skip
            try simp (disch := omega) only [↓i_in, ↓i_isCouple, ↓i_isBridge, ↓i_isTheme, ↓i_isBarge, i_lt, i_le, i_eq, i_clamp, i_upd, i_m1, Int32.toInt_toInt64, Int32.toInt_add, Int32.toInt_sub, Int32.toInt_mul, bm32, Int32.reduceToInt, Int64.reduceToInt, Nat.reduceLT, Nat.reduceEqDiff, reduceIte, w_9m0_2, w_9m0_3, w_9m0_4, w_9m0_5, w_9m0_6, w_9m0_14, w_9m0_42, u_15_2, u_15_3, u_15_4, u_15_5, u_15_6, u_15_14, u_15_42] at c_17
            refine ⟨fun c_19 => ?_, fun c_19 => ?_⟩
            · skip
              try simp (disch := omega) only [↓i_in, ↓i_isCouple, ↓i_isBridge, ↓i_isTheme, ↓i_isBarge, i_lt, i_le, i_eq, i_clamp, i_upd, i_m1, Int32.toInt_toInt64, Int32.toInt_add, Int32.toInt_sub, Int32.toInt_mul, bm32, Int32.reduceToInt, Int64.reduceToInt, Nat.reduceLT, Nat.reduceEqDiff, reduceIte, w_9m0_2, w_9m0_3, w_9m0_4, w_9m0_5, w_9m0_6, w_9m0_14, w_9m0_42, u_15_2, u_15_3, u_15_4, u_15_5, u_15_6, u_15_14, u_15_42] at c_19
              exact ih (w_9l6 + 1) w_9l4 w_9l4 w_9l6 u_15 (⟨i_7, (by first | omega | (simp (disch := omega) only [↓i_in, ↓i_isCouple, ↓i_isBridge, ↓i_isTheme, ↓i_isBarge, i_lt, i_le, i_eq, i_clamp, i_upd, i_m1, Int32.toInt_toInt64, Int32.toInt_add, Int32.toInt_sub, Int32.toInt_mul, bm32, Int32.reduceToInt, Int64.reduceToInt, Nat.reduceLT, Nat.reduceEqDiff, reduceIte, w_9m0_2, w_9m0_3, w_9m0_4, w_9m0_5, w_9m0_6, w_9m0_14, w_9m0_42, u_15_2, u_15_3, u_15_4, u_15_5, u_15_6, u_15_14, u_15_42] <;> omega)), (by first | omega | (simp (disch := omega) only [↓i_in, ↓i_isCouple, ↓i_isBridge, ↓i_isTheme, ↓i_isBarge, i_lt, i_le, i_eq, i_clamp, i_upd, i_m1, Int32.toInt_toInt64, Int32.toInt_add, Int32.toInt_sub, Int32.toInt_mul, bm32, Int32.reduceToInt, Int64.reduceToInt, Nat.reduceLT, Nat.reduceEqDiff, reduceIte, w_9m0_2, w_9m0_3, w_9m0_4, w_9m0_5, w_9m0_6, w_9m0_14, w_9m0_42, u_15_2, u_15_3, u_15_4, u_15_5, u_15_6, u_15_14, u_15_42] <;> omega))⟩) (by first | omega | (simp (disch := omega) only [↓i_in, ↓i_isCouple, ↓i_isBridge, ↓i_isTheme, ↓i_isBarge, i_lt, i_le, i_eq, i_clamp, i_upd, i_m1, Int32.toInt_toInt64, Int32.toInt_add, Int32.toInt_sub, Int32.toInt_mul, bm32, Int32.reduceToInt, Int64.reduceToInt, Nat.reduceLT, Nat.reduceEqDiff, reduceIte, w_9m0_2, w_9m0_3, w_9m0_4, w_9m0_5, w_9m0_6, w_9m0_14, w_9m0_42, u_15_2, u_15_3, u_15_4, u_15_5, u_15_6, u_15_14, u_15_42] <;> omega))
            · skip
              try simp (disch := omega) only [↓i_in, ↓i_isCouple, ↓i_isBridge, ↓i_isTheme, ↓i_isBarge, i_lt, i_le, i_eq, i_clamp, i_upd, i_m1, Int32.toInt_toInt64, Int32.toInt_add, Int32.toInt_sub, Int32.toInt_mul, bm32, Int32.reduceToInt, Int64.reduceToInt, Nat.reduceLT, Nat.reduceEqDiff, reduceIte, w_9m0_2, w_9m0_3, w_9m0_4, w_9m0_5, w_9m0_6, w_9m0_14, w_9m0_42, u_15_2, u_15_3, u_15_4, u_15_5, u_15_6, u_15_14, u_15_42] at c_19
              exact ih (w_9l6 + 1) w_9l4 1000000000 w_9l6 u_15 (⟨i_7, (by first | omega | (simp (disch := omega) only [↓i_in, ↓i_isCouple, ↓i_isBridge, ↓i_isTheme, ↓i_isBarge, i_lt, i_le, i_eq, i_clamp, i_upd, i_m1, Int32.toInt_toInt64, Int32.toInt_add, Int32.toInt_sub, Int32.toInt_mul, bm32, Int32.reduceToInt, Int64.reduceToInt, Nat.reduceLT, Nat.reduceEqDiff, reduceIte, w_9m0_2, w_9m0_3, w_9m0_4, w_9m0_5, w_9m0_6, w_9m0_14, w_9m0_42, u_15_2, u_15_3, u_15_4, u_15_5, u_15_6, u_15_14, u_15_42] <;> omega)), (by first | omega | (simp (disch := omega) only [↓i_in, ↓i_isCouple, ↓i_isBridge, ↓i_isTheme, ↓i_isBarge, i_lt, i_le, i_eq, i_clamp, i_upd, i_m1, Int32.toInt_toInt64, Int32.toInt_add, Int32.toInt_sub, Int32.toInt_mul, bm32, Int32.reduceToInt, Int64.reduceToInt, Nat.reduceLT, Nat.reduceEqDiff, reduceIte, w_9m0_2, w_9m0_3, w_9m0_4, w_9m0_5, w_9m0_6, w_9m0_14, w_9m0_42, u_15_2, u_15_3, u_15_4, u_15_5, u_15_6, u_15_14, u_15_42] <;> omega))⟩) (by first | omega | (simp (disch := omega) only [↓i_in, ↓i_isCouple, ↓i_isBridge, ↓i_isTheme, ↓i_isBarge, i_lt, i_le, i_eq, i_clamp, i_upd, i_m1, Int32.toInt_toInt64, Int32.toInt_add, Int32.toInt_sub, Int32.toInt_mul, bm32, Int32.reduceToInt, Int64.reduceToInt, Nat.reduceLT, Nat.reduceEqDiff, reduceIte, w_9m0_2, w_9m0_3, w_9m0_4, w_9m0_5, w_9m0_6, w_9m0_14, w_9m0_42, u_15_2, u_15_3, u_15_4, u_15_5, u_15_6, u_15_14, u_15_42] <;> omega))
      · skip
        try simp (disch := omega) only [↓i_in, ↓i_isCouple, ↓i_isBridge, ↓i_isTheme, ↓i_isBarge, i_lt, i_le, i_eq, i_clamp, i_upd, i_m1, Int32.toInt_toInt64, Int32.toInt_add, Int32.toInt_sub, Int32.toInt_mul, bm32, Int32.reduceToInt, Int64.reduceToInt, Nat.reduceLT, Nat.reduceEqDiff, reduceIte, w_9m0_2, w_9m0_3, w_9m0_4, w_9m0_5, w_9m0_6, w_9m0_14, w_9m0_42, u_15_2, u_15_3, u_15_4, u_15_5, u_15_6, u_15_14, u_15_42] at c_8
        refine ⟨fun c_20 => ?_, fun c_20 => ?_⟩
        · skip
          try simp (disch := omega) only [↓i_in, ↓i_isCouple, ↓i_isBridge, ↓i_isTheme, ↓i_isBarge, i_lt, i_le, i_eq, i_clamp, i_upd, i_m1, Int32.toInt_toInt64, Int32.toInt_add, Int32.toInt_sub, Int32.toInt_mul, bm32, Int32.reduceToInt, Int64.reduceToInt, Nat.reduceLT, Nat.reduceEqDiff, reduceIte, w_9m0_2, w_9m0_3, w_9m0_4, w_9m0_5, w_9m0_6, w_9m0_14, w_9m0_42, u_15_2, u_15_3, u_15_4, u_15_5, u_15_6, u_15_14, u_15_42] at c_20
          refine ⟨fun c_21 => ?_, fun c_21 => ?_⟩
          · skip
            try simp (disch := omega) only [↓i_in, ↓i_isCouple, ↓i_isBridge, ↓i_isTheme, ↓i_isBarge, i_lt, i_le, i_eq, i_clamp, i_upd, i_m1, Int32.toInt_toInt64, Int32.toInt_add, Int32.toInt_sub, Int32.toInt_mul, bm32, Int32.reduceToInt, Int64.reduceToInt, Nat.reduceLT, Nat.reduceEqDiff, reduceIte, w_9m0_2, w_9m0_3, w_9m0_4, w_9m0_5, w_9m0_6, w_9m0_14, w_9m0_42, u_15_2, u_15_3, u_15_4, u_15_5, u_15_6, u_15_14, u_15_42] at c_21
            refine ⟨fun c_22 => ?_, fun c_22 => ?_⟩
            · skip
              try simp (disch := omega) only [↓i_in, ↓i_isCouple, ↓i_isBridge, ↓i_isTheme, ↓i_isBarge, i_lt, i_le, i_eq, i_clamp, i_upd, i_m1, Int32.toInt_toInt64, Int32.toInt_add, Int32.toInt_sub, Int32.toInt_mul, bm32, Int32.reduceToInt, Int64.reduceToInt, Nat.reduceLT, Nat.reduceEqDiff, reduceIte, w_9m0_2, w_9m0_3, w_9m0_4, w_9m0_5, w_9m0_6, w_9m0_14, w_9m0_42, u_15_2, u_15_3, u_15_4, u_15_5, u_15_6, u_15_14, u_15_42] at c_22
              refine ⟨fun c_23 => ?_, fun c_23 => ?_⟩
              · skip
                try simp (disch := omega) only [↓i_in, ↓i_isCouple, ↓i_isBridge, ↓i_isTheme, ↓i_isBarge, i_lt, i_le, i_eq, i_clamp, i_upd, i_m1, Int32.toInt_toInt64, Int32.toInt_add, Int32.toInt_sub, Int32.toInt_mul, bm32, Int32.reduceToInt, Int64.reduceToInt, Nat.reduceLT, Nat.reduceEqDiff, reduceIte, w_9m0_2, w_9m0_3, w_9m0_4, w_9m0_5, w_9m0_6, w_9m0_14, w_9m0_42, u_15_2, u_15_3, u_15_4, u_15_5, u_15_6, u_15_14, u_15_42] at c_23
                exact ih (w_9l6 + 1) w_9l5 w_9l4 w_9l3 u_15 (⟨i_7, (by first | omega | (simp (disch := omega) only [↓i_in, ↓i_isCouple, ↓i_isBridge, ↓i_isTheme, ↓i_isBarge, i_lt, i_le, i_eq, i_clamp, i_upd, i_m1, Int32.toInt_toInt64, Int32.toInt_add, Int32.toInt_sub, Int32.toInt_mul, bm32, Int32.reduceToInt, Int64.reduceToInt, Nat.reduceLT, Nat.reduceEqDiff, reduceIte, w_9m0_2, w_9m0_3, w_9m0_4, w_9m0_5, w_9m0_6, w_9m0_14, w_9m0_42, u_15_2, u_15_3, u_15_4, u_15_5, u_15_6, u_15_14, u_15_42] <;> omega)), (by first | omega | (simp (disch := omega) only [↓i_in, ↓i_isCouple, ↓i_isBridge, ↓i_isTheme, ↓i_isBarge, i_lt, i_le, i_eq, i_clamp, i_upd, i_m1, Int32.toInt_toInt64, Int32.toInt_add, Int32.toInt_sub, Int32.toInt_mul, bm32, Int32.reduceToInt, Int64.reduceToInt, Nat.reduceLT, Nat.reduceEqDiff, reduceIte, w_9m0_2, w_9m0_3, w_9m0_4, w_9m0_5, w_9m0_6, w_9m0_14, w_9m0_42, u_15_2, u_15_3, u_15_4, u_15_5, u_15_6, u_15_14, u_15_42] <;> omega))⟩) (by first | omega | (simp (disch := omega) only [↓i_in, ↓i_isCouple, ↓i_isBridge, ↓i_isTheme, ↓i_isBarge, i_lt, i_le, i_eq, i_clamp, i_upd, i_m1, Int32.toInt_toInt64, Int32.toInt_add, Int32.toInt_sub, Int32.toInt_mul, bm32, Int32.reduceToInt, Int64.reduceToInt, Nat.reduceLT, Nat.reduceEqDiff, reduceIte, w_9m0_2, w_9m0_3, w_9m0_4, w_9m0_5, w_9m0_6, w_9m0_14, w_9m0_42, u_15_2, u_15_3, u_15_4, u_15_5, u_15_6, u_15_14, u_15_42] <;> omega))
              · skip
                try simp (disch := omega) only [↓i_in, ↓i_isCouple, ↓i_isBridge, ↓i_isTheme, ↓i_isBarge, i_lt, i_le, i_eq, i_clamp, i_upd, i_m1, Int32.toInt_toInt64, Int32.toInt_add, Int32.toInt_sub, Int32.toInt_mul, bm32, Int32.reduceToInt, Int64.reduceToInt, Nat.reduceLT, Nat.reduceEqDiff, reduceIte, w_9m0_2, w_9m0_3, w_9m0_4, w_9m0_5, w_9m0_6, w_9m0_14, w_9m0_42, u_15_2, u_15_3, u_15_4, u_15_5, u_15_6, u_15_14, u_15_42] at c_23
                exact ih (w_9l6 + 1) w_9l5 (u_15 35) w_9l3 u_15 (⟨i_7, (by first | omega | (simp (disch := omega) only [↓i_in, ↓i_isCouple, ↓i_isBridge, ↓i_isTheme, ↓i_isBarge, i_lt, i_le, i_eq, i_clamp, i_upd, i_m1, Int32.toInt_toInt64, Int32.toInt_add, Int32.toInt_sub, Int32.toInt_mul, bm32, Int32.reduceToInt, Int64.reduceToInt, Nat.reduceLT, Nat.reduceEqDiff, reduceIte, w_9m0_2, w_9m0_3, w_9m0_4, w_9m0_5, w_9m0_6, w_9m0_14, w_9m0_42, u_15_2, u_15_3, u_15_4, u_15_5, u_15_6, u_15_14, u_15_42] <;> omega)), (by first | omega | (simp (disch := omega) only [↓i_in, ↓i_isCouple, ↓i_isBridge, ↓i_isTheme, ↓i_isBarge, i_lt, i_le, i_eq, i_clamp, i_upd, i_m1, Int32.toInt_toInt64, Int32.toInt_add, Int32.toInt_sub, Int32.toInt_mul, bm32, Int32.reduceToInt, Int64.reduceToInt, Nat.reduceLT, Nat.reduceEqDiff, reduceIte, w_9m0_2, w_9m0_3, w_9m0_4, w_9m0_5, w_9m0_6, w_9m0_14, w_9m0_42, u_15_2, u_15_3, u_15_4, u_15_5, u_15_6, u_15_14, u_15_42] <;> omega))⟩) (by first | omega | (simp (disch := omega) only [↓i_in, ↓i_isCouple, ↓i_isBridge, ↓i_isTheme, ↓i_isBarge, i_lt, i_le, i_eq, i_clamp, i_upd, i_m1, Int32.toInt_toInt64, Int32.toInt_add, Int32.toInt_sub, Int32.toInt_mul, bm32, Int32.reduceToInt, Int64.reduceToInt, Nat.reduceLT, Nat.reduceEqDiff, reduceIte, w_9m0_2, w_9m0_3, w_9m0_4, w_9m0_5, w_9m0_6, w_9m0_14, w_9m0_42, u_15_2, u_15_3, u_15_4, u_15_5, u_15_6, u_15_14, u_15_42] <;> omega))
            · skip
              try simp (disch := omega) only [↓i_in, ↓i_isCouple, ↓i_isBridge, ↓i_isTheme, ↓i_isBarge, i_lt, i_le, i_eq, i_clamp, i_upd, i_m1, Int32.toInt_toInt64, Int32.toInt_add, Int32.toInt_sub, Int32.toInt_mul, bm32, Int32.reduceToInt, Int64.reduceToInt, Nat.reduceLT, Nat.reduceEqDiff, reduceIte, w_9m0_2, w_9m0_3, w_9m0_4, w_9m0_5, w_9m0_6, w_9m0_14, w_9m0_42, u_15_2, u_15_3, u_15_4, u_15_5, u_15_6, u_15_14, u_15_42] at c_22
              refine ⟨fun c_24 => ?_, fun c_24 => ?_⟩
              · skip
                try simp (disch := omega) only [↓i_in, ↓i_isCouple, ↓i_isBridge, ↓i_isTheme, ↓i_isBarge, i_lt, i_le, i_eq, i_clamp, i_upd, i_m1, Int32.toInt_toInt64, Int32.toInt_add, Int32.toInt_sub, Int32.toInt_mul, bm32, Int32.reduceToInt, Int64.reduceToInt, Nat.reduceLT, Nat.reduceEqDiff, reduceIte, w_9m0_2, w_9m0_3, w_9m0_4, w_9m0_5, w_9m0_6, w_9m0_14, w_9m0_42, u_15_2, u_15_3, u_15_4, u_15_5, u_15_6, u_15_14, u_15_42] at c_24
                exact ih (w_9l6 + 1) w_9l5 w_9l4 w_9l6 u_15 (⟨i_7, (by first | omega | (simp (disch := omega) only [↓i_in, ↓i_isCouple, ↓i_isBridge, ↓i_isTheme, ↓i_isBarge, i_lt, i_le, i_eq, i_clamp, i_upd, i_m1, Int32.toInt_toInt64, Int32.toInt_add, Int32.toInt_sub, Int32.toInt_mul, bm32, Int32.reduceToInt, Int64.reduceToInt, Nat.reduceLT, Nat.reduceEqDiff, reduceIte, w_9m0_2, w_9m0_3, w_9m0_4, w_9m0_5, w_9m0_6, w_9m0_14, w_9m0_42, u_15_2, u_15_3, u_15_4, u_15_5, u_15_6, u_15_14, u_15_42] <;> omega)), (by first | omega | (simp (disch := omega) only [↓i_in, ↓i_isCouple, ↓i_isBridge, ↓i_isTheme, ↓i_isBarge, i_lt, i_le, i_eq, i_clamp, i_upd, i_m1, Int32.toInt_toInt64, Int32.toInt_add, Int32.toInt_sub, Int32.toInt_mul, bm32, Int32.reduceToInt, Int64.reduceToInt, Nat.reduceLT, Nat.reduceEqDiff, reduceIte, w_9m0_2, w_9m0_3, w_9m0_4, w_9m0_5, w_9m0_6, w_9m0_14, w_9m0_42, u_15_2, u_15_3, u_15_4, u_15_5, u_15_6, u_15_14, u_15_42] <;> omega))⟩) (by first | omega | (simp (disch := omega) only [↓i_in, ↓i_isCouple, ↓i_isBridge, ↓i_isTheme, ↓i_isBarge, i_lt, i_le, i_eq, i_clamp, i_upd, i_m1, Int32.toInt_toInt64, Int32.toInt_add, Int32.toInt_sub, Int32.toInt_mul, bm32, Int32.reduceToInt, Int64.reduceToInt, Nat.reduceLT, Nat.reduceEqDiff, reduceIte, w_9m0_2, w_9m0_3, w_9m0_4, w_9m0_5, w_9m0_6, w_9m0_14, w_9m0_42, u_15_2, u_15_3, u_15_4, u_15_5, u_15_6, u_15_14, u_15_42] <;> omega))
              · skip
                try simp (disch := omega) only [↓i_in, ↓i_isCouple, ↓i_isBridge, ↓i_isTheme, ↓i_isBarge, i_lt, i_le, i_eq, i_clamp, i_upd, i_m1, Int32.toInt_toInt64, Int32.toInt_add, Int32.toInt_sub, Int32.toInt_mul, bm32, Int32.reduceToInt, Int64.reduceToInt, Nat.reduceLT, Nat.reduceEqDiff, reduceIte, w_9m0_2, w_9m0_3, w_9m0_4, w_9m0_5, w_9m0_6, w_9m0_14, w_9m0_42, u_15_2, u_15_3, u_15_4, u_15_5, u_15_6, u_15_14, u_15_42] at c_24
                exact ih (w_9l6 + 1) w_9l5 (u_15 35) w_9l6 u_15 (⟨i_7, (by first | omega | (simp (disch := omega) only [↓i_in, ↓i_isCouple, ↓i_isBridge, ↓i_isTheme, ↓i_isBarge, i_lt, i_le, i_eq, i_clamp, i_upd, i_m1, Int32.toInt_toInt64, Int32.toInt_add, Int32.toInt_sub, Int32.toInt_mul, bm32, Int32.reduceToInt, Int64.reduceToInt, Nat.reduceLT, Nat.reduceEqDiff, reduceIte, w_9m0_2, w_9m0_3, w_9m0_4, w_9m0_5, w_9m0_6, w_9m0_14, w_9m0_42, u_15_2, u_15_3, u_15_4, u_15_5, u_15_6, u_15_14, u_15_42] <;> omega)), (by first | omega | (simp (disch := omega) only [↓i_in, ↓i_isCouple, ↓i_isBridge, ↓i_isTheme, ↓i_isBarge, i_lt, i_le, i_eq, i_clamp, i_upd, i_m1, Int32.toInt_toInt64, Int32.toInt_add, Int32.toInt_sub, Int32.toInt_mul, bm32, Int32.reduceToInt, Int64.reduceToInt, Nat.reduceLT, Nat.reduceEqDiff, reduceIte, w_9m0_2, w_9m0_3, w_9m0_4, w_9m0_5, w_9m0_6, w_9m0_14, w_9m0_42, u_15_2, u_15_3, u_15_4, u_15_5, u_15_6, u_15_14, u_15_42] <;> omega))⟩) (by first | omega | (simp (disch := omega) only [↓i_in, ↓i_isCouple, ↓i_isBridge, ↓i_isTheme, ↓i_isBarge, i_lt, i_le, i_eq, i_clamp, i_upd, i_m1, Int32.toInt_toInt64, Int32.toInt_add, Int32.toInt_sub, Int32.toInt_mul, bm32, Int32.reduceToInt, Int64.reduceToInt, Nat.reduceLT, Nat.reduceEqDiff, reduceIte, w_9m0_2, w_9m0_3, w_9m0_4, w_9m0_5, w_9m0_6, w_9m0_14, w_9m0_42, u_15_2, u_15_3, u_15_4, u_15_5, u_15_6, u_15_14, u_15_42] <;> omega))
          · skip
            try simp (disch := omega) only [↓i_in, ↓i_isCouple, ↓i_isBridge, ↓i_isTheme, ↓i_isBarge, i_lt, i_le, i_eq, i_clamp, i_upd, i_m1, Int32.toInt_toInt64, Int32.toInt_add, Int32.toInt_sub, Int32.toInt_mul, bm32, Int32.reduceToInt, Int64.reduceToInt, Nat.reduceLT, Nat.reduceEqDiff, reduceIte, w_9m0_2, w_9m0_3, w_9m0_4, w_9m0_5, w_9m0_6, w_9m0_14, w_9m0_42, u_15_2, u_15_3, u_15_4, u_15_5, u_15_6, u_15_14, u_15_42] at c_21
            refine ⟨fun c_25 => ?_, fun c_25 => ?_⟩
            · skip
              try simp (disch := omega) only [↓i_in, ↓i_isCouple, ↓i_isBridge, ↓i_isTheme, ↓i_isBarge, i_lt, i_le, i_eq, i_clamp, i_upd, i_m1, Int32.toInt_toInt64, Int32.toInt_add, Int32.toInt_sub, Int32.toInt_mul, bm32, Int32.reduceToInt, Int64.reduceToInt, Nat.reduceLT, Nat.reduceEqDiff, reduceIte, w_9m0_2, w_9m0_3, w_9m0_4, w_9m0_5, w_9m0_6, w_9m0_14, w_9m0_42, u_15_2, u_15_3, u_15_4, u_15_5, u_15_6, u_15_14, u_15_42] at c_25
              refine ⟨fun c_26 => ?_, fun c_26 => ?_⟩
              · skip
                try simp (disch := omega) only [↓i_in, ↓i_isCouple, ↓i_isBridge, ↓i_isTheme, ↓i_isBarge, i_lt, i_le, i_eq, i_clamp, i_upd, i_m1, Int32.toInt_toInt64, Int32.toInt_add, Int32.toInt_sub, Int32.toInt_mul, bm32, Int32.reduceToInt, Int64.reduceToInt, Nat.reduceLT, Nat.reduceEqDiff, reduceIte, w_9m0_2, w_9m0_3, w_9m0_4, w_9m0_5, w_9m0_6, w_9m0_14, w_9m0_42, u_15_2, u_15_3, u_15_4, u_15_5, u_15_6, u_15_14, u_15_42] at c_26
                exact ih (w_9l6 + 1) (u_15 35) w_9l4 w_9l3 u_15 (⟨i_7, (by first | omega | (simp (disch := omega) only [↓i_in, ↓i_isCouple, ↓i_isBridge, ↓i_isTheme, ↓i_isBarge, i_lt, i_le, i_eq, i_clamp, i_upd, i_m1, Int32.toInt_toInt64, Int32.toInt_add, Int32.toInt_sub, Int32.toInt_mul, bm32, Int32.reduceToInt, Int64.reduceToInt, Nat.reduceLT, Nat.reduceEqDiff, reduceIte, w_9m0_2, w_9m0_3, w_9m0_4, w_9m0_5, w_9m0_6, w_9m0_14, w_9m0_42, u_15_2, u_15_3, u_15_4, u_15_5, u_15_6, u_15_14, u_15_42] <;> omega)), (by first | omega | (simp (disch := omega) only [↓i_in, ↓i_isCouple, ↓i_isBridge, ↓i_isTheme, ↓i_isBarge, i_lt, i_le, i_eq, i_clamp, i_upd, i_m1, Int32.toInt_toInt64, Int32.toInt_add, Int32.toInt_sub, Int32.toInt_mul, bm32, Int32.reduceToInt, Int64.reduceToInt, Nat.reduceLT, Nat.reduceEqDiff, reduceIte, w_9m0_2, w_9m0_3, w_9m0_4, w_9m0_5, w_9m0_6, w_9m0_14, w_9m0_42, u_15_2, u_15_3, u_15_4, u_15_5, u_15_6, u_15_14, u_15_42] <;> omega))⟩) (by first | omega | (simp (disch := omega) only [↓i_in, ↓i_isCouple, ↓i_isBridge, ↓i_isTheme, ↓i_isBarge, i_lt, i_le, i_eq, i_clamp, i_upd, i_m1, Int32.toInt_toInt64, Int32.toInt_add, Int32.toInt_sub, Int32.toInt_mul, bm32, Int32.reduceToInt, Int64.reduceToInt, Nat.reduceLT, Nat.reduceEqDiff, reduceIte, w_9m0_2, w_9m0_3, w_9m0_4, w_9m0_5, w_9m0_6, w_9m0_14, w_9m0_42, u_15_2, u_15_3, u_15_4, u_15_5, u_15_6, u_15_14, u_15_42] <;> omega))
              · skip
                try simp (disch := omega) only [↓i_in, ↓i_isCouple, ↓i_isBridge, ↓i_isTheme, ↓i_isBarge, i_lt, i_le, i_eq, i_clamp, i_upd, i_m1, Int32.toInt_toInt64, Int32.toInt_add, Int32.toInt_sub, Int32.toInt_mul, bm32, Int32.reduceToInt, Int64.reduceToInt, Nat.reduceLT, Nat.reduceEqDiff, reduceIte, w_9m0_2, w_9m0_3, w_9m0_4, w_9m0_5, w_9m0_6, w_9m0_14, w_9m0_42, u_15_2, u_15_3, u_15_4, u_15_5, u_15_6, u_15_14, u_15_42] at c_26
                exact ih (w_9l6 + 1) (u_15 35) (u_15 35) w_9l3 u_15 (⟨i_7, (by first | omega | (simp (disch := omega) only [↓i_in, ↓i_isCouple, ↓i_isBridge, ↓i_isTheme, ↓i_isBarge, i_lt, i_le, i_eq, i_clamp, i_upd, i_m1, Int32.toInt_toInt64, Int32.toInt_add, Int32.toInt_sub, Int32.toInt_mul, bm32, Int32.reduceToInt, Int64.reduceToInt, Nat.reduceLT, Nat.reduceEqDiff, reduceIte, w_9m0_2, w_9m0_3, w_9m0_4, w_9m0_5, w_9m0_6, w_9m0_14, w_9m0_42, u_15_2, u_15_3, u_15_4, u_15_5, u_15_6, u_15_14, u_15_42] <;> omega)), (by first | omega | (simp (disch := omega) only [↓i_in, ↓i_isCouple, ↓i_isBridge, ↓i_isTheme, ↓i_isBarge, i_lt, i_le, i_eq, i_clamp, i_upd, i_m1, Int32.toInt_toInt64, Int32.toInt_add, Int32.toInt_sub, Int32.toInt_mul, bm32, Int32.reduceToInt, Int64.reduceToInt, Nat.reduceLT, Nat.reduceEqDiff, reduceIte, w_9m0_2, w_9m0_3, w_9m0_4, w_9m0_5, w_9m0_6, w_9m0_14, w_9m0_42, u_15_2, u_15_3, u_15_4, u_15_5, u_15_6, u_15_14, u_15_42] <;> omega))⟩) (by first | omega | (simp (disch := omega) only [↓i_in, ↓i_isCouple, ↓i_isBridge, ↓i_isTheme, ↓i_isBarge, i_lt, i_le, i_eq, i_clamp, i_upd, i_m1, Int32.toInt_toInt64, Int32.toInt_add, Int32.toInt_sub, Int32.toInt_mul, bm32, Int32.reduceToInt, Int64.reduceToInt, Nat.reduceLT, Nat.reduceEqDiff, reduceIte, w_9m0_2, w_9m0_3, w_9m0_4, w_9m0_5, w_9m0_6, w_9m0_14, w_9m0_42, u_15_2, u_15_3, u_15_4, u_15_5, u_15_6, u_15_14, u_15_42] <;> omega))
            · skip
              try simp (disch := omega) only [↓i_in, ↓i_isCouple, ↓i_isBridge, ↓i_isTheme, ↓i_isBarge, i_lt, i_le, i_eq, i_clamp, i_upd, i_m1, Int32.toInt_toInt64, Int32.toInt_add, Int32.toInt_sub, Int32.toInt_mul, bm32, Int32.reduceToInt, Int64.reduceToInt, Nat.reduceLT, Nat.reduceEqDiff, reduceIte, w_9m0_2, w_9m0_3, w_9m0_4, w_9m0_5, w_9m0_6, w_9m0_14, w_9m0_42, u_15_2, u_15_3, u_15_4, u_15_5, u_15_6, u_15_14, u_15_42] at c_25
              refine ⟨fun c_27 => ?_, fun c_27 => ?_⟩
              · skip
                try simp (disch := omega) only [↓i_in, ↓i_isCouple, ↓i_isBridge, ↓i_isTheme, ↓i_isBarge, i_lt, i_le, i_eq, i_clamp, i_upd, i_m1, Int32.toInt_toInt64, Int32.toInt_add, Int32.toInt_sub, Int32.toInt_mul, bm32, Int32.reduceToInt, Int64.reduceToInt, Nat.reduceLT, Nat.reduceEqDiff, reduceIte, w_9m0_2, w_9m0_3, w_9m0_4, w_9m0_5, w_9m0_6, w_9m0_14, w_9m0_42, u_15_2, u_15_3, u_15_4, u_15_5, u_15_6, u_15_14, u_15_42] at c_27
                exact ih (w_9l6 + 1) (u_15 35) w_9l4 w_9l6 u_15 (⟨i_7, (by first | omega | (simp (disch := omega) only [↓i_in, ↓i_isCouple, ↓i_isBridge, ↓i_isTheme, ↓i_isBarge, i_lt, i_le, i_eq, i_clamp, i_upd, i_m1, Int32.toInt_toInt64, Int32.toInt_add, Int32.toInt_sub, Int32.toInt_mul, bm32, Int32.reduceToInt, Int64.reduceToInt, Nat.reduceLT, Nat.reduceEqDiff, reduceIte, w_9m0_2, w_9m0_3, w_9m0_4, w_9m0_5, w_9m0_6, w_9m0_14, w_9m0_42, u_15_2, u_15_3, u_15_4, u_15_5, u_15_6, u_15_14, u_15_42] <;> omega)), (by first | omega | (simp (disch := omega) only [↓i_in, ↓i_isCouple, ↓i_isBridge, ↓i_isTheme, ↓i_isBarge, i_lt, i_le, i_eq, i_clamp, i_upd, i_m1, Int32.toInt_toInt64, Int32.toInt_add, Int32.toInt_sub, Int32.toInt_mul, bm32, Int32.reduceToInt, Int64.reduceToInt, Nat.reduceLT, Nat.reduceEqDiff, reduceIte, w_9m0_2, w_9m0_3, w_9m0_4, w_9m0_5, w_9m0_6, w_9m0_14, w_9m0_42, u_15_2, u_15_3, u_15_4, u_15_5, u_15_6, u_15_14, u_15_42] <;> omega))⟩) (by first | omega | (simp (disch := omega) only [↓i_in, ↓i_isCouple, ↓i_isBridge, ↓i_isTheme, ↓i_isBarge, i_lt, i_le, i_eq, i_clamp, i_upd, i_m1, Int32.toInt_toInt64, Int32.toInt_add, Int32.toInt_sub, Int32.toInt_mul, bm32, Int32.reduceToInt, Int64.reduceToInt, Nat.reduceLT, Nat.reduceEqDiff, reduceIte, w_9m0_2, w_9m0_3, w_9m0_4, w_9m0_5, w_9m0_6, w_9m0_14, w_9m0_42, u_15_2, u_15_3, u_15_4, u_15_5, u_15_6, u_15_14, u_15_42] <;> omega))
              · skip
                try simp (disch := omega) only [↓i_in, ↓i_isCouple, ↓i_isBridge, ↓i_isTheme, ↓i_isBarge, i_lt, i_le, i_eq, i_clamp, i_upd, i_m1, Int32.toInt_toInt64, Int32.toInt_add, Int32.toInt_sub, Int32.toInt_mul, bm32, Int32.reduceToInt, Int64.reduceToInt, Nat.reduceLT, Nat.reduceEqDiff, reduceIte, w_9m0_2, w_9m0_3, w_9m0_4, w_9m0_5, w_9m0_6, w_9m0_14, w_9m0_42, u_15_2, u_15_3, u_15_4, u_15_5, u_15_6, u_15_14, u_15_42] at c_27
                exact ih (w_9l6 + 1) (u_15 35) (u_15 35) w_9l6 u_15 (⟨i_7, (by first | omega | (simp (disch := omega) only [↓i_in, ↓i_isCouple, ↓i_isBridge, ↓i_isTheme, ↓i_isBarge, i_lt, i_le, i_eq, i_clamp, i_upd, i_m1, Int32.toInt_toInt64, Int32.toInt_add, Int32.toInt_sub, Int32.toInt_mul, bm32, Int32.reduceToInt, Int64.reduceToInt, Nat.reduceLT, Nat.reduceEqDiff, reduceIte, w_9m0_2, w_9m0_3, w_9m0_4, w_9m0_5, w_9m0_6, w_9m0_14, w_9m0_42, u_15_2, u_15_3, u_15_4, u_15_5, u_15_6, u_15_14, u_15_42] <;> omega)), (by first | omega | (simp (disch := omega) only [↓i_in, ↓i_isCouple, ↓i_isBridge, ↓i_isTheme, ↓i_isBarge, i_lt, i_le, i_eq, i_clamp, i_upd, i_m1, Int32.toInt_toInt64, Int32.toInt_add, Int32.toInt_sub, Int32.toInt_mul, bm32, Int32.reduceToInt, Int64.reduceToInt, Nat.reduceLT, Nat.reduceEqDiff, reduceIte, w_9m0_2, w_9m0_3, w_9m0_4, w_9m0_5, w_9m0_6, w_9m0_14, w_9m0_42, u_15_2, u_15_3, u_15_4, u_15_5, u_15_6, u_15_14, u_15_42] <;> omega))⟩) (by first | omega | (simp (disch := omega) only [↓i_in, ↓i_isCouple, ↓i_isBridge, ↓i_isTheme, ↓i_isBarge, i_lt, i_le, i_eq, i_clamp, i_upd, i_m1, Int32.toInt_toInt64, Int32.toInt_add, Int32.toInt_sub, Int32.toInt_mul, bm32, Int32.reduceToInt, Int64.reduceToInt, Nat.reduceLT, Nat.reduceEqDiff, reduceIte, w_9m0_2, w_9m0_3, w_9m0_4, w_9m0_5, w_9m0_6, w_9m0_14, w_9m0_42, u_15_2, u_15_3, u_15_4, u_15_5, u_15_6, u_15_14, u_15_42] <;> omega))
        · skip
          try simp (disch := omega) only [↓i_in, ↓i_isCouple, ↓i_isBridge, ↓i_isTheme, ↓i_isBarge, i_lt, i_le, i_eq, i_clamp, i_upd, i_m1, Int32.toInt_toInt64, Int32.toInt_add, Int32.toInt_sub, Int32.toInt_mul, bm32, Int32.reduceToInt, Int64.reduceToInt, Nat.reduceLT, Nat.reduceEqDiff, reduceIte, w_9m0_2, w_9m0_3, w_9m0_4, w_9m0_5, w_9m0_6, w_9m0_14, w_9m0_42, u_15_2, u_15_3, u_15_4, u_15_5, u_15_6, u_15_14, u_15_42] at c_20
          refine ⟨fun c_28 => ?_, fun c_28 => ?_⟩
          · skip
            try simp (disch := omega) only [↓i_in, ↓i_isCouple, ↓i_isBridge, ↓i_isTheme, ↓i_isBarge, i_lt, i_le, i_eq, i_clamp, i_upd, i_m1, Int32.toInt_toInt64, Int32.toInt_add, Int32.toInt_sub, Int32.toInt_mul, bm32, Int32.reduceToInt, Int64.reduceToInt, Nat.reduceLT, Nat.reduceEqDiff, reduceIte, w_9m0_2, w_9m0_3, w_9m0_4, w_9m0_5, w_9m0_6, w_9m0_14, w_9m0_42, u_15_2, u_15_3, u_15_4, u_15_5, u_15_6, u_15_14, u_15_42] at c_28
            refine ⟨fun c_29 => ?_, fun c_29 => ?_⟩
            · skip
              try simp (disch := omega) only [↓i_in, ↓i_isCouple, ↓i_isBridge, ↓i_isTheme, ↓i_isBarge, i_lt, i_le, i_eq, i_clamp, i_upd, i_m1, Int32.toInt_toInt64, Int32.toInt_add, Int32.toInt_sub, Int32.toInt_mul, bm32, Int32.reduceToInt, Int64.reduceToInt, Nat.reduceLT, Nat.reduceEqDiff, reduceIte, w_9m0_2, w_9m0_3, w_9m0_4, w_9m0_5, w_9m0_6, w_9m0_14, w_9m0_42, u_15_2, u_15_3, u_15_4, u_15_5, u_15_6, u_15_14, u_15_42] at c_29
              exact ih (w_9l6 + 1) w_9l4 w_9l4 w_9l3 u_15 (⟨i_7, (by first | omega | (simp (disch := omega) only [↓i_in, ↓i_isCouple, ↓i_isBridge, ↓i_isTheme, ↓i_isBarge, i_lt, i_le, i_eq, i_clamp, i_upd, i_m1, Int32.toInt_toInt64, Int32.toInt_add, Int32.toInt_sub, Int32.toInt_mul, bm32, Int32.reduceToInt, Int64.reduceToInt, Nat.reduceLT, Nat.reduceEqDiff, reduceIte, w_9m0_2, w_9m0_3, w_9m0_4, w_9m0_5, w_9m0_6, w_9m0_14, w_9m0_42, u_15_2, u_15_3, u_15_4, u_15_5, u_15_6, u_15_14, u_15_42] <;> omega)), (by first | omega | (simp (disch := omega) only [↓i_in, ↓i_isCouple, ↓i_isBridge, ↓i_isTheme, ↓i_isBarge, i_lt, i_le, i_eq, i_clamp, i_upd, i_m1, Int32.toInt_toInt64, Int32.toInt_add, Int32.toInt_sub, Int32.toInt_mul, bm32, Int32.reduceToInt, Int64.reduceToInt, Nat.reduceLT, Nat.reduceEqDiff, reduceIte, w_9m0_2, w_9m0_3, w_9m0_4, w_9m0_5, w_9m0_6, w_9m0_14, w_9m0_42, u_15_2, u_15_3, u_15_4, u_15_5, u_15_6, u_15_14, u_15_42] <;> omega))⟩) (by first | omega | (simp (disch := omega) only [↓i_in, ↓i_isCouple, ↓i_isBridge, ↓i_isTheme, ↓i_isBarge, i_lt, i_le, i_eq, i_clamp, i_upd, i_m1, Int32.toInt_toInt64, Int32.toInt_add, Int32.toInt_sub, Int32.toInt_mul, bm32, Int32.reduceToInt, Int64.reduceToInt, Nat.reduceLT, Nat.reduceEqDiff, reduceIte, w_9m0_2, w_9m0_3, w_9m0_4, w_9m0_5, w_9m0_6, w_9m0_14, w_9m0_42, u_15_2, u_15_3, u_15_4, u_15_5, u_15_6, u_15_14, u_15_42] <;> omega))
            · skip
              try simp (disch := omega) only [↓i_in, ↓i_isCouple, ↓i_isBridge, ↓i_isTheme, ↓i_isBarge, i_lt, i_le, i_eq, i_clamp, i_upd, i_m1, Int32.toInt_toInt64, Int32.toInt_add, Int32.toInt_sub, Int32.toInt_mul, bm32, Int32.reduceToInt, Int64.reduceToInt, Nat.reduceLT, Nat.reduceEqDiff, reduceIte, w_9m0_2, w_9m0_3, w_9m0_4, w_9m0_5, w_9m0_6, w_9m0_14, w_9m0_42, u_15_2, u_15_3, u_15_4, u_15_5, u_15_6, u_15_14, u_15_42] at c_29
              exact ih (w_9l6 + 1) w_9l4 (u_15 35) w_9l3 u_15 (⟨i_7, (by first | omega | (simp (disch := omega) only [↓i_in, ↓i_isCouple, ↓i_isBridge, ↓i_isTheme, ↓i_isBarge, i_lt, i_le, i_eq, i_clamp, i_upd, i_m1, Int32.toInt_toInt64, Int32.toInt_add, Int32.toInt_sub, Int32.toInt_mul, bm32, Int32.reduceToInt, Int64.reduceToInt, Nat.reduceLT, Nat.reduceEqDiff, reduceIte, w_9m0_2, w_9m0_3, w_9m0_4, w_9m0_5, w_9m0_6, w_9m0_14, w_9m0_42, u_15_2, u_15_3, u_15_4, u_15_5, u_15_6, u_15_14, u_15_42] <;> omega)), (by first | omega | (simp (disch := omega) only [↓i_in, ↓i_isCouple, ↓i_isBridge, ↓i_isTheme, ↓i_isBarge, i_lt, i_le, i_eq, i_clamp, i_upd, i_m1, Int32.toInt_toInt64, Int32.toInt_add, Int32.toInt_sub, Int32.toInt_mul, bm32, Int32.reduceToInt, Int64.reduceToInt, Nat.reduceLT, Nat.reduceEqDiff, reduceIte, w_9m0_2, w_9m0_3, w_9m0_4, w_9m0_5, w_9m0_6, w_9m0_14, w_9m0_42, u_15_2, u_15_3, u_15_4, u_15_5, u_15_6, u_15_14, u_15_42] <;> omega))⟩) (by first | omega | (simp (disch := omega) only [↓i_in, ↓i_isCouple, ↓i_isBridge, ↓i_isTheme, ↓i_isBarge, i_lt, i_le, i_eq, i_clamp, i_upd, i_m1, Int32.toInt_toInt64, Int32.toInt_add, Int32.toInt_sub, Int32.toInt_mul, bm32, Int32.reduceToInt, Int64.reduceToInt, Nat.reduceLT, Nat.reduceEqDiff, reduceIte, w_9m0_2, w_9m0_3, w_9m0_4, w_9m0_5, w_9m0_6, w_9m0_14, w_9m0_42, u_15_2, u_15_3, u_15_4, u_15_5, u_15_6, u_15_14, u_15_42] <;> omega))
          · skip
            try simp (disch := omega) only [↓i_in, ↓i_isCouple, ↓i_isBridge, ↓i_isTheme, ↓i_isBarge, i_lt, i_le, i_eq, i_clamp, i_upd, i_m1, Int32.toInt_toInt64, Int32.toInt_add, Int32.toInt_sub, Int32.toInt_mul, bm32, Int32.reduceToInt, Int64.reduceToInt, Nat.reduceLT, Nat.reduceEqDiff, reduceIte, w_9m0_2, w_9m0_3, w_9m0_4, w_9m0_5, w_9m0_6, w_9m0_14, w_9m0_42, u_15_2, u_15_3, u_15_4, u_15_5, u_15_6, u_15_14, u_15_42] at c_28
            refine ⟨fun c_30 => ?_, fun c_30 => ?_⟩
            · skip
              try simp (disch := omega) only [↓i_in, ↓i_isCouple, ↓i_isBridge, ↓i_isTheme, ↓i_isBarge, i_lt, i_le, i_eq, i_clamp, i_upd, i_m1, Int32.toInt_toInt64, Int32.toInt_add, Int32.toInt_sub, Int32.toInt_mul, bm32, Int32.reduceToInt, Int64.reduceToInt, Nat.reduceLT, Nat.reduceEqDiff, reduceIte, w_9m0_2, w_9m0_3, w_9m0_4, w_9m0_5, w_9m0_6, w_9m0_14, w_9m0_42, u_15_2, u_15_3, u_15_4, u_15_5, u_15_6, u_15_14, u_15_42] at c_30
              exact ih (w_9l6 + 1) w_9l4 w_9l4 w_9l6 u_15 (⟨i_7, (by first | omega | (simp (disch := omega) only [↓i_in, ↓i_isCouple, ↓i_isBridge, ↓i_isTheme, ↓i_isBarge, i_lt, i_le, i_eq, i_clamp, i_upd, i_m1, Int32.toInt_toInt64, Int32.toInt_add, Int32.toInt_sub, Int32.toInt_mul, bm32, Int32.reduceToInt, Int64.reduceToInt, Nat.reduceLT, Nat.reduceEqDiff, reduceIte, w_9m0_2, w_9m0_3, w_9m0_4, w_9m0_5, w_9m0_6, w_9m0_14, w_9m0_42, u_15_2, u_15_3, u_15_4, u_15_5, u_15_6, u_15_14, u_15_42] <;> omega)), (by first | omega | (simp (disch := omega) only [↓i_in, ↓i_isCouple, ↓i_isBridge, ↓i_isTheme, ↓i_isBarge, i_lt, i_le, i_eq, i_clamp, i_upd, i_m1, Int32.toInt_toInt64, Int32.toInt_add, Int32.toInt_sub, Int32.toInt_mul, bm32, Int32.reduceToInt, Int64.reduceToInt, Nat.reduceLT, Nat.reduceEqDiff, reduceIte, w_9m0_2, w_9m0_3, w_9m0_4, w_9m0_5, w_9m0_6, w_9m0_14, w_9m0_42, u_15_2, u_15_3, u_15_4, u_15_5, u_15_6, u_15_14, u_15_42] <;> omega))⟩) (by first | omega | (simp (disch := omega) only [↓i_in, ↓i_isCouple, ↓i_isBridge, ↓i_isTheme, ↓i_isBarge, i_lt, i_le, i_eq, i_clamp, i_upd, i_m1, Int32.toInt_toInt64, Int32.toInt_add, Int32.toInt_sub, Int32.toInt_mul, bm32, Int32.reduceToInt, Int64.reduceToInt, Nat.reduceLT, Nat.reduceEqDiff, reduceIte, w_9m0_2, w_9m0_3, w_9m0_4, w_9m0_5, w_9m0_6, w_9m0_14, w_9m0_42, u_15_2, u_15_3, u_15_4, u_15_5, u_15_6, u_15_14, u_15_42] <;> omega))
            · skip
              try simp (disch := omega) only [↓i_in, ↓i_isCouple, ↓i_isBridge, ↓i_isTheme, ↓i_isBarge, i_lt, i_le, i_eq, i_clamp, i_upd, i_m1, Int32.toInt_toInt64, Int32.toInt_add, Int32.toInt_sub, Int32.toInt_mul, bm32, Int32.reduceToInt, Int64.reduceToInt, Nat.reduceLT, Nat.reduceEqDiff, reduceIte, w_9m0_2, w_9m0_3, w_9m0_4, w_9m0_5, w_9m0_6, w_9m0_14, w_9m0_42, u_15_2, u_15_3, u_15_4, u_15_5, u_15_6, u_15_14, u_15_42] at c_30
              exact ih (w_9l6 + 1) w_9l4 (u_15 35) w_9l6 u_15 (⟨i_7, (by first | omega | (simp (disch := omega) only [↓i_in, ↓i_isCouple, ↓i_isBridge, ↓i_isTheme, ↓i_isBarge, i_lt, i_le, i_eq, i_clamp, i_upd, i_m1, Int32.toInt_toInt64, Int32.toInt_add, Int32.toInt_sub, Int32.toInt_mul, bm32, Int32.reduceToInt, Int64.reduceToInt, Nat.reduceLT, Nat.reduceEqDiff, reduceIte, w_9m0_2, w_9m0_3, w_9m0_4, w_9m0_5, w_9m0_6, w_9m0_14, w_9m0_42, u_15_2, u_15_3, u_15_4, u_15_5, u_15_6, u_15_14, u_15_42] <;> omega)), (by first | omega | (simp (disch := omega) only [↓i_in, ↓i_isCouple, ↓i_isBridge, ↓i_isTheme, ↓i_isBarge, i_lt, i_le, i_eq, i_clamp, i_upd, i_m1, Int32.toInt_toInt64, Int32.toInt_add, Int32.toInt_sub, Int32.toInt_mul, bm32, Int32.reduceToInt, Int64.reduceToInt, Nat.reduceLT, Nat.reduceEqDiff, reduceIte, w_9m0_2, w_9m0_3, w_9m0_4, w_9m0_5, w_9m0_6, w_9m0_14, w_9m0_42, u_15_2, u_15_3, u_15_4, u_15_5, u_15_6, u_15_14, u_15_42] <;> omega))⟩) (by first | omega | (simp (disch := omega) only [↓i_in, ↓i_isCouple, ↓i_isBridge, ↓i_isTheme, ↓i_isBarge, i_lt, i_le, i_eq, i_clamp, i_upd, i_m1, Int32.toInt_toInt64, Int32.toInt_add, Int32.toInt_sub, Int32.toInt_mul, bm32, Int32.reduceToInt, Int64.reduceToInt, Nat.reduceLT, Nat.reduceEqDiff, reduceIte, w_9m0_2, w_9m0_3, w_9m0_4, w_9m0_5, w_9m0_6, w_9m0_14, w_9m0_42, u_15_2, u_15_3, u_15_4, u_15_5, u_15_6, u_15_14, u_15_42] <;> omega))
set_option maxHeartbeats 4000000 in
theorem pl_hire_39 {G : Nat → Int32} {f0 : Nat → Int32} {f10 : Nat → Int32} {f8 : Nat → Int32} {b_ : Int32} (h_0 : GI G) (h_1 : 0 ≤ b_.toInt) (h_2 : b_.toInt < 6) : ∀ (n : Nat) w_9l6 w_9l5 w_9l4 w_9l3 w_9m0, (QG G w_9m0 ∧ (0 ≤ w_9l6.toInt) ∧ (w_9l6.toInt ≤ 6)) → ∀ r0 r1 r2 r3 r4, f_m_hire_39 f0 f10 f8 b_ n w_9l6 w_9l5 w_9l4 w_9l3 w_9m0 = (r0, r1, r2, r3, r4) → QG G r4 ∧ (0 ≤ r0.toInt) ∧ (r0.toInt ≤ 6) := by
  have h_0_g := h_0
  obtain ⟨⟨h_0_2a, h_0_2b⟩, ⟨h_0_3a, h_0_3b⟩, ⟨h_0_4a, h_0_4b⟩, ⟨h_0_5a, h_0_5b⟩, ⟨h_0_6a, h_0_6b⟩, ⟨h_0_14a, h_0_14b⟩, ⟨h_0_42a, h_0_42b⟩⟩ := h_0_g
  intro n
  induction n with
  | zero =>
    intro w_9l6 w_9l5 w_9l4 w_9l3 w_9m0 hI r0 r1 r2 r3 r4 e
    replace e : (w_9l6, w_9l5, w_9l4, w_9l3, w_9m0) = (r0, r1, r2, r3, r4) := e
    cases e
    exact hI
  | succ n ih =>
    intro w_9l6 w_9l5 w_9l4 w_9l3 w_9m0 hI r0 r1 r2 r3 r4 e
    rw [f_m_hire_39_s] at e
    have hI0 := hI
    obtain ⟨i_1, i_2, i_3⟩ := hI0
    obtain ⟨w_9m0_2, w_9m0_3, w_9m0_4, w_9m0_5, w_9m0_6, w_9m0_14, w_9m0_42⟩ := QGs i_1
    by_cases c_4 : (w_9m0 5) ≤ w_9l6
    · rw [if_pos c_4] at e
      try simp (disch := omega) only [↓i_in, ↓i_isCouple, ↓i_isBridge, ↓i_isTheme, ↓i_isBarge, i_lt, i_le, i_eq, i_clamp, i_upd, i_m1, Int32.toInt_toInt64, Int32.toInt_add, Int32.toInt_sub, Int32.toInt_mul, bm32, Int32.reduceToInt, Int64.reduceToInt, Nat.reduceLT, Nat.reduceEqDiff, reduceIte, w_9m0_2, w_9m0_3, w_9m0_4, w_9m0_5, w_9m0_6, w_9m0_14, w_9m0_42] at c_4
      cases e
      exact hI
    · rw [if_neg c_4] at e
      try simp (disch := omega) only [↓i_in, ↓i_isCouple, ↓i_isBridge, ↓i_isTheme, ↓i_isBarge, i_lt, i_le, i_eq, i_clamp, i_upd, i_m1, Int32.toInt_toInt64, Int32.toInt_add, Int32.toInt_sub, Int32.toInt_mul, bm32, Int32.reduceToInt, Int64.reduceToInt, Nat.reduceLT, Nat.reduceEqDiff, reduceIte, w_9m0_2, w_9m0_3, w_9m0_4, w_9m0_5, w_9m0_6, w_9m0_14, w_9m0_42] at c_4
      generalize x_5 : (f_m_best w_9m0 f0 f10 f8 w_9l6 b_) = z_6 at e
      obtain ⟨r_16, u_15⟩ := z_6
      replace e : ((if r_16 = (-1) then (if w_9l4 ≤ 1000000000 then (if w_9l5 ≤ 1000000000 then (if w_9l4 ≤ 1000000000 then (if w_9l4 ≤ 1000000000 then (f_m_hire_39 f0 f10 f8 b_ n (w_9l6 + 1) w_9l5 w_9l4 w_9l3 u_15) else (f_m_hire_39 f0 f10 f8 b_ n (w_9l6 + 1) w_9l5 1000000000 w_9l3 u_15)) else (if w_9l4 ≤ 1000000000 then (f_m_hire_39 f0 f10 f8 b_ n (w_9l6 + 1) w_9l5 w_9l4 w_9l6 u_15) else (f_m_hire_39 f0 f10 f8 b_ n (w_9l6 + 1) w_9l5 1000000000 w_9l6 u_15))) else (if w_9l4 ≤ 1000000000 then (if w_9l4 ≤ 1000000000 then (f_m_hire_39 f0 f10 f8 b_ n (w_9l6 + 1) 1000000000 w_9l4 w_9l3 u_15) else (f_m_hire_39 f0 f10 f8 b_ n (w_9l6 + 1) 1000000000 1000000000 w_9l3 u_15)) else (if w_9l4 ≤ 1000000000 then (f_m_hire_39 f0 f10 f8 b_ n (w_9l6 + 1) 1000000000 w_9l4 w_9l6 u_15) else (f_m_hire_39 f0 f10 f8 b_ n (w_9l6 + 1) 1000000000 1000000000 w_9l6 u_15)))) else (if w_9l4 ≤ 1000000000 then (if w_9l4 ≤ 1000000000 then (f_m_hire_39 f0 f10 f8 b_ n (w_9l6 + 1) w_9l4 w_9l4 w_9l3 u_15) else (f_m_hire_39 f0 f10 f8 b_ n (w_9l6 + 1) w_9l4 1000000000 w_9l3 u_15)) else (if w_9l4 ≤ 1000000000 then (f_m_hire_39 f0 f10 f8 b_ n (w_9l6 + 1) w_9l4 w_9l4 w_9l6 u_15) else (f_m_hire_39 f0 f10 f8 b_ n (w_9l6 + 1) w_9l4 1000000000 w_9l6 u_15)))) else (if w_9l4 ≤ (u_15 35) then (if w_9l5 ≤ (u_15 35) then (if w_9l4 ≤ (u_15 35) then (if w_9l4 ≤ (u_15 35) then (f_m_hire_39 f0 f10 f8 b_ n (w_9l6 + 1) w_9l5 w_9l4 w_9l3 u_15) else (f_m_hire_39 f0 f10 f8 b_ n (w_9l6 + 1) w_9l5 (u_15 35) w_9l3 u_15)) else (if w_9l4 ≤ (u_15 35) then (f_m_hire_39 f0 f10 f8 b_ n (w_9l6 + 1) w_9l5 w_9l4 w_9l6 u_15) else (f_m_hire_39 f0 f10 f8 b_ n (w_9l6 + 1) w_9l5 (u_15 35) w_9l6 u_15))) else (if w_9l4 ≤ (u_15 35) then (if w_9l4 ≤ (u_15 35) then (f_m_hire_39 f0 f10 f8 b_ n (w_9l6 + 1) (u_15 35) w_9l4 w_9l3 u_15) else (f_m_hire_39 f0 f10 f8 b_ n (w_9l6 + 1) (u_15 35) (u_15 35) w_9l3 u_15)) else (if w_9l4 ≤ (u_15 35) then (f_m_hire_39 f0 f10 f8 b_ n (w_9l6 + 1) (u_15 35) w_9l4 w_9l6 u_15) else (f_m_hire_39 f0 f10 f8 b_ n (w_9l6 + 1) (u_15 35) (u_15 35) w_9l6 u_15)))) else (if w_9l4 ≤ (u_15 35) then (if w_9l4 ≤ (u_15 35) then (f_m_hire_39 f0 f10 f8 b_ n (w_9l6 + 1) w_9l4 w_9l4 w_9l3 u_15) else (f_m_hire_39 f0 f10 f8 b_ n (w_9l6 + 1) w_9l4 (u_15 35) w_9l3 u_15)) else (if w_9l4 ≤ (u_15 35) then (f_m_hire_39 f0 f10 f8 b_ n (w_9l6 + 1) w_9l4 w_9l4 w_9l6 u_15) else (f_m_hire_39 f0 f10 f8 b_ n (w_9l6 + 1) w_9l4 (u_15 35) w_9l6 u_15)))))) = (r0, r1, r2, r3, r4) := e
      have p_7 := p_best (GI.of i_1 h_0) (by first | omega | (simp (disch := omega) only [↓i_in, ↓i_isCouple, ↓i_isBridge, ↓i_isTheme, ↓i_isBarge, i_lt, i_le, i_eq, i_clamp, i_upd, i_m1, Int32.toInt_toInt64, Int32.toInt_add, Int32.toInt_sub, Int32.toInt_mul, bm32, Int32.reduceToInt, Int64.reduceToInt, Nat.reduceLT, Nat.reduceEqDiff, reduceIte, w_9m0_2, w_9m0_3, w_9m0_4, w_9m0_5, w_9m0_6, w_9m0_14, w_9m0_42] <;> omega)) (by first | omega | (simp (disch := omega) only [↓i_in, ↓i_isCouple, ↓i_isBridge, ↓i_isTheme, ↓i_isBarge, i_lt, i_le, i_eq, i_clamp, i_upd, i_m1, Int32.toInt_toInt64, Int32.toInt_add, Int32.toInt_sub, Int32.toInt_mul, bm32, Int32.reduceToInt, Int64.reduceToInt, Nat.reduceLT, Nat.reduceEqDiff, reduceIte, w_9m0_2, w_9m0_3, w_9m0_4, w_9m0_5, w_9m0_6, w_9m0_14, w_9m0_42] <;> omega)) (by first | omega | (simp (disch := omega) only [↓i_in, ↓i_isCouple, ↓i_isBridge, ↓i_isTheme, ↓i_isBarge, i_lt, i_le, i_eq, i_clamp, i_upd, i_m1, Int32.toInt_toInt64, Int32.toInt_add, Int32.toInt_sub, Int32.toInt_mul, bm32, Int32.reduceToInt, Int64.reduceToInt, Nat.reduceLT, Nat.reduceEqDiff, reduceIte, w_9m0_2, w_9m0_3, w_9m0_4, w_9m0_5, w_9m0_6, w_9m0_14, w_9m0_42] <;> omega)) (by first | omega | (simp (disch := omega) only [↓i_in, ↓i_isCouple, ↓i_isBridge, ↓i_isTheme, ↓i_isBarge, i_lt, i_le, i_eq, i_clamp, i_upd, i_m1, Int32.toInt_toInt64, Int32.toInt_add, Int32.toInt_sub, Int32.toInt_mul, bm32, Int32.reduceToInt, Int64.reduceToInt, Nat.reduceLT, Nat.reduceEqDiff, reduceIte, w_9m0_2, w_9m0_3, w_9m0_4, w_9m0_5, w_9m0_6, w_9m0_14, w_9m0_42] <;> omega)) _ _ x_5
      have i_8 := p_7
      replace i_8 := QG.trans i_1 i_8
      obtain ⟨u_15_2, u_15_3, u_15_4, u_15_5, u_15_6, u_15_14, u_15_42⟩ := QGs i_8
      by_cases c_9 : r_16 = (-1)
      · rw [if_pos c_9] at e
        try simp (disch := omega) only [↓i_in, ↓i_isCouple, ↓i_isBridge, ↓i_isTheme, ↓i_isBarge, i_lt, i_le, i_eq, i_clamp, i_upd, i_m1, Int32.toInt_toInt64, Int32.toInt_add, Int32.toInt_sub, Int32.toInt_mul, bm32, Int32.reduceToInt, Int64.reduceToInt, Nat.reduceLT, Nat.reduceEqDiff, reduceIte, w_9m0_2, w_9m0_3, w_9m0_4, w_9m0_5, w_9m0_6, w_9m0_14, w_9m0_42, u_15_2, u_15_3, u_15_4, u_15_5, u_15_6, u_15_14, u_15_42] at c_9
        by_cases c_10 : w_9l4 ≤ 1000000000
        · rw [if_pos c_10] at e
          try simp (disch := omega) only [↓i_in, ↓i_isCouple, ↓i_isBridge, ↓i_isTheme, ↓i_isBarge, i_lt, i_le, i_eq, i_clamp, i_upd, i_m1, Int32.toInt_toInt64, Int32.toInt_add, Int32.toInt_sub, Int32.toInt_mul, bm32, Int32.reduceToInt, Int64.reduceToInt, Nat.reduceLT, Nat.reduceEqDiff, reduceIte, w_9m0_2, w_9m0_3, w_9m0_4, w_9m0_5, w_9m0_6, w_9m0_14, w_9m0_42, u_15_2, u_15_3, u_15_4, u_15_5, u_15_6, u_15_14, u_15_42] at c_10
          by_cases c_11 : w_9l5 ≤ 1000000000
          · rw [if_pos c_11] at e
            try simp (disch := omega) only [↓i_in, ↓i_isCouple, ↓i_isBridge, ↓i_isTheme, ↓i_isBarge, i_lt, i_le, i_eq, i_clamp, i_upd, i_m1, Int32.toInt_toInt64, Int32.toInt_add, Int32.toInt_sub, Int32.toInt_mul, bm32, Int32.reduceToInt, Int64.reduceToInt, Nat.reduceLT, Nat.reduceEqDiff, reduceIte, w_9m0_2, w_9m0_3, w_9m0_4, w_9m0_5, w_9m0_6, w_9m0_14, w_9m0_42, u_15_2, u_15_3, u_15_4, u_15_5, u_15_6, u_15_14, u_15_42] at c_11
            by_cases c_12 : w_9l4 ≤ 1000000000
            · rw [if_pos c_12] at e
              try simp (disch := omega) only [↓i_in, ↓i_isCouple, ↓i_isBridge, ↓i_isTheme, ↓i_isBarge, i_lt, i_le, i_eq, i_clamp, i_upd, i_m1, Int32.toInt_toInt64, Int32.toInt_add, Int32.toInt_sub, Int32.toInt_mul, bm32, Int32.reduceToInt, Int64.reduceToInt, Nat.reduceLT, Nat.reduceEqDiff, reduceIte, w_9m0_2, w_9m0_3, w_9m0_4, w_9m0_5, w_9m0_6, w_9m0_14, w_9m0_42, u_15_2, u_15_3, u_15_4, u_15_5, u_15_6, u_15_14, u_15_42] at c_12
              by_cases c_13 : w_9l4 ≤ 1000000000
              · rw [if_pos c_13] at e
                try simp (disch := omega) only [↓i_in, ↓i_isCouple, ↓i_isBridge, ↓i_isTheme, ↓i_isBarge, i_lt, i_le, i_eq, i_clamp, i_upd, i_m1, Int32.toInt_toInt64, Int32.toInt_add, Int32.toInt_sub, Int32.toInt_mul, bm32, Int32.reduceToInt, Int64.reduceToInt, Nat.reduceLT, Nat.reduceEqDiff, reduceIte, w_9m0_2, w_9m0_3, w_9m0_4, w_9m0_5, w_9m0_6, w_9m0_14, w_9m0_42, u_15_2, u_15_3, u_15_4, u_15_5, u_15_6, u_15_14, u_15_42] at c_13
                exact ih (w_9l6 + 1) w_9l5 w_9l4 w_9l3 u_15 (⟨i_8, (by first | omega | (simp (disch := omega) only [↓i_in, ↓i_isCouple, ↓i_isBridge, ↓i_isTheme, ↓i_isBarge, i_lt, i_le, i_eq, i_clamp, i_upd, i_m1, Int32.toInt_toInt64, Int32.toInt_add, Int32.toInt_sub, Int32.toInt_mul, bm32, Int32.reduceToInt, Int64.reduceToInt, Nat.reduceLT, Nat.reduceEqDiff, reduceIte, w_9m0_2, w_9m0_3, w_9m0_4, w_9m0_5, w_9m0_6, w_9m0_14, w_9m0_42, u_15_2, u_15_3, u_15_4, u_15_5, u_15_6, u_15_14, u_15_42] <;> omega)), (by first | omega | (simp (disch := omega) only [↓i_in, ↓i_isCouple, ↓i_isBridge, ↓i_isTheme, ↓i_isBarge, i_lt, i_le, i_eq, i_clamp, i_upd, i_m1, Int32.toInt_toInt64, Int32.toInt_add, Int32.toInt_sub, Int32.toInt_mul, bm32, Int32.reduceToInt, Int64.reduceToInt, Nat.reduceLT, Nat.reduceEqDiff, reduceIte, w_9m0_2, w_9m0_3, w_9m0_4, w_9m0_5, w_9m0_6, w_9m0_14, w_9m0_42, u_15_2, u_15_3, u_15_4, u_15_5, u_15_6, u_15_14, u_15_42] <;> omega))⟩) _ _ _ _ _ e
              · rw [if_neg c_13] at e
                try simp (disch := omega) only [↓i_in, ↓i_isCouple, ↓i_isBridge, ↓i_isTheme, ↓i_isBarge, i_lt, i_le, i_eq, i_clamp, i_upd, i_m1, Int32.toInt_toInt64, Int32.toInt_add, Int32.toInt_sub, Int32.toInt_mul, bm32, Int32.reduceToInt, Int64.reduceToInt, Nat.reduceLT, Nat.reduceEqDiff, reduceIte, w_9m0_2, w_9m0_3, w_9m0_4, w_9m0_5, w_9m0_6, w_9m0_14, w_9m0_42, u_15_2, u_15_3, u_15_4, u_15_5, u_15_6, u_15_14, u_15_42] at c_13
                exact ih (w_9l6 + 1) w_9l5 1000000000 w_9l3 u_15 (⟨i_8, (by first | omega | (simp (disch := omega) only [↓i_in, ↓i_isCouple, ↓i_isBridge, ↓i_isTheme, ↓i_isBarge, i_lt, i_le, i_eq, i_clamp, i_upd, i_m1, Int32.toInt_toInt64, Int32.toInt_add, Int32.toInt_sub, Int32.toInt_mul, bm32, Int32.reduceToInt, Int64.reduceToInt, Nat.reduceLT, Nat.reduceEqDiff, reduceIte, w_9m0_2, w_9m0_3, w_9m0_4, w_9m0_5, w_9m0_6, w_9m0_14, w_9m0_42, u_15_2, u_15_3, u_15_4, u_15_5, u_15_6, u_15_14, u_15_42] <;> omega)), (by first | omega | (simp (disch := omega) only [↓i_in, ↓i_isCouple, ↓i_isBridge, ↓i_isTheme, ↓i_isBarge, i_lt, i_le, i_eq, i_clamp, i_upd, i_m1, Int32.toInt_toInt64, Int32.toInt_add, Int32.toInt_sub, Int32.toInt_mul, bm32, Int32.reduceToInt, Int64.reduceToInt, Nat.reduceLT, Nat.reduceEqDiff, reduceIte, w_9m0_2, w_9m0_3, w_9m0_4, w_9m0_5, w_9m0_6, w_9m0_14, w_9m0_42, u_15_2, u_15_3, u_15_4, u_15_5, u_15_6, u_15_14, u_15_42] <;> omega))⟩) _ _ _ _ _ e
            · rw [if_neg c_12] at e
              try simp (disch := omega) only [↓i_in, ↓i_isCouple, ↓i_isBridge, ↓i_isTheme, ↓i_isBarge, i_lt, i_le, i_eq, i_clamp, i_upd, i_m1, Int32.toInt_toInt64, Int32.toInt_add, Int32.toInt_sub, Int32.toInt_mul, bm32, Int32.reduceToInt, Int64.reduceToInt, Nat.reduceLT, Nat.reduceEqDiff, reduceIte, w_9m0_2, w_9m0_3, w_9m0_4, w_9m0_5, w_9m0_6, w_9m0_14, w_9m0_42, u_15_2, u_15_3, u_15_4, u_15_5, u_15_6, u_15_14, u_15_42] at c_12
              by_cases c_14 : w_9l4 ≤ 1000000000
              · rw [if_pos c_14] at e
                try simp (disch := omega) only [↓i_in, ↓i_isCouple, ↓i_isBridge, ↓i_isTheme, ↓i_isBarge, i_lt, i_le, i_eq, i_clamp, i_upd, i_m1, Int32.toInt_toInt64, Int32.toInt_add, Int32.toInt_sub, Int32.toInt_mul, bm32, Int32.reduceToInt, Int64.reduceToInt, Nat.reduceLT, Nat.reduceEqDiff, reduceIte, w_9m0_2, w_9m0_3, w_9m0_4, w_9m0_5, w_9m0_6, w_9m0_14, w_9m0_42, u_15_2, u_15_3, u_15_4, u_15_5, u_15_6, u_15_14, u_15_42] at c_14
                exact ih (w_9l6 + 1) w_9l5 w_9l4 w_9l6 u_15 (⟨i_8, (by first | omega | (simp (disch := omega) only [↓i_in, ↓i_isCouple, ↓i_isBridge, ↓i_isTheme, ↓i_isBarge, i_lt, i_le, i_eq, i_clamp, i_upd, i_m1, Int32.toInt_toInt64, Int32.toInt_add, Int32.toInt_sub, Int32.toInt_mul, bm32, Int32.reduceToInt, Int64.reduceToInt, Nat.reduceLT, Nat.reduceEqDiff, reduceIte, w_9m0_2, w_9m0_3, w_9m0_4, w_9m0_5, w_9m0_6, w_9m0_14, w_9m0_42, u_15_2, u_15_3, u_15_4, u_15_5, u_15_6, u_15_14, u_15_42] <;> omega)), (by first | omega | (simp (disch := omega) only [↓i_in, ↓i_isCouple, ↓i_isBridge, ↓i_isTheme, ↓i_isBarge, i_lt, i_le, i_eq, i_clamp, i_upd, i_m1, Int32.toInt_toInt64, Int32.toInt_add, Int32.toInt_sub, Int32.toInt_mul, bm32, Int32.reduceToInt, Int64.reduceToInt, Nat.reduceLT, Nat.reduceEqDiff, reduceIte, w_9m0_2, w_9m0_3, w_9m0_4, w_9m0_5, w_9m0_6, w_9m0_14, w_9m0_42, u_15_2, u_15_3, u_15_4, u_15_5, u_15_6, u_15_14, u_15_42] <;> omega))⟩) _ _ _ _ _ e
              · rw [if_neg c_14] at e
                try simp (disch := omega) only [↓i_in, ↓i_isCouple, ↓i_isBridge, ↓i_isTheme, ↓i_isBarge, i_lt, i_le, i_eq, i_clamp, i_upd, i_m1, Int32.toInt_toInt64, Int32.toInt_add, Int32.toInt_sub, Int32.toInt_mul, bm32, Int32.reduceToInt, Int64.reduceToInt, Nat.reduceLT, Nat.reduceEqDiff, reduceIte, w_9m0_2, w_9m0_3, w_9m0_4, w_9m0_5, w_9m0_6, w_9m0_14, w_9m0_42, u_15_2, u_15_3, u_15_4, u_15_5, u_15_6, u_15_14, u_15_42] at c_14
                exact ih (w_9l6 + 1) w_9l5 1000000000 w_9l6 u_15 (⟨i_8, (by first | omega | (simp (disch := omega) only [↓i_in, ↓i_isCouple, ↓i_isBridge, ↓i_isTheme, ↓i_isBarge, i_lt, i_le, i_eq, i_clamp, i_upd, i_m1, Int32.toInt_toInt64, Int32.toInt_add, Int32.toInt_sub, Int32.toInt_mul, bm32, Int32.reduceToInt, Int64.reduceToInt, Nat.reduceLT, Nat.reduceEqDiff, reduceIte, w_9m0_2, w_9m0_3, w_9m0_4, w_9m0_5, w_9m0_6, w_9m0_14, w_9m0_42, u_15_2, u_15_3, u_15_4, u_15_5, u_15_6, u_15_14, u_15_42] <;> omega)), (by first | omega | (simp (disch := omega) only [↓i_in, ↓i_isCouple, ↓i_isBridge, ↓i_isTheme, ↓i_isBarge, i_lt, i_le, i_eq, i_clamp, i_upd, i_m1, Int32.toInt_toInt64, Int32.toInt_add, Int32.toInt_sub, Int32.toInt_mul, bm32, Int32.reduceToInt, Int64.reduceToInt, Nat.reduceLT, Nat.reduceEqDiff, reduceIte, w_9m0_2, w_9m0_3, w_9m0_4, w_9m0_5, w_9m0_6, w_9m0_14, w_9m0_42, u_15_2, u_15_3, u_15_4, u_15_5, u_15_6, u_15_14, u_15_42] <;> omega))⟩) _ _ _ _ _ e
          · rw [if_neg c_11] at e
            try simp (disch := omega) only [↓i_in, ↓i_isCouple, ↓i_isBridge, ↓i_isTheme, ↓i_isBarge, i_lt, i_le, i_eq, i_clamp, i_upd, i_m1, Int32.toInt_toInt64, Int32.toInt_add, Int32.toInt_sub, Int32.toInt_mul, bm32, Int32.reduceToInt, Int64.reduceToInt, Nat.reduceLT, Nat.reduceEqDiff, reduceIte, w_9m0_2, w_9m0_3, w_9m0_4, w_9m0_5, w_9m0_6, w_9m0_14, w_9m0_42, u_15_2, u_15_3, u_15_4, u_15_5, u_15_6, u_15_14, u_15_42] at c_11
            by_cases c_15 : w_9l4 ≤ 1000000000
            · rw [if_pos c_15] at e
              try simp (disch := omega) only [↓i_in, ↓i_isCouple, ↓i_isBridge, ↓i_isTheme, ↓i_isBarge, i_lt, i_le, i_eq, i_clamp, i_upd, i_m1, Int32.toInt_toInt64, Int32.toInt_add, Int32.toInt_sub, Int32.toInt_mul, bm32, Int32.reduceToInt, Int64.reduceToInt, Nat.reduceLT, Nat.reduceEqDiff, reduceIte, w_9m0_2, w_9m0_3, w_9m0_4, w_9m0_5, w_9m0_6, w_9m0_14, w_9m0_42, u_15_2, u_15_3, u_15_4, u_15_5, u_15_6, u_15_14, u_15_42] at c_15
              by_cases c_16 : w_9l4 ≤ 1000000000
              · rw [if_pos c_16] at e
                try simp (disch := omega) only [↓i_in, ↓i_isCouple, ↓i_isBridge, ↓i_isTheme, ↓i_isBarge, i_lt, i_le, i_eq, i_clamp, i_upd, i_m1, Int32.toInt_toInt64, Int32.toInt_add, Int32.toInt_sub, Int32.toInt_mul, bm32, Int32.reduceToInt, Int64.reduceToInt, Nat.reduceLT, Nat.reduceEqDiff, reduceIte, w_9m0_2, w_9m0_3, w_9m0_4, w_9m0_5, w_9m0_6, w_9m0_14, w_9m0_42, u_15_2, u_15_3, u_15_4, u_15_5, u_15_6, u_15_14, u_15_42] at c_16
                exact ih (w_9l6 + 1) 1000000000 w_9l4 w_9l3 u_15 (⟨i_8, (by first | omega | (simp (disch := omega) only [↓i_in, ↓i_isCouple, ↓i_isBridge, ↓i_isTheme, ↓i_isBarge, i_lt, i_le, i_eq, i_clamp, i_upd, i_m1, Int32.toInt_toInt64, Int32.toInt_add, Int32.toInt_sub, Int32.toInt_mul, bm32, Int32.reduceToInt, Int64.reduceToInt, Nat.reduceLT, Nat.reduceEqDiff, reduceIte, w_9m0_2, w_9m0_3, w_9m0_4, w_9m0_5, w_9m0_6, w_9m0_14, w_9m0_42, u_15_2, u_15_3, u_15_4, u_15_5, u_15_6, u_15_14, u_15_42] <;> omega)), (by first | omega | (simp (disch := omega) only [↓i_in, ↓i_isCouple, ↓i_isBridge, ↓i_isTheme, ↓i_isBarge, i_lt, i_le, i_eq, i_clamp, i_upd, i_m1, Int32.toInt_toInt64, Int32.toInt_add, Int32.toInt_sub, Int32.toInt_mul, bm32, Int32.reduceToInt, Int64.reduceToInt, Nat.reduceLT, Nat.reduceEqDiff, reduceIte, w_9m0_2, w_9m0_3, w_9m0_4, w_9m0_5, w_9m0_6, w_9m0_14, w_9m0_42, u_15_2, u_15_3, u_15_4, u_15_5, u_15_6, u_15_14, u_15_42] <;> omega))⟩) _ _ _ _ _ e
              · rw [if_neg c_16] at e
                try simp (disch := omega) only [↓i_in, ↓i_isCouple, ↓i_isBridge, ↓i_isTheme, ↓i_isBarge, i_lt, i_le, i_eq, i_clamp, i_upd, i_m1, Int32.toInt_toInt64, Int32.toInt_add, Int32.toInt_sub, Int32.toInt_mul, bm32, Int32.reduceToInt, Int64.reduceToInt, Nat.reduceLT, Nat.reduceEqDiff, reduceIte, w_9m0_2, w_9m0_3, w_9m0_4, w_9m0_5, w_9m0_6, w_9m0_14, w_9m0_42, u_15_2, u_15_3, u_15_4, u_15_5, u_15_6, u_15_14, u_15_42] at c_16
                exact ih (w_9l6 + 1) 1000000000 1000000000 w_9l3 u_15 (⟨i_8, (by first | omega | (simp (disch := omega) only [↓i_in, ↓i_isCouple, ↓i_isBridge, ↓i_isTheme, ↓i_isBarge, i_lt, i_le, i_eq, i_clamp, i_upd, i_m1, Int32.toInt_toInt64, Int32.toInt_add, Int32.toInt_sub, Int32.toInt_mul, bm32, Int32.reduceToInt, Int64.reduceToInt, Nat.reduceLT, Nat.reduceEqDiff, reduceIte, w_9m0_2, w_9m0_3, w_9m0_4, w_9m0_5, w_9m0_6, w_9m0_14, w_9m0_42, u_15_2, u_15_3, u_15_4, u_15_5, u_15_6, u_15_14, u_15_42] <;> omega)), (by first | omega | (simp (disch := omega) only [↓i_in, ↓i_isCouple, ↓i_isBridge, ↓i_isTheme, ↓i_isBarge, i_lt, i_le, i_eq, i_clamp, i_upd, i_m1, Int32.toInt_toInt64, Int32.toInt_add, Int32.toInt_sub, Int32.toInt_mul, bm32, Int32.reduceToInt, Int64.reduceToInt, Nat.reduceLT, Nat.reduceEqDiff, reduceIte, w_9m0_2, w_9m0_3, w_9m0_4, w_9m0_5, w_9m0_6, w_9m0_14, w_9m0_42, u_15_2, u_15_3, u_15_4, u_15_5, u_15_6, u_15_14, u_15_42] <;> omega))⟩) _ _ _ _ _ e
            · rw [if_neg c_15] at e
              try simp (disch := omega) only [↓i_in, ↓i_isCouple, ↓i_isBridge, ↓i_isTheme, ↓i_isBarge, i_lt, i_le, i_eq, i_clamp, i_upd, i_m1, Int32.toInt_toInt64, Int32.toInt_add, Int32.toInt_sub, Int32.toInt_mul, bm32, Int32.reduceToInt, Int64.reduceToInt, Nat.reduceLT, Nat.reduceEqDiff, reduceIte, w_9m0_2, w_9m0_3, w_9m0_4, w_9m0_5, w_9m0_6, w_9m0_14, w_9m0_42, u_15_2, u_15_3, u_15_4, u_15_5, u_15_6, u_15_14, u_15_42] at c_15
              by_cases c_17 : w_9l4 ≤ 1000000000
              · rw [if_pos c_17] at e
                try simp (disch := omega) only [↓i_in, ↓i_isCouple, ↓i_isBridge, ↓i_isTheme, ↓i_isBarge, i_lt, i_le, i_eq, i_clamp, i_upd, i_m1, Int32.toInt_toInt64, Int32.toInt_add, Int32.toInt_sub, Int32.toInt_mul, bm32, Int32.reduceToInt, Int64.reduceToInt, Nat.reduceLT, Nat.reduceEqDiff, reduceIte, w_9m0_2, w_9m0_3, w_9m0_4, w_9m0_5, w_9m0_6, w_9m0_14, w_9m0_42, u_15_2, u_15_3, u_15_4, u_15_5, u_15_6, u_15_14, u_15_42] at c_17
                exact ih (w_9l6 + 1) 1000000000 w_9l4 w_9l6 u_15 (⟨i_8, (by first | omega | (simp (disch := omega) only [↓i_in, ↓i_isCouple, ↓i_isBridge, ↓i_isTheme, ↓i_isBarge, i_lt, i_le, i_eq, i_clamp, i_upd, i_m1, Int32.toInt_toInt64, Int32.toInt_add, Int32.toInt_sub, Int32.toInt_mul, bm32, Int32.reduceToInt, Int64.reduceToInt, Nat.reduceLT, Nat.reduceEqDiff, reduceIte, w_9m0_2, w_9m0_3, w_9m0_4, w_9m0_5, w_9m0_6, w_9m0_14, w_9m0_42, u_15_2, u_15_3, u_15_4, u_15_5, u_15_6, u_15_14, u_15_42] <;> omega)), (by first | omega | (simp (disch := omega) only [↓i_in, ↓i_isCouple, ↓i_isBridge, ↓i_isTheme, ↓i_isBarge, i_lt, i_le, i_eq, i_clamp, i_upd, i_m1, Int32.toInt_toInt64, Int32.toInt_add, Int32.toInt_sub, Int32.toInt_mul, bm32, Int32.reduceToInt, Int64.reduceToInt, Nat.reduceLT, Nat.reduceEqDiff, reduceIte, w_9m0_2, w_9m0_3, w_9m0_4, w_9m0_5, w_9m0_6, w_9m0_14, w_9m0_42, u_15_2, u_15_3, u_15_4, u_15_5, u_15_6, u_15_14, u_15_42] <;> omega))⟩) _ _ _ _ _ e
              · rw [if_neg c_17] at e
                try simp (disch := omega) only [↓i_in, ↓i_isCouple, ↓i_isBridge, ↓i_isTheme, ↓i_isBarge, i_lt, i_le, i_eq, i_clamp, i_upd, i_m1, Int32.toInt_toInt64, Int32.toInt_add, Int32.toInt_sub, Int32.toInt_mul, bm32, Int32.reduceToInt, Int64.reduceToInt, Nat.reduceLT, Nat.reduceEqDiff, reduceIte, w_9m0_2, w_9m0_3, w_9m0_4, w_9m0_5, w_9m0_6, w_9m0_14, w_9m0_42, u_15_2, u_15_3, u_15_4, u_15_5, u_15_6, u_15_14, u_15_42] at c_17
                exact ih (w_9l6 + 1) 1000000000 1000000000 w_9l6 u_15 (⟨i_8, (by first | omega | (simp (disch := omega) only [↓i_in, ↓i_isCouple, ↓i_isBridge, ↓i_isTheme, ↓i_isBarge, i_lt, i_le, i_eq, i_clamp, i_upd, i_m1, Int32.toInt_toInt64, Int32.toInt_add, Int32.toInt_sub, Int32.toInt_mul, bm32, Int32.reduceToInt, Int64.reduceToInt, Nat.reduceLT, Nat.reduceEqDiff, reduceIte, w_9m0_2, w_9m0_3, w_9m0_4, w_9m0_5, w_9m0_6, w_9m0_14, w_9m0_42, u_15_2, u_15_3, u_15_4, u_15_5, u_15_6, u_15_14, u_15_42] <;> omega)), (by first | omega | (simp (disch := omega) only [↓i_in, ↓i_isCouple, ↓i_isBridge, ↓i_isTheme, ↓i_isBarge, i_lt, i_le, i_eq, i_clamp, i_upd, i_m1, Int32.toInt_toInt64, Int32.toInt_add, Int32.toInt_sub, Int32.toInt_mul, bm32, Int32.reduceToInt, Int64.reduceToInt, Nat.reduceLT, Nat.reduceEqDiff, reduceIte, w_9m0_2, w_9m0_3, w_9m0_4, w_9m0_5, w_9m0_6, w_9m0_14, w_9m0_42, u_15_2, u_15_3, u_15_4, u_15_5, u_15_6, u_15_14, u_15_42] <;> omega))⟩) _ _ _ _ _ e
        · rw [if_neg c_10] at e
          try simp (disch := omega) only [↓i_in, ↓i_isCouple, ↓i_isBridge, ↓i_isTheme, ↓i_isBarge, i_lt, i_le, i_eq, i_clamp, i_upd, i_m1, Int32.toInt_toInt64, Int32.toInt_add, Int32.toInt_sub, Int32.toInt_mul, bm32, Int32.reduceToInt, Int64.reduceToInt, Nat.reduceLT, Nat.reduceEqDiff, reduceIte, w_9m0_2, w_9m0_3, w_9m0_4, w_9m0_5, w_9m0_6, w_9m0_14, w_9m0_42, u_15_2, u_15_3, u_15_4, u_15_5, u_15_6, u_15_14, u_15_42] at c_10
          by_cases c_18 : w_9l4 ≤ 1000000000
          · rw [if_pos c_18] at e
            try simp (disch := omega) only [↓i_in, ↓i_isCouple, ↓i_isBridge, ↓i_isTheme, ↓i_isBarge, i_lt, i_le, i_eq, i_clamp, i_upd, i_m1, Int32.toInt_toInt64, Int32.toInt_add, Int32.toInt_sub, Int32.toInt_mul, bm32, Int32.reduceToInt, Int64.reduceToInt, Nat.reduceLT, Nat.reduceEqDiff, reduceIte, w_9m0_2, w_9m0_3, w_9m0_4, w_9m0_5, w_9m0_6, w_9m0_14, w_9m0_42, u_15_2, u_15_3, u_15_4, u_15_5, u_15_6, u_15_14, u_15_42] at c_18
            by_cases c_19 : w_9l4 ≤ 1000000000
            · rw [if_pos c_19] at e
              try simp (disch := omega) only [↓i_in, ↓i_isCouple, ↓i_isBridge, ↓i_isTheme, ↓i_isBarge, i_lt, i_le, i_eq, i_clamp, i_upd, i_m1, Int32.toInt_toInt64, Int32.toInt_add, Int32.toInt_sub, Int32.toInt_mul, bm32, Int32.reduceToInt, Int64.reduceToInt, Nat.reduceLT, Nat.reduceEqDiff, reduceIte, w_9m0_2, w_9m0_3, w_9m0_4, w_9m0_5, w_9m0_6, w_9m0_14, w_9m0_42, u_15_2, u_15_3, u_15_4, u_15_5, u_15_6, u_15_14, u_15_42] at c_19
              exact ih (w_9l6 + 1) w_9l4 w_9l4 w_9l3 u_15 (⟨i_8, (by first | omega | (simp (disch := omega) only [↓i_in, ↓i_isCouple, ↓i_isBridge, ↓i_isTheme, ↓i_isBarge, i_lt, i_le, i_eq, i_clamp, i_upd, i_m1, Int32.toInt_toInt64, Int32.toInt_add, Int32.toInt_sub, Int32.toInt_mul, bm32, Int32.reduceToInt, Int64.reduceToInt, Nat.reduceLT, Nat.reduceEqDiff, reduceIte, w_9m0_2, w_9m0_3, w_9m0_4, w_9m0_5, w_9m0_6, w_9m0_14, w_9m0_42, u_15_2, u_15_3, u_15_4, u_15_5, u_15_6, u_15_14, u_15_42] <;> omega)), (by first | omega | (simp (disch := omega) only [↓i_in, ↓i_isCouple, ↓i_isBridge, ↓i_isTheme, ↓i_isBarge, i_lt, i_le, i_eq, i_clamp, i_upd, i_m1, Int32.toInt_toInt64, Int32.toInt_add, Int32.toInt_sub, Int32.toInt_mul, bm32, Int32.reduceToInt, Int64.reduceToInt, Nat.reduceLT, Nat.reduceEqDiff, reduceIte, w_9m0_2, w_9m0_3, w_9m0_4, w_9m0_5, w_9m0_6, w_9m0_14, w_9m0_42, u_15_2, u_15_3, u_15_4, u_15_5, u_15_6, u_15_14, u_15_42] <;> omega))⟩) _ _ _ _ _ e
            · rw [if_neg c_19] at e
              try simp (disch := omega) only [↓i_in, ↓i_isCouple, ↓i_isBridge, ↓i_isTheme, ↓i_isBarge, i_lt, i_le, i_eq, i_clamp, i_upd, i_m1, Int32.toInt_toInt64, Int32.toInt_add, Int32.toInt_sub, Int32.toInt_mul, bm32, Int32.reduceToInt, Int64.reduceToInt, Nat.reduceLT, Nat.reduceEqDiff, reduceIte, w_9m0_2, w_9m0_3, w_9m0_4, w_9m0_5, w_9m0_6, w_9m0_14, w_9m0_42, u_15_2, u_15_3, u_15_4, u_15_5, u_15_6, u_15_14, u_15_42] at c_19
              exact ih (w_9l6 + 1) w_9l4 1000000000 w_9l3 u_15 (⟨i_8, (by first | omega | (simp (disch := omega) only [↓i_in, ↓i_isCouple, ↓i_isBridge, ↓i_isTheme, ↓i_isBarge, i_lt, i_le, i_eq, i_clamp, i_upd, i_m1, Int32.toInt_toInt64, Int32.toInt_add, Int32.toInt_sub, Int32.toInt_mul, bm32, Int32.reduceToInt, Int64.reduceToInt, Nat.reduceLT, Nat.reduceEqDiff, reduceIte, w_9m0_2, w_9m0_3, w_9m0_4, w_9m0_5, w_9m0_6, w_9m0_14, w_9m0_42, u_15_2, u_15_3, u_15_4, u_15_5, u_15_6, u_15_14, u_15_42] <;> omega)), (by first | omega | (simp (disch := omega) only [↓i_in, ↓i_isCouple, ↓i_isBridge, ↓i_isTheme, ↓i_isBarge, i_lt, i_le, i_eq, i_clamp, i_upd, i_m1, Int32.toInt_toInt64, Int32.toInt_add, Int32.toInt_sub, Int32.toInt_mul, bm32, Int32.reduceToInt, Int64.reduceToInt, Nat.reduceLT, Nat.reduceEqDiff, reduceIte, w_9m0_2, w_9m0_3, w_9m0_4, w_9m0_5, w_9m0_6, w_9m0_14, w_9m0_42, u_15_2, u_15_3, u_15_4, u_15_5, u_15_6, u_15_14, u_15_42] <;> omega))⟩) _ _ _ _ _ e
          · rw [if_neg c_18] at e
            try simp (disch := omega) only [↓i_in, ↓i_isCouple, ↓i_isBridge, ↓i_isTheme, ↓i_isBarge, i_lt, i_le, i_eq, i_clamp, i_upd, i_m1, Int32.toInt_toInt64, Int32.toInt_add, Int32.toInt_sub, Int32.toInt_mul, bm32, Int32.reduceToInt, Int64.reduceToInt, Nat.reduceLT, Nat.reduceEqDiff, reduceIte, w_9m0_2, w_9m0_3, w_9m0_4, w_9m0_5, w_9m0_6, w_9m0_14, w_9m0_42, u_15_2, u_15_3, u_15_4, u_15_5, u_15_6, u_15_14, u_15_42] at c_18
            by_cases c_20 : w_9l4 ≤ 1000000000
            · rw [if_pos c_20] at e
              try simp (disch := omega) only [↓i_in, ↓i_isCouple, ↓i_isBridge, ↓i_isTheme, ↓i_isBarge, i_lt, i_le, i_eq, i_clamp, i_upd, i_m1, Int32.toInt_toInt64, Int32.toInt_add, Int32.toInt_sub, Int32.toInt_mul, bm32, Int32.reduceToInt, Int64.reduceToInt, Nat.reduceLT, Nat.reduceEqDiff, reduceIte, w_9m0_2, w_9m0_3, w_9m0_4, w_9m0_5, w_9m0_6, w_9m0_14, w_9m0_42, u_15_2, u_15_3, u_15_4, u_15_5, u_15_6, u_15_14, u_15_42] at c_20
              exact ih (w_9l6 + 1) w_9l4 w_9l4 w_9l6 u_15 (⟨i_8, (by first | omega | (simp (disch := omega) only [↓i_in, ↓i_isCouple, ↓i_isBridge, ↓i_isTheme, ↓i_isBarge, i_lt, i_le, i_eq, i_clamp, i_upd, i_m1, Int32.toInt_toInt64, Int32.toInt_add, Int32.toInt_sub, Int32.toInt_mul, bm32, Int32.reduceToInt, Int64.reduceToInt, Nat.reduceLT, Nat.reduceEqDiff, reduceIte, w_9m0_2, w_9m0_3, w_9m0_4, w_9m0_5, w_9m0_6, w_9m0_14, w_9m0_42, u_15_2, u_15_3, u_15_4, u_15_5, u_15_6, u_15_14, u_15_42] <;> omega)), (by first | omega | (simp (disch := omega) only [↓i_in, ↓i_isCouple, ↓i_isBridge, ↓i_isTheme, ↓i_isBarge, i_lt, i_le, i_eq, i_clamp, i_upd, i_m1, Int32.toInt_toInt64, Int32.toInt_add, Int32.toInt_sub, Int32.toInt_mul, bm32, Int32.reduceToInt, Int64.reduceToInt, Nat.reduceLT, Nat.reduceEqDiff, reduceIte, w_9m0_2, w_9m0_3, w_9m0_4, w_9m0_5, w_9m0_6, w_9m0_14, w_9m0_42, u_15_2, u_15_3, u_15_4, u_15_5, u_15_6, u_15_14, u_15_42] <;> omega))⟩) _ _ _ _ _ e
            · rw [if_neg c_20] at e
              try simp (disch := omega) only [↓i_in, ↓i_isCouple, ↓i_isBridge, ↓i_isTheme, ↓i_isBarge, i_lt, i_le, i_eq, i_clamp, i_upd, i_m1, Int32.toInt_toInt64, Int32.toInt_add, Int32.toInt_sub, Int32.toInt_mul, bm32, Int32.reduceToInt, Int64.reduceToInt, Nat.reduceLT, Nat.reduceEqDiff, reduceIte, w_9m0_2, w_9m0_3, w_9m0_4, w_9m0_5, w_9m0_6, w_9m0_14, w_9m0_42, u_15_2, u_15_3, u_15_4, u_15_5, u_15_6, u_15_14, u_15_42] at c_20
              exact ih (w_9l6 + 1) w_9l4 1000000000 w_9l6 u_15 (⟨i_8, (by first | omega | (simp (disch := omega) only [↓i_in, ↓i_isCouple, ↓i_isBridge, ↓i_isTheme, ↓i_isBarge, i_lt, i_le, i_eq, i_clamp, i_upd, i_m1, Int32.toInt_toInt64, Int32.toInt_add, Int32.toInt_sub, Int32.toInt_mul, bm32, Int32.reduceToInt, Int64.reduceToInt, Nat.reduceLT, Nat.reduceEqDiff, reduceIte, w_9m0_2, w_9m0_3, w_9m0_4, w_9m0_5, w_9m0_6, w_9m0_14, w_9m0_42, u_15_2, u_15_3, u_15_4, u_15_5, u_15_6, u_15_14, u_15_42] <;> omega)), (by first | omega | (simp (disch := omega) only [↓i_in, ↓i_isCouple, ↓i_isBridge, ↓i_isTheme, ↓i_isBarge, i_lt, i_le, i_eq, i_clamp, i_upd, i_m1, Int32.toInt_toInt64, Int32.toInt_add, Int32.toInt_sub, Int32.toInt_mul, bm32, Int32.reduceToInt, Int64.reduceToInt, Nat.reduceLT, Nat.reduceEqDiff, reduceIte, w_9m0_2, w_9m0_3, w_9m0_4, w_9m0_5, w_9m0_6, w_9m0_14, w_9m0_42, u_15_2, u_15_3, u_15_4, u_15_5, u_15_6, u_15_14, u_15_42] <;> omega))⟩) _ _ _ _ _ e
      · rw [if_neg c_9] at e
        try simp (disch := omega) only [↓i_in, ↓i_isCouple, ↓i_isBridge, ↓i_isTheme, ↓i_isBarge, i_lt, i_le, i_eq, i_clamp, i_upd, i_m1, Int32.toInt_toInt64, Int32.toInt_add, Int32.toInt_sub, Int32.toInt_mul, bm32, Int32.reduceToInt, Int64.reduceToInt, Nat.reduceLT, Nat.reduceEqDiff, reduceIte, w_9m0_2, w_9m0_3, w_9m0_4, w_9m0_5, w_9m0_6, w_9m0_14, w_9m0_42, u_15_2, u_15_3, u_15_4, u_15_5, u_15_6, u_15_14, u_15_42] at c_9
        by_cases c_21 : w_9l4 ≤ (u_15 35)
        · rw [if_pos c_21] at e
          try simp (disch := omega) only [↓i_in, ↓i_isCouple, ↓i_isBridge, ↓i_isTheme, ↓i_isBarge, i_lt, i_le, i_eq, i_clamp, i_upd, i_m1, Int32.toInt_toInt64, Int32.toInt_add, Int32.toInt_sub, Int32.toInt_mul, bm32, Int32.reduceToInt, Int64.reduceToInt, Nat.reduceLT, Nat.reduceEqDiff, reduceIte, w_9m0_2, w_9m0_3, w_9m0_4, w_9m0_5, w_9m0_6, w_9m0_14, w_9m0_42, u_15_2, u_15_3, u_15_4, u_15_5, u_15_6, u_15_14, u_15_42] at c_21
          by_cases c_22 : w_9l5 ≤ (u_15 35)
          · rw [if_pos c_22] at e
            try simp (disch := omega) only [↓i_in, ↓i_isCouple, ↓i_isBridge, ↓i_isTheme, ↓i_isBarge, i_lt, i_le, i_eq, i_clamp, i_upd, i_m1, Int32.toInt_toInt64, Int32.toInt_add, Int32.toInt_sub, Int32.toInt_mul, bm32, Int32.reduceToInt, Int64.reduceToInt, Nat.reduceLT, Nat.reduceEqDiff, reduceIte, w_9m0_2, w_9m0_3, w_9m0_4, w_9m0_5, w_9m0_6, w_9m0_14, w_9m0_42, u_15_2, u_15_3, u_15_4, u_15_5, u_15_6, u_15_14, u_15_42] at c_22
            by_cases c_23 : w_9l4 ≤ (u_15 35)
            · rw [if_pos c_23] at e
              try simp (disch := omega) only [↓i_in, ↓i_isCouple, ↓i_isBridge, ↓i_isTheme, ↓i_isBarge, i_lt, i_le, i_eq, i_clamp, i_upd, i_m1, Int32.toInt_toInt64, Int32.toInt_add, Int32.toInt_sub, Int32.toInt_mul, bm32, Int32.reduceToInt, Int64.reduceToInt, Nat.reduceLT, Nat.reduceEqDiff, reduceIte, w_9m0_2, w_9m0_3, w_9m0_4, w_9m0_5, w_9m0_6, w_9m0_14, w_9m0_42, u_15_2, u_15_3, u_15_4, u_15_5, u_15_6, u_15_14, u_15_42] at c_23
              by_cases c_24 : w_9l4 ≤ (u_15 35)
              · rw [if_pos c_24] at e
                try simp (disch := omega) only [↓i_in, ↓i_isCouple, ↓i_isBridge, ↓i_isTheme, ↓i_isBarge, i_lt, i_le, i_eq, i_clamp, i_upd, i_m1, Int32.toInt_toInt64, Int32.toInt_add, Int32.toInt_sub, Int32.toInt_mul, bm32, Int32.reduceToInt, Int64.reduceToInt, Nat.reduceLT, Nat.reduceEqDiff, reduceIte, w_9m0_2, w_9m0_3, w_9m0_4, w_9m0_5, w_9m0_6, w_9m0_14, w_9m0_42, u_15_2, u_15_3, u_15_4, u_15_5, u_15_6, u_15_14, u_15_42] at c_24
                exact ih (w_9l6 + 1) w_9l5 w_9l4 w_9l3 u_15 (⟨i_8, (by first | omega | (simp (disch := omega) only [↓i_in, ↓i_isCouple, ↓i_isBridge, ↓i_isTheme, ↓i_isBarge, i_lt, i_le, i_eq, i_clamp, i_upd, i_m1, Int32.toInt_toInt64, Int32.toInt_add, Int32.toInt_sub, Int32.toInt_mul, bm32, Int32.reduceToInt, Int64.reduceToInt, Nat.reduceLT, Nat.reduceEqDiff, reduceIte, w_9m0_2, w_9m0_3, w_9m0_4, w_9m0_5, w_9m0_6, w_9m0_14, w_9m0_42, u_15_2, u_15_3, u_15_4, u_15_5, u_15_6, u_15_14, u_15_42] <;> omega)), (by first | omega | (simp (disch := omega) only [↓i_in, ↓i_isCouple, ↓i_isBridge, ↓i_isTheme, ↓i_isBarge, i_lt, i_le, i_eq, i_clamp, i_upd, i_m1, Int32.toInt_toInt64, Int32.toInt_add, Int32.toInt_sub, Int32.toInt_mul, bm32, Int32.reduceToInt, Int64.reduceToInt, Nat.reduceLT, Nat.reduceEqDiff, reduceIte, w_9m0_2, w_9m0_3, w_9m0_4, w_9m0_5, w_9m0_6, w_9m0_14, w_9m0_42, u_15_2, u_15_3, u_15_4, u_15_5, u_15_6, u_15_14, u_15_42] <;> omega))⟩) _ _ _ _ _ e
              · rw [if_neg c_24] at e
                try simp (disch := omega) only [↓i_in, ↓i_isCouple, ↓i_isBridge, ↓i_isTheme, ↓i_isBarge, i_lt, i_le, i_eq, i_clamp, i_upd, i_m1, Int32.toInt_toInt64, Int32.toInt_add, Int32.toInt_sub, Int32.toInt_mul, bm32, Int32.reduceToInt, Int64.reduceToInt, Nat.reduceLT, Nat.reduceEqDiff, reduceIte, w_9m0_2, w_9m0_3, w_9m0_4, w_9m0_5, w_9m0_6, w_9m0_14, w_9m0_42, u_15_2, u_15_3, u_15_4, u_15_5, u_15_6, u_15_14, u_15_42] at c_24
                exact ih (w_9l6 + 1) w_9l5 (u_15 35) w_9l3 u_15 (⟨i_8, (by first | omega | (simp (disch := omega) only [↓i_in, ↓i_isCouple, ↓i_isBridge, ↓i_isTheme, ↓i_isBarge, i_lt, i_le, i_eq, i_clamp, i_upd, i_m1, Int32.toInt_toInt64, Int32.toInt_add, Int32.toInt_sub, Int32.toInt_mul, bm32, Int32.reduceToInt, Int64.reduceToInt, Nat.reduceLT, Nat.reduceEqDiff, reduceIte, w_9m0_2, w_9m0_3, w_9m0_4, w_9m0_5, w_9m0_6, w_9m0_14, w_9m0_42, u_15_2, u_15_3, u_15_4, u_15_5, u_15_6, u_15_14, u_15_42] <;> omega)), (by first | omega | (simp (disch := omega) only [↓i_in, ↓i_isCouple, ↓i_isBridge, ↓i_isTheme, ↓i_isBarge, i_lt, i_le, i_eq, i_clamp, i_upd, i_m1, Int32.toInt_toInt64, Int32.toInt_add, Int32.toInt_sub, Int32.toInt_mul, bm32, Int32.reduceToInt, Int64.reduceToInt, Nat.reduceLT, Nat.reduceEqDiff, reduceIte, w_9m0_2, w_9m0_3, w_9m0_4, w_9m0_5, w_9m0_6, w_9m0_14, w_9m0_42, u_15_2, u_15_3, u_15_4, u_15_5, u_15_6, u_15_14, u_15_42] <;> omega))⟩) _ _ _ _ _ e
            · rw [if_neg c_23] at e
              try simp (disch := omega) only [↓i_in, ↓i_isCouple, ↓i_isBridge, ↓i_isTheme, ↓i_isBarge, i_lt, i_le, i_eq, i_clamp, i_upd, i_m1, Int32.toInt_toInt64, Int32.toInt_add, Int32.toInt_sub, Int32.toInt_mul, bm32, Int32.reduceToInt, Int64.reduceToInt, Nat.reduceLT, Nat.reduceEqDiff, reduceIte, w_9m0_2, w_9m0_3, w_9m0_4, w_9m0_5, w_9m0_6, w_9m0_14, w_9m0_42, u_15_2, u_15_3, u_15_4, u_15_5, u_15_6, u_15_14, u_15_42] at c_23
              by_cases c_25 : w_9l4 ≤ (u_15 35)
              · rw [if_pos c_25] at e
                try simp (disch := omega) only [↓i_in, ↓i_isCouple, ↓i_isBridge, ↓i_isTheme, ↓i_isBarge, i_lt, i_le, i_eq, i_clamp, i_upd, i_m1, Int32.toInt_toInt64, Int32.toInt_add, Int32.toInt_sub, Int32.toInt_mul, bm32, Int32.reduceToInt, Int64.reduceToInt, Nat.reduceLT, Nat.reduceEqDiff, reduceIte, w_9m0_2, w_9m0_3, w_9m0_4, w_9m0_5, w_9m0_6, w_9m0_14, w_9m0_42, u_15_2, u_15_3, u_15_4, u_15_5, u_15_6, u_15_14, u_15_42] at c_25
                exact ih (w_9l6 + 1) w_9l5 w_9l4 w_9l6 u_15 (⟨i_8, (by first | omega | (simp (disch := omega) only [↓i_in, ↓i_isCouple, ↓i_isBridge, ↓i_isTheme, ↓i_isBarge, i_lt, i_le, i_eq, i_clamp, i_upd, i_m1, Int32.toInt_toInt64, Int32.toInt_add, Int32.toInt_sub, Int32.toInt_mul, bm32, Int32.reduceToInt, Int64.reduceToInt, Nat.reduceLT, Nat.reduceEqDiff, reduceIte, w_9m0_2, w_9m0_3, w_9m0_4, w_9m0_5, w_9m0_6, w_9m0_14, w_9m0_42, u_15_2, u_15_3, u_15_4, u_15_5, u_15_6, u_15_14, u_15_42] <;> omega)), (by first | omega | (simp (disch := omega) only [↓i_in, ↓i_isCouple, ↓i_isBridge, ↓i_isTheme, ↓i_isBarge, i_lt, i_le, i_eq, i_clamp, i_upd, i_m1, Int32.toInt_toInt64, Int32.toInt_add, Int32.toInt_sub, Int32.toInt_mul, bm32, Int32.reduceToInt, Int64.reduceToInt, Nat.reduceLT, Nat.reduceEqDiff, reduceIte, w_9m0_2, w_9m0_3, w_9m0_4, w_9m0_5, w_9m0_6, w_9m0_14, w_9m0_42, u_15_2, u_15_3, u_15_4, u_15_5, u_15_6, u_15_14, u_15_42] <;> omega))⟩) _ _ _ _ _ e
              · rw [if_neg c_25] at e
                try simp (disch := omega) only [↓i_in, ↓i_isCouple, ↓i_isBridge, ↓i_isTheme, ↓i_isBarge, i_lt, i_le, i_eq, i_clamp, i_upd, i_m1, Int32.toInt_toInt64, Int32.toInt_add, Int32.toInt_sub, Int32.toInt_mul, bm32, Int32.reduceToInt, Int64.reduceToInt, Nat.reduceLT, Nat.reduceEqDiff, reduceIte, w_9m0_2, w_9m0_3, w_9m0_4, w_9m0_5, w_9m0_6, w_9m0_14, w_9m0_42, u_15_2, u_15_3, u_15_4, u_15_5, u_15_6, u_15_14, u_15_42] at c_25
                exact ih (w_9l6 + 1) w_9l5 (u_15 35) w_9l6 u_15 (⟨i_8, (by first | omega | (simp (disch := omega) only [↓i_in, ↓i_isCouple, ↓i_isBridge, ↓i_isTheme, ↓i_isBarge, i_lt, i_le, i_eq, i_clamp, i_upd, i_m1, Int32.toInt_toInt64, Int32.toInt_add, Int32.toInt_sub, Int32.toInt_mul, bm32, Int32.reduceToInt, Int64.reduceToInt, Nat.reduceLT, Nat.reduceEqDiff, reduceIte, w_9m0_2, w_9m0_3, w_9m0_4, w_9m0_5, w_9m0_6, w_9m0_14, w_9m0_42, u_15_2, u_15_3, u_15_4, u_15_5, u_15_6, u_15_14, u_15_42] <;> omega)), (by first | omega | (simp (disch := omega) only [↓i_in, ↓i_isCouple, ↓i_isBridge, ↓i_isTheme, ↓i_isBarge, i_lt, i_le, i_eq, i_clamp, i_upd, i_m1, Int32.toInt_toInt64, Int32.toInt_add, Int32.toInt_sub, Int32.toInt_mul, bm32, Int32.reduceToInt, Int64.reduceToInt, Nat.reduceLT, Nat.reduceEqDiff, reduceIte, w_9m0_2, w_9m0_3, w_9m0_4, w_9m0_5, w_9m0_6, w_9m0_14, w_9m0_42, u_15_2, u_15_3, u_15_4, u_15_5, u_15_6, u_15_14, u_15_42] <;> omega))⟩) _ _ _ _ _ e
          · rw [if_neg c_22] at e
            try simp (disch := omega) only [↓i_in, ↓i_isCouple, ↓i_isBridge, ↓i_isTheme, ↓i_isBarge, i_lt, i_le, i_eq, i_clamp, i_upd, i_m1, Int32.toInt_toInt64, Int32.toInt_add, Int32.toInt_sub, Int32.toInt_mul, bm32, Int32.reduceToInt, Int64.reduceToInt, Nat.reduceLT, Nat.reduceEqDiff, reduceIte, w_9m0_2, w_9m0_3, w_9m0_4, w_9m0_5, w_9m0_6, w_9m0_14, w_9m0_42, u_15_2, u_15_3, u_15_4, u_15_5, u_15_6, u_15_14, u_15_42] at c_22
            by_cases c_26 : w_9l4 ≤ (u_15 35)
            · rw [if_pos c_26] at e
              try simp (disch := omega) only [↓i_in, ↓i_isCouple, ↓i_isBridge, ↓i_isTheme, ↓i_isBarge, i_lt, i_le, i_eq, i_clamp, i_upd, i_m1, Int32.toInt_toInt64, Int32.toInt_add, Int32.toInt_sub, Int32.toInt_mul, bm32, Int32.reduceToInt, Int64.reduceToInt, Nat.reduceLT, Nat.reduceEqDiff, reduceIte, w_9m0_2, w_9m0_3, w_9m0_4, w_9m0_5, w_9m0_6, w_9m0_14, w_9m0_42, u_15_2, u_15_3, u_15_4, u_15_5, u_15_6, u_15_14, u_15_42] at c_26
              by_cases c_27 : w_9l4 ≤ (u_15 35)
              · rw [if_pos c_27] at e
                try simp (disch := omega) only [↓i_in, ↓i_isCouple, ↓i_isBridge, ↓i_isTheme, ↓i_isBarge, i_lt, i_le, i_eq, i_clamp, i_upd, i_m1, Int32.toInt_toInt64, Int32.toInt_add, Int32.toInt_sub, Int32.toInt_mul, bm32, Int32.reduceToInt, Int64.reduceToInt, Nat.reduceLT, Nat.reduceEqDiff, reduceIte, w_9m0_2, w_9m0_3, w_9m0_4, w_9m0_5, w_9m0_6, w_9m0_14, w_9m0_42, u_15_2, u_15_3, u_15_4, u_15_5, u_15_6, u_15_14, u_15_42] at c_27
                exact ih (w_9l6 + 1) (u_15 35) w_9l4 w_9l3 u_15 (⟨i_8, (by first | omega | (simp (disch := omega) only [↓i_in, ↓i_isCouple, ↓i_isBridge, ↓i_isTheme, ↓i_isBarge, i_lt, i_le, i_eq, i_clamp, i_upd, i_m1, Int32.toInt_toInt64, Int32.toInt_add, Int32.toInt_sub, Int32.toInt_mul, bm32, Int32.reduceToInt, Int64.reduceToInt, Nat.reduceLT, Nat.reduceEqDiff, reduceIte, w_9m0_2, w_9m0_3, w_9m0_4, w_9m0_5, w_9m0_6, w_9m0_14, w_9m0_42, u_15_2, u_15_3, u_15_4, u_15_5, u_15_6, u_15_14, u_15_42] <;> omega)), (by first | omega | (simp (disch := omega) only [↓i_in, ↓i_isCouple, ↓i_isBridge, ↓i_isTheme, ↓i_isBarge, i_lt, i_le, i_eq, i_clamp, i_upd, i_m1, Int32.toInt_toInt64, Int32.toInt_add, Int32.toInt_sub, Int32.toInt_mul, bm32, Int32.reduceToInt, Int64.reduceToInt, Nat.reduceLT, Nat.reduceEqDiff, reduceIte, w_9m0_2, w_9m0_3, w_9m0_4, w_9m0_5, w_9m0_6, w_9m0_14, w_9m0_42, u_15_2, u_15_3, u_15_4, u_15_5, u_15_6, u_15_14, u_15_42] <;> omega))⟩) _ _ _ _ _ e
              · rw [if_neg c_27] at e
                try simp (disch := omega) only [↓i_in, ↓i_isCouple, ↓i_isBridge, ↓i_isTheme, ↓i_isBarge, i_lt, i_le, i_eq, i_clamp, i_upd, i_m1, Int32.toInt_toInt64, Int32.toInt_add, Int32.toInt_sub, Int32.toInt_mul, bm32, Int32.reduceToInt, Int64.reduceToInt, Nat.reduceLT, Nat.reduceEqDiff, reduceIte, w_9m0_2, w_9m0_3, w_9m0_4, w_9m0_5, w_9m0_6, w_9m0_14, w_9m0_42, u_15_2, u_15_3, u_15_4, u_15_5, u_15_6, u_15_14, u_15_42] at c_27
                exact ih (w_9l6 + 1) (u_15 35) (u_15 35) w_9l3 u_15 (⟨i_8, (by first | omega | (simp (disch := omega) only [↓i_in, ↓i_isCouple, ↓i_isBridge, ↓i_isTheme, ↓i_isBarge, i_lt, i_le, i_eq, i_clamp, i_upd, i_m1, Int32.toInt_toInt64, Int32.toInt_add, Int32.toInt_sub, Int32.toInt_mul, bm32, Int32.reduceToInt, Int64.reduceToInt, Nat.reduceLT, Nat.reduceEqDiff, reduceIte, w_9m0_2, w_9m0_3, w_9m0_4, w_9m0_5, w_9m0_6, w_9m0_14, w_9m0_42, u_15_2, u_15_3, u_15_4, u_15_5, u_15_6, u_15_14, u_15_42] <;> omega)), (by first | omega | (simp (disch := omega) only [↓i_in, ↓i_isCouple, ↓i_isBridge, ↓i_isTheme, ↓i_isBarge, i_lt, i_le, i_eq, i_clamp, i_upd, i_m1, Int32.toInt_toInt64, Int32.toInt_add, Int32.toInt_sub, Int32.toInt_mul, bm32, Int32.reduceToInt, Int64.reduceToInt, Nat.reduceLT, Nat.reduceEqDiff, reduceIte, w_9m0_2, w_9m0_3, w_9m0_4, w_9m0_5, w_9m0_6, w_9m0_14, w_9m0_42, u_15_2, u_15_3, u_15_4, u_15_5, u_15_6, u_15_14, u_15_42] <;> omega))⟩) _ _ _ _ _ e
            · rw [if_neg c_26] at e
              try simp (disch := omega) only [↓i_in, ↓i_isCouple, ↓i_isBridge, ↓i_isTheme, ↓i_isBarge, i_lt, i_le, i_eq, i_clamp, i_upd, i_m1, Int32.toInt_toInt64, Int32.toInt_add, Int32.toInt_sub, Int32.toInt_mul, bm32, Int32.reduceToInt, Int64.reduceToInt, Nat.reduceLT, Nat.reduceEqDiff, reduceIte, w_9m0_2, w_9m0_3, w_9m0_4, w_9m0_5, w_9m0_6, w_9m0_14, w_9m0_42, u_15_2, u_15_3, u_15_4, u_15_5, u_15_6, u_15_14, u_15_42] at c_26
              by_cases c_28 : w_9l4 ≤ (u_15 35)
              · rw [if_pos c_28] at e
                try simp (disch := omega) only [↓i_in, ↓i_isCouple, ↓i_isBridge, ↓i_isTheme, ↓i_isBarge, i_lt, i_le, i_eq, i_clamp, i_upd, i_m1, Int32.toInt_toInt64, Int32.toInt_add, Int32.toInt_sub, Int32.toInt_mul, bm32, Int32.reduceToInt, Int64.reduceToInt, Nat.reduceLT, Nat.reduceEqDiff, reduceIte, w_9m0_2, w_9m0_3, w_9m0_4, w_9m0_5, w_9m0_6, w_9m0_14, w_9m0_42, u_15_2, u_15_3, u_15_4, u_15_5, u_15_6, u_15_14, u_15_42] at c_28
                exact ih (w_9l6 + 1) (u_15 35) w_9l4 w_9l6 u_15 (⟨i_8, (by first | omega | (simp (disch := omega) only [↓i_in, ↓i_isCouple, ↓i_isBridge, ↓i_isTheme, ↓i_isBarge, i_lt, i_le, i_eq, i_clamp, i_upd, i_m1, Int32.toInt_toInt64, Int32.toInt_add, Int32.toInt_sub, Int32.toInt_mul, bm32, Int32.reduceToInt, Int64.reduceToInt, Nat.reduceLT, Nat.reduceEqDiff, reduceIte, w_9m0_2, w_9m0_3, w_9m0_4, w_9m0_5, w_9m0_6, w_9m0_14, w_9m0_42, u_15_2, u_15_3, u_15_4, u_15_5, u_15_6, u_15_14, u_15_42] <;> omega)), (by first | omega | (simp (disch := omega) only [↓i_in, ↓i_isCouple, ↓i_isBridge, ↓i_isTheme, ↓i_isBarge, i_lt, i_le, i_eq, i_clamp, i_upd, i_m1, Int32.toInt_toInt64, Int32.toInt_add, Int32.toInt_sub, Int32.toInt_mul, bm32, Int32.reduceToInt, Int64.reduceToInt, Nat.reduceLT, Nat.reduceEqDiff, reduceIte, w_9m0_2, w_9m0_3, w_9m0_4, w_9m0_5, w_9m0_6, w_9m0_14, w_9m0_42, u_15_2, u_15_3, u_15_4, u_15_5, u_15_6, u_15_14, u_15_42] <;> omega))⟩) _ _ _ _ _ e
              · rw [if_neg c_28] at e
                try simp (disch := omega) only [↓i_in, ↓i_isCouple, ↓i_isBridge, ↓i_isTheme, ↓i_isBarge, i_lt, i_le, i_eq, i_clamp, i_upd, i_m1, Int32.toInt_toInt64, Int32.toInt_add, Int32.toInt_sub, Int32.toInt_mul, bm32, Int32.reduceToInt, Int64.reduceToInt, Nat.reduceLT, Nat.reduceEqDiff, reduceIte, w_9m0_2, w_9m0_3, w_9m0_4, w_9m0_5, w_9m0_6, w_9m0_14, w_9m0_42, u_15_2, u_15_3, u_15_4, u_15_5, u_15_6, u_15_14, u_15_42] at c_28
                exact ih (w_9l6 + 1) (u_15 35) (u_15 35) w_9l6 u_15 (⟨i_8, (by first | omega | (simp (disch := omega) only [↓i_in, ↓i_isCouple, ↓i_isBridge, ↓i_isTheme, ↓i_isBarge, i_lt, i_le, i_eq, i_clamp, i_upd, i_m1, Int32.toInt_toInt64, Int32.toInt_add, Int32.toInt_sub, Int32.toInt_mul, bm32, Int32.reduceToInt, Int64.reduceToInt, Nat.reduceLT, Nat.reduceEqDiff, reduceIte, w_9m0_2, w_9m0_3, w_9m0_4, w_9m0_5, w_9m0_6, w_9m0_14, w_9m0_42, u_15_2, u_15_3, u_15_4, u_15_5, u_15_6, u_15_14, u_15_42] <;> omega)), (by first | omega | (simp (disch := omega) only [↓i_in, ↓i_isCouple, ↓i_isBridge, ↓i_isTheme, ↓i_isBarge, i_lt, i_le, i_eq, i_clamp, i_upd, i_m1, Int32.toInt_toInt64, Int32.toInt_add, Int32.toInt_sub, Int32.toInt_mul, bm32, Int32.reduceToInt, Int64.reduceToInt, Nat.reduceLT, Nat.reduceEqDiff, reduceIte, w_9m0_2, w_9m0_3, w_9m0_4, w_9m0_5, w_9m0_6, w_9m0_14, w_9m0_42, u_15_2, u_15_3, u_15_4, u_15_5, u_15_6, u_15_14, u_15_42] <;> omega))⟩) _ _ _ _ _ e
        · rw [if_neg c_21] at e
          try simp (disch := omega) only [↓i_in, ↓i_isCouple, ↓i_isBridge, ↓i_isTheme, ↓i_isBarge, i_lt, i_le, i_eq, i_clamp, i_upd, i_m1, Int32.toInt_toInt64, Int32.toInt_add, Int32.toInt_sub, Int32.toInt_mul, bm32, Int32.reduceToInt, Int64.reduceToInt, Nat.reduceLT, Nat.reduceEqDiff, reduceIte, w_9m0_2, w_9m0_3, w_9m0_4, w_9m0_5, w_9m0_6, w_9m0_14, w_9m0_42, u_15_2, u_15_3, u_15_4, u_15_5, u_15_6, u_15_14, u_15_42] at c_21
          by_cases c_29 : w_9l4 ≤ (u_15 35)
          · rw [if_pos c_29] at e
            try simp (disch := omega) only [↓i_in, ↓i_isCouple, ↓i_isBridge, ↓i_isTheme, ↓i_isBarge, i_lt, i_le, i_eq, i_clamp, i_upd, i_m1, Int32.toInt_toInt64, Int32.toInt_add, Int32.toInt_sub, Int32.toInt_mul, bm32, Int32.reduceToInt, Int64.reduceToInt, Nat.reduceLT, Nat.reduceEqDiff, reduceIte, w_9m0_2, w_9m0_3, w_9m0_4, w_9m0_5, w_9m0_6, w_9m0_14, w_9m0_42, u_15_2, u_15_3, u_15_4, u_15_5, u_15_6, u_15_14, u_15_42] at c_29
            by_cases c_30 : w_9l4 ≤ (u_15 35)
            · rw [if_pos c_30] at e
              try simp (disch := omega) only [↓i_in, ↓i_isCouple, ↓i_isBridge, ↓i_isTheme, ↓i_isBarge, i_lt, i_le, i_eq, i_clamp, i_upd, i_m1, Int32.toInt_toInt64, Int32.toInt_add, Int32.toInt_sub, Int32.toInt_mul, bm32, Int32.reduceToInt, Int64.reduceToInt, Nat.reduceLT, Nat.reduceEqDiff, reduceIte, w_9m0_2, w_9m0_3, w_9m0_4, w_9m0_5, w_9m0_6, w_9m0_14, w_9m0_42, u_15_2, u_15_3, u_15_4, u_15_5, u_15_6, u_15_14, u_15_42] at c_30
              exact ih (w_9l6 + 1) w_9l4 w_9l4 w_9l3 u_15 (⟨i_8, (by first | omega | (simp (disch := omega) only [↓i_in, ↓i_isCouple, ↓i_isBridge, ↓i_isTheme, ↓i_isBarge, i_lt, i_le, i_eq, i_clamp, i_upd, i_m1, Int32.toInt_toInt64, Int32.toInt_add, Int32.toInt_sub, Int32.toInt_mul, bm32, Int32.reduceToInt, Int64.reduceToInt, Nat.reduceLT, Nat.reduceEqDiff, reduceIte, w_9m0_2, w_9m0_3, w_9m0_4, w_9m0_5, w_9m0_6, w_9m0_14, w_9m0_42, u_15_2, u_15_3, u_15_4, u_15_5, u_15_6, u_15_14, u_15_42] <;> omega)), (by first | omega | (simp (disch := omega) only [↓i_in, ↓i_isCouple, ↓i_isBridge, ↓i_isTheme, ↓i_isBarge, i_lt, i_le, i_eq, i_clamp, i_upd, i_m1, Int32.toInt_toInt64, Int32.toInt_add, Int32.toInt_sub, Int32.toInt_mul, bm32, Int32.reduceToInt, Int64.reduceToInt, Nat.reduceLT, Nat.reduceEqDiff, reduceIte, w_9m0_2, w_9m0_3, w_9m0_4, w_9m0_5, w_9m0_6, w_9m0_14, w_9m0_42, u_15_2, u_15_3, u_15_4, u_15_5, u_15_6, u_15_14, u_15_42] <;> omega))⟩) _ _ _ _ _ e
            · rw [if_neg c_30] at e
              try simp (disch := omega) only [↓i_in, ↓i_isCouple, ↓i_isBridge, ↓i_isTheme, ↓i_isBarge, i_lt, i_le, i_eq, i_clamp, i_upd, i_m1, Int32.toInt_toInt64, Int32.toInt_add, Int32.toInt_sub, Int32.toInt_mul, bm32, Int32.reduceToInt, Int64.reduceToInt, Nat.reduceLT, Nat.reduceEqDiff, reduceIte, w_9m0_2, w_9m0_3, w_9m0_4, w_9m0_5, w_9m0_6, w_9m0_14, w_9m0_42, u_15_2, u_15_3, u_15_4, u_15_5, u_15_6, u_15_14, u_15_42] at c_30
              exact ih (w_9l6 + 1) w_9l4 (u_15 35) w_9l3 u_15 (⟨i_8, (by first | omega | (simp (disch := omega) only [↓i_in, ↓i_isCouple, ↓i_isBridge, ↓i_isTheme, ↓i_isBarge, i_lt, i_le, i_eq, i_clamp, i_upd, i_m1, Int32.toInt_toInt64, Int32.toInt_add, Int32.toInt_sub, Int32.toInt_mul, bm32, Int32.reduceToInt, Int64.reduceToInt, Nat.reduceLT, Nat.reduceEqDiff, reduceIte, w_9m0_2, w_9m0_3, w_9m0_4, w_9m0_5, w_9m0_6, w_9m0_14, w_9m0_42, u_15_2, u_15_3, u_15_4, u_15_5, u_15_6, u_15_14, u_15_42] <;> omega)), (by first | omega | (simp (disch := omega) only [↓i_in, ↓i_isCouple, ↓i_isBridge, ↓i_isTheme, ↓i_isBarge, i_lt, i_le, i_eq, i_clamp, i_upd, i_m1, Int32.toInt_toInt64, Int32.toInt_add, Int32.toInt_sub, Int32.toInt_mul, bm32, Int32.reduceToInt, Int64.reduceToInt, Nat.reduceLT, Nat.reduceEqDiff, reduceIte, w_9m0_2, w_9m0_3, w_9m0_4, w_9m0_5, w_9m0_6, w_9m0_14, w_9m0_42, u_15_2, u_15_3, u_15_4, u_15_5, u_15_6, u_15_14, u_15_42] <;> omega))⟩) _ _ _ _ _ e
          · rw [if_neg c_29] at e
            try simp (disch := omega) only [↓i_in, ↓i_isCouple, ↓i_isBridge, ↓i_isTheme, ↓i_isBarge, i_lt, i_le, i_eq, i_clamp, i_upd, i_m1, Int32.toInt_toInt64, Int32.toInt_add, Int32.toInt_sub, Int32.toInt_mul, bm32, Int32.reduceToInt, Int64.reduceToInt, Nat.reduceLT, Nat.reduceEqDiff, reduceIte, w_9m0_2, w_9m0_3, w_9m0_4, w_9m0_5, w_9m0_6, w_9m0_14, w_9m0_42, u_15_2, u_15_3, u_15_4, u_15_5, u_15_6, u_15_14, u_15_42] at c_29
            by_cases c_31 : w_9l4 ≤ (u_15 35)
            · rw [if_pos c_31] at e
              try simp (disch := omega) only [↓i_in, ↓i_isCouple, ↓i_isBridge, ↓i_isTheme, ↓i_isBarge, i_lt, i_le, i_eq, i_clamp, i_upd, i_m1, Int32.toInt_toInt64, Int32.toInt_add, Int32.toInt_sub, Int32.toInt_mul, bm32, Int32.reduceToInt, Int64.reduceToInt, Nat.reduceLT, Nat.reduceEqDiff, reduceIte, w_9m0_2, w_9m0_3, w_9m0_4, w_9m0_5, w_9m0_6, w_9m0_14, w_9m0_42, u_15_2, u_15_3, u_15_4, u_15_5, u_15_6, u_15_14, u_15_42] at c_31
              exact ih (w_9l6 + 1) w_9l4 w_9l4 w_9l6 u_15 (⟨i_8, (by first | omega | (simp (disch := omega) only [↓i_in, ↓i_isCouple, ↓i_isBridge, ↓i_isTheme, ↓i_isBarge, i_lt, i_le, i_eq, i_clamp, i_upd, i_m1, Int32.toInt_toInt64, Int32.toInt_add, Int32.toInt_sub, Int32.toInt_mul, bm32, Int32.reduceToInt, Int64.reduceToInt, Nat.reduceLT, Nat.reduceEqDiff, reduceIte, w_9m0_2, w_9m0_3, w_9m0_4, w_9m0_5, w_9m0_6, w_9m0_14, w_9m0_42, u_15_2, u_15_3, u_15_4, u_15_5, u_15_6, u_15_14, u_15_42] <;> omega)), (by first | omega | (simp (disch := omega) only [↓i_in, ↓i_isCouple, ↓i_isBridge, ↓i_isTheme, ↓i_isBarge, i_lt, i_le, i_eq, i_clamp, i_upd, i_m1, Int32.toInt_toInt64, Int32.toInt_add, Int32.toInt_sub, Int32.toInt_mul, bm32, Int32.reduceToInt, Int64.reduceToInt, Nat.reduceLT, Nat.reduceEqDiff, reduceIte, w_9m0_2, w_9m0_3, w_9m0_4, w_9m0_5, w_9m0_6, w_9m0_14, w_9m0_42, u_15_2, u_15_3, u_15_4, u_15_5, u_15_6, u_15_14, u_15_42] <;> omega))⟩) _ _ _ _ _ e
            · rw [if_neg c_31] at e
              try simp (disch := omega) only [↓i_in, ↓i_isCouple, ↓i_isBridge, ↓i_isTheme, ↓i_isBarge, i_lt, i_le, i_eq, i_clamp, i_upd, i_m1, Int32.toInt_toInt64, Int32.toInt_add, Int32.toInt_sub, Int32.toInt_mul, bm32, Int32.reduceToInt, Int64.reduceToInt, Nat.reduceLT, Nat.reduceEqDiff, reduceIte, w_9m0_2, w_9m0_3, w_9m0_4, w_9m0_5, w_9m0_6, w_9m0_14, w_9m0_42, u_15_2, u_15_3, u_15_4, u_15_5, u_15_6, u_15_14, u_15_42] at c_31
              exact ih (w_9l6 + 1) w_9l4 (u_15 35) w_9l6 u_15 (⟨i_8, (by first | omega | (simp (disch := omega) only [↓i_in, ↓i_isCouple, ↓i_isBridge, ↓i_isTheme, ↓i_isBarge, i_lt, i_le, i_eq, i_clamp, i_upd, i_m1, Int32.toInt_toInt64, Int32.toInt_add, Int32.toInt_sub, Int32.toInt_mul, bm32, Int32.reduceToInt, Int64.reduceToInt, Nat.reduceLT, Nat.reduceEqDiff, reduceIte, w_9m0_2, w_9m0_3, w_9m0_4, w_9m0_5, w_9m0_6, w_9m0_14, w_9m0_42, u_15_2, u_15_3, u_15_4, u_15_5, u_15_6, u_15_14, u_15_42] <;> omega)), (by first | omega | (simp (disch := omega) only [↓i_in, ↓i_isCouple, ↓i_isBridge, ↓i_isTheme, ↓i_isBarge, i_lt, i_le, i_eq, i_clamp, i_upd, i_m1, Int32.toInt_toInt64, Int32.toInt_add, Int32.toInt_sub, Int32.toInt_mul, bm32, Int32.reduceToInt, Int64.reduceToInt, Nat.reduceLT, Nat.reduceEqDiff, reduceIte, w_9m0_2, w_9m0_3, w_9m0_4, w_9m0_5, w_9m0_6, w_9m0_14, w_9m0_42, u_15_2, u_15_3, u_15_4, u_15_5, u_15_6, u_15_14, u_15_42] <;> omega))⟩) _ _ _ _ _ e
set_option maxHeartbeats 4000000 in
theorem s_hire {G : Nat → Int32} {f0 : Nat → Int32} {f10 : Nat → Int32} {f8 : Nat → Int32} {b_ : Int32} {w_ : Int32} (h_0 : GI G) : S_m_hire G f0 f10 f8 b_ w_ := by
  unfold S_m_hire
  have h_0_g := h_0
  obtain ⟨⟨h_0_2a, h_0_2b⟩, ⟨h_0_3a, h_0_3b⟩, ⟨h_0_4a, h_0_4b⟩, ⟨h_0_5a, h_0_5b⟩, ⟨h_0_6a, h_0_6b⟩, ⟨h_0_14a, h_0_14b⟩, ⟨h_0_42a, h_0_42b⟩⟩ := h_0_g
  refine ⟨s_isBridge, ?_⟩
  refine ⟨fun c_1 => ?_, fun c_1 => ?_⟩
  · exact trivial
  · skip
    try simp (disch := omega) only [↓i_in, ↓i_isCouple, ↓i_isBridge, ↓i_isTheme, ↓i_isBarge, i_lt, i_le, i_eq, i_clamp, i_upd, i_m1, Int32.toInt_toInt64, Int32.toInt_add, Int32.toInt_sub, Int32.toInt_mul, bm32, Int32.reduceToInt, Int64.reduceToInt, Nat.reduceLT, Nat.reduceEqDiff, reduceIte] at c_1
    refine ⟨s_in, ?_⟩
    refine ⟨fun c_2 => ?_, fun c_2 => ?_⟩
    · exact trivial
    · skip
      try simp (disch := omega) only [↓i_in, ↓i_isCouple, ↓i_isBridge, ↓i_isTheme, ↓i_isBarge, i_lt, i_le, i_eq, i_clamp, i_upd, i_m1, Int32.toInt_toInt64, Int32.toInt_add, Int32.toInt_sub, Int32.toInt_mul, bm32, Int32.reduceToInt, Int64.reduceToInt, Nat.reduceLT, Nat.reduceEqDiff, reduceIte] at c_2
      refine sl_hire_39 h_0 (by first | omega | (simp (disch := omega) only [↓i_in, ↓i_isCouple, ↓i_isBridge, ↓i_isTheme, ↓i_isBarge, i_lt, i_le, i_eq, i_clamp, i_upd, i_m1, Int32.toInt_toInt64, Int32.toInt_add, Int32.toInt_sub, Int32.toInt_mul, bm32, Int32.reduceToInt, Int64.reduceToInt, Nat.reduceLT, Nat.reduceEqDiff, reduceIte] <;> omega)) (by first | omega | (simp (disch := omega) only [↓i_in, ↓i_isCouple, ↓i_isBridge, ↓i_isTheme, ↓i_isBarge, i_lt, i_le, i_eq, i_clamp, i_upd, i_m1, Int32.toInt_toInt64, Int32.toInt_add, Int32.toInt_sub, Int32.toInt_mul, bm32, Int32.reduceToInt, Int64.reduceToInt, Nat.reduceLT, Nat.reduceEqDiff, reduceIte] <;> omega)) ?_ 10 0 1000000000 1000000000 (-1) G (⟨(QG.refl _), (by first | omega | (simp (disch := omega) only [↓i_in, ↓i_isCouple, ↓i_isBridge, ↓i_isTheme, ↓i_isBarge, i_lt, i_le, i_eq, i_clamp, i_upd, i_m1, Int32.toInt_toInt64, Int32.toInt_add, Int32.toInt_sub, Int32.toInt_mul, bm32, Int32.reduceToInt, Int64.reduceToInt, Nat.reduceLT, Nat.reduceEqDiff, reduceIte] <;> omega)), (by first | omega | (simp (disch := omega) only [↓i_in, ↓i_isCouple, ↓i_isBridge, ↓i_isTheme, ↓i_isBarge, i_lt, i_le, i_eq, i_clamp, i_upd, i_m1, Int32.toInt_toInt64, Int32.toInt_add, Int32.toInt_sub, Int32.toInt_mul, bm32, Int32.reduceToInt, Int64.reduceToInt, Nat.reduceLT, Nat.reduceEqDiff, reduceIte] <;> omega))⟩) (by first | omega | (simp (disch := omega) only [↓i_in, ↓i_isCouple, ↓i_isBridge, ↓i_isTheme, ↓i_isBarge, i_lt, i_le, i_eq, i_clamp, i_upd, i_m1, Int32.toInt_toInt64, Int32.toInt_add, Int32.toInt_sub, Int32.toInt_mul, bm32, Int32.reduceToInt, Int64.reduceToInt, Nat.reduceLT, Nat.reduceEqDiff, reduceIte] <;> omega))
      intro w_9l6 w_9l5 w_9l4 w_9l3 w_9m0 i_3
      obtain ⟨i_4, i_5, i_6⟩ := i_3
      obtain ⟨w_9m0_2, w_9m0_3, w_9m0_4, w_9m0_5, w_9m0_6, w_9m0_14, w_9m0_42⟩ := QGs i_4
      refine ⟨fun c_7 => ?_, fun c_7 => ?_⟩
      · exact trivial
      · skip
        try simp (disch := omega) only [↓i_in, ↓i_isCouple, ↓i_isBridge, ↓i_isTheme, ↓i_isBarge, i_lt, i_le, i_eq, i_clamp, i_upd, i_m1, Int32.toInt_toInt64, Int32.toInt_add, Int32.toInt_sub, Int32.toInt_mul, bm32, Int32.reduceToInt, Int64.reduceToInt, Nat.reduceLT, Nat.reduceEqDiff, reduceIte, w_9m0_2, w_9m0_3, w_9m0_4, w_9m0_5, w_9m0_6, w_9m0_14, w_9m0_42] at c_7
        refine ⟨fun c_8 => ?_, fun c_8 => ?_⟩
        · exact trivial
        · skip
          try simp (disch := omega) only [↓i_in, ↓i_isCouple, ↓i_isBridge, ↓i_isTheme, ↓i_isBarge, i_lt, i_le, i_eq, i_clamp, i_upd, i_m1, Int32.toInt_toInt64, Int32.toInt_add, Int32.toInt_sub, Int32.toInt_mul, bm32, Int32.reduceToInt, Int64.reduceToInt, Nat.reduceLT, Nat.reduceEqDiff, reduceIte, w_9m0_2, w_9m0_3, w_9m0_4, w_9m0_5, w_9m0_6, w_9m0_14, w_9m0_42] at c_8
          refine ⟨fun c_9 => ?_, fun c_9 => ?_⟩
          · exact trivial
          · exact trivial
set_option maxHeartbeats 4000000 in
theorem p_hire {G : Nat → Int32} {f0 : Nat → Int32} {f10 : Nat → Int32} {f8 : Nat → Int32} {b_ : Int32} {w_ : Int32} (h_0 : GI G) : ∀ (r : Int32) (u : (Nat → Int32)), f_m_hire G f0 f10 f8 b_ w_ = (r, u) → QG G u := by
  have h_0_g := h_0
  obtain ⟨⟨h_0_2a, h_0_2b⟩, ⟨h_0_3a, h_0_3b⟩, ⟨h_0_4a, h_0_4b⟩, ⟨h_0_5a, h_0_5b⟩, ⟨h_0_6a, h_0_6b⟩, ⟨h_0_14a, h_0_14b⟩, ⟨h_0_42a, h_0_42b⟩⟩ := h_0_g
  intro r u e
  unfold f_m_hire at e
  by_cases c_1 : (f_m_isBridge G b_) = 0
  · rw [if_pos c_1] at e
    try simp (disch := omega) only [↓i_in, ↓i_isCouple, ↓i_isBridge, ↓i_isTheme, ↓i_isBarge, i_lt, i_le, i_eq, i_clamp, i_upd, i_m1, Int32.toInt_toInt64, Int32.toInt_add, Int32.toInt_sub, Int32.toInt_mul, bm32, Int32.reduceToInt, Int64.reduceToInt, Nat.reduceLT, Nat.reduceEqDiff, reduceIte] at c_1
    cases e
    exact (QG.refl _)
  · rw [if_neg c_1] at e
    try simp (disch := omega) only [↓i_in, ↓i_isCouple, ↓i_isBridge, ↓i_isTheme, ↓i_isBarge, i_lt, i_le, i_eq, i_clamp, i_upd, i_m1, Int32.toInt_toInt64, Int32.toInt_add, Int32.toInt_sub, Int32.toInt_mul, bm32, Int32.reduceToInt, Int64.reduceToInt, Nat.reduceLT, Nat.reduceEqDiff, reduceIte] at c_1
    by_cases c_2 : (f_m_in w_.toInt64 0 1) = 0
    · rw [if_pos c_2] at e
      try simp (disch := omega) only [↓i_in, ↓i_isCouple, ↓i_isBridge, ↓i_isTheme, ↓i_isBarge, i_lt, i_le, i_eq, i_clamp, i_upd, i_m1, Int32.toInt_toInt64, Int32.toInt_add, Int32.toInt_sub, Int32.toInt_mul, bm32, Int32.reduceToInt, Int64.reduceToInt, Nat.reduceLT, Nat.reduceEqDiff, reduceIte] at c_2
      cases e
      exact (QG.refl _)
    · rw [if_neg c_2] at e
      try simp (disch := omega) only [↓i_in, ↓i_isCouple, ↓i_isBridge, ↓i_isTheme, ↓i_isBarge, i_lt, i_le, i_eq, i_clamp, i_upd, i_m1, Int32.toInt_toInt64, Int32.toInt_add, Int32.toInt_sub, Int32.toInt_mul, bm32, Int32.reduceToInt, Int64.reduceToInt, Nat.reduceLT, Nat.reduceEqDiff, reduceIte] at c_2
      generalize x_3 : (f_m_hire_39 f0 f10 f8 b_ 10 0 1000000000 1000000000 (-1) G) = z_4 at e
      obtain ⟨w_9l6, w_9l5, w_9l4, w_9l3, w_9m0⟩ := z_4
      replace e : ((if w_9l3 = (-1) then (w_9l3, w_9m0) else (if w_ = 0 then (w_9l3, w_9m0) else (if w_9l5 = 1000000000 then (w_9l4, w_9m0) else (w_9l5, w_9m0))))) = (r, u) := e
      have p_5 := pl_hire_39 h_0 (by first | omega | (simp (disch := omega) only [↓i_in, ↓i_isCouple, ↓i_isBridge, ↓i_isTheme, ↓i_isBarge, i_lt, i_le, i_eq, i_clamp, i_upd, i_m1, Int32.toInt_toInt64, Int32.toInt_add, Int32.toInt_sub, Int32.toInt_mul, bm32, Int32.reduceToInt, Int64.reduceToInt, Nat.reduceLT, Nat.reduceEqDiff, reduceIte] <;> omega)) (by first | omega | (simp (disch := omega) only [↓i_in, ↓i_isCouple, ↓i_isBridge, ↓i_isTheme, ↓i_isBarge, i_lt, i_le, i_eq, i_clamp, i_upd, i_m1, Int32.toInt_toInt64, Int32.toInt_add, Int32.toInt_sub, Int32.toInt_mul, bm32, Int32.reduceToInt, Int64.reduceToInt, Nat.reduceLT, Nat.reduceEqDiff, reduceIte] <;> omega)) 10 0 1000000000 1000000000 (-1) G (⟨(QG.refl _), (by first | omega | (simp (disch := omega) only [↓i_in, ↓i_isCouple, ↓i_isBridge, ↓i_isTheme, ↓i_isBarge, i_lt, i_le, i_eq, i_clamp, i_upd, i_m1, Int32.toInt_toInt64, Int32.toInt_add, Int32.toInt_sub, Int32.toInt_mul, bm32, Int32.reduceToInt, Int64.reduceToInt, Nat.reduceLT, Nat.reduceEqDiff, reduceIte] <;> omega)), (by first | omega | (simp (disch := omega) only [↓i_in, ↓i_isCouple, ↓i_isBridge, ↓i_isTheme, ↓i_isBarge, i_lt, i_le, i_eq, i_clamp, i_upd, i_m1, Int32.toInt_toInt64, Int32.toInt_add, Int32.toInt_sub, Int32.toInt_mul, bm32, Int32.reduceToInt, Int64.reduceToInt, Nat.reduceLT, Nat.reduceEqDiff, reduceIte] <;> omega))⟩) _ _ _ _ _ x_3
      obtain ⟨i_6, i_7, i_8⟩ := p_5
      obtain ⟨w_9m0_2, w_9m0_3, w_9m0_4, w_9m0_5, w_9m0_6, w_9m0_14, w_9m0_42⟩ := QGs i_6
      by_cases c_9 : w_9l3 = (-1)
      · rw [if_pos c_9] at e
        try simp (disch := omega) only [↓i_in, ↓i_isCouple, ↓i_isBridge, ↓i_isTheme, ↓i_isBarge, i_lt, i_le, i_eq, i_clamp, i_upd, i_m1, Int32.toInt_toInt64, Int32.toInt_add, Int32.toInt_sub, Int32.toInt_mul, bm32, Int32.reduceToInt, Int64.reduceToInt, Nat.reduceLT, Nat.reduceEqDiff, reduceIte, w_9m0_2, w_9m0_3, w_9m0_4, w_9m0_5, w_9m0_6, w_9m0_14, w_9m0_42] at c_9
        cases e
        exact i_6
      · rw [if_neg c_9] at e
        try simp (disch := omega) only [↓i_in, ↓i_isCouple, ↓i_isBridge, ↓i_isTheme, ↓i_isBarge, i_lt, i_le, i_eq, i_clamp, i_upd, i_m1, Int32.toInt_toInt64, Int32.toInt_add, Int32.toInt_sub, Int32.toInt_mul, bm32, Int32.reduceToInt, Int64.reduceToInt, Nat.reduceLT, Nat.reduceEqDiff, reduceIte, w_9m0_2, w_9m0_3, w_9m0_4, w_9m0_5, w_9m0_6, w_9m0_14, w_9m0_42] at c_9
        by_cases c_10 : w_ = 0
        · rw [if_pos c_10] at e
          try simp (disch := omega) only [↓i_in, ↓i_isCouple, ↓i_isBridge, ↓i_isTheme, ↓i_isBarge, i_lt, i_le, i_eq, i_clamp, i_upd, i_m1, Int32.toInt_toInt64, Int32.toInt_add, Int32.toInt_sub, Int32.toInt_mul, bm32, Int32.reduceToInt, Int64.reduceToInt, Nat.reduceLT, Nat.reduceEqDiff, reduceIte, w_9m0_2, w_9m0_3, w_9m0_4, w_9m0_5, w_9m0_6, w_9m0_14, w_9m0_42] at c_10
          cases e
          exact i_6
        · rw [if_neg c_10] at e
          try simp (disch := omega) only [↓i_in, ↓i_isCouple, ↓i_isBridge, ↓i_isTheme, ↓i_isBarge, i_lt, i_le, i_eq, i_clamp, i_upd, i_m1, Int32.toInt_toInt64, Int32.toInt_add, Int32.toInt_sub, Int32.toInt_mul, bm32, Int32.reduceToInt, Int64.reduceToInt, Nat.reduceLT, Nat.reduceEqDiff, reduceIte, w_9m0_2, w_9m0_3, w_9m0_4, w_9m0_5, w_9m0_6, w_9m0_14, w_9m0_42] at c_10
          by_cases c_11 : w_9l5 = 1000000000
          · rw [if_pos c_11] at e
            try simp (disch := omega) only [↓i_in, ↓i_isCouple, ↓i_isBridge, ↓i_isTheme, ↓i_isBarge, i_lt, i_le, i_eq, i_clamp, i_upd, i_m1, Int32.toInt_toInt64, Int32.toInt_add, Int32.toInt_sub, Int32.toInt_mul, bm32, Int32.reduceToInt, Int64.reduceToInt, Nat.reduceLT, Nat.reduceEqDiff, reduceIte, w_9m0_2, w_9m0_3, w_9m0_4, w_9m0_5, w_9m0_6, w_9m0_14, w_9m0_42] at c_11
            cases e
            exact i_6
          · rw [if_neg c_11] at e
            try simp (disch := omega) only [↓i_in, ↓i_isCouple, ↓i_isBridge, ↓i_isTheme, ↓i_isBarge, i_lt, i_le, i_eq, i_clamp, i_upd, i_m1, Int32.toInt_toInt64, Int32.toInt_add, Int32.toInt_sub, Int32.toInt_mul, bm32, Int32.reduceToInt, Int64.reduceToInt, Nat.reduceLT, Nat.reduceEqDiff, reduceIte, w_9m0_2, w_9m0_3, w_9m0_4, w_9m0_5, w_9m0_6, w_9m0_14, w_9m0_42] at c_11
            cases e
            exact i_6
set_option maxHeartbeats 4000000 in
theorem sl_toldHer_50 {G : Nat → Int32} {f9 : Nat → Int32} {f10 : Nat → Int32} {f8 : Nat → Int32} {b_ : Int32} {k_ : Int32} {i_ : Int32} {w_9l7 : Int32} {K : Int32 → Int32 → Int32 → Int32 → (Nat → Int32) → Prop} (h_0 : GI G) (h_1 : 0 ≤ w_9l7.toInt) (h_2 : w_9l7.toInt < 6) (h_3 : 0 ≤ b_.toInt) (h_4 : b_.toInt < 6) (hK : ∀ w_13l8 w_13l6 w_13l5 w_13l4 w_13m0, (QG G w_13m0 ∧ (0 ≤ w_13l8.toInt) ∧ (w_13l8.toInt ≤ 5)) → K w_13l8 w_13l6 w_13l5 w_13l4 w_13m0) : ∀ (n : Nat) w_13l8 w_13l6 w_13l5 w_13l4 w_13m0, (QG G w_13m0 ∧ (0 ≤ w_13l8.toInt) ∧ (w_13l8.toInt ≤ 5)) → (6 - w_13l8.toInt).toNat < n → S_m_toldHer_50 f9 f10 f8 b_ k_ i_ w_9l7 K n w_13l8 w_13l6 w_13l5 w_13l4 w_13m0 := by
  have h_0_g := h_0
  obtain ⟨⟨h_0_2a, h_0_2b⟩, ⟨h_0_3a, h_0_3b⟩, ⟨h_0_4a, h_0_4b⟩, ⟨h_0_5a, h_0_5b⟩, ⟨h_0_6a, h_0_6b⟩, ⟨h_0_14a, h_0_14b⟩, ⟨h_0_42a, h_0_42b⟩⟩ := h_0_g
  intro n
  induction n with
  | zero => intro w_13l8 w_13l6 w_13l5 w_13l4 w_13m0 hI hm; exact absurd hm (Nat.not_lt_zero _)
  | succ n ih =>
    intro w_13l8 w_13l6 w_13l5 w_13l4 w_13m0 hI hm
    rw [S_m_toldHer_50_s]
    have hI0 := hI
    obtain ⟨i_1, i_2, i_3⟩ := hI0
    obtain ⟨w_13m0_2, w_13m0_3, w_13m0_4, w_13m0_5, w_13m0_6, w_13m0_14, w_13m0_42⟩ := QGs i_1
    refine ⟨fun c_4 => ?_, fun c_4 => ?_⟩
    · skip
      try simp (disch := omega) only [↓i_in, ↓i_isCouple, ↓i_isBridge, ↓i_isTheme, ↓i_isBarge, i_lt, i_le, i_eq, i_clamp, i_upd, i_m1, Int32.toInt_toInt64, Int32.toInt_add, Int32.toInt_sub, Int32.toInt_mul, bm32, Int32.reduceToInt, Int64.reduceToInt, Nat.reduceLT, Nat.reduceEqDiff, reduceIte, w_13m0_2, w_13m0_3, w_13m0_4, w_13m0_5, w_13m0_6, w_13m0_14, w_13m0_42] at c_4
      exact hK w_13l8 w_13l6 w_13l5 w_13l4 w_13m0 hI
    · skip
      try simp (disch := omega) only [↓i_in, ↓i_isCouple, ↓i_isBridge, ↓i_isTheme, ↓i_isBarge, i_lt, i_le, i_eq, i_clamp, i_upd, i_m1, Int32.toInt_toInt64, Int32.toInt_add, Int32.toInt_sub, Int32.toInt_mul, bm32, Int32.reduceToInt, Int64.reduceToInt, Nat.reduceLT, Nat.reduceEqDiff, reduceIte, w_13m0_2, w_13m0_3, w_13m0_4, w_13m0_5, w_13m0_6, w_13m0_14, w_13m0_42] at c_4
      refine ⟨vp_in_iff.mpr (by first | omega | (simp (disch := omega) only [↓i_in, ↓i_isCouple, ↓i_isBridge, ↓i_isTheme, ↓i_isBarge, i_lt, i_le, i_eq, i_clamp, i_upd, i_m1, Int32.toInt_toInt64, Int32.toInt_add, Int32.toInt_sub, Int32.toInt_mul, bm32, Int32.reduceToInt, Int64.reduceToInt, Nat.reduceLT, Nat.reduceEqDiff, reduceIte, w_13m0_2, w_13m0_3, w_13m0_4, w_13m0_5, w_13m0_6, w_13m0_14, w_13m0_42] <;> omega)), ?_⟩
      refine ⟨vp_in_iff.mpr (by first | omega | (simp (disch := omega) only [↓i_in, ↓i_isCouple, ↓i_isBridge, ↓i_isTheme, ↓i_isBarge, i_lt, i_le, i_eq, i_clamp, i_upd, i_m1, Int32.toInt_toInt64, Int32.toInt_add, Int32.toInt_sub, Int32.toInt_mul, bm32, Int32.reduceToInt, Int64.reduceToInt, Nat.reduceLT, Nat.reduceEqDiff, reduceIte, w_13m0_2, w_13m0_3, w_13m0_4, w_13m0_5, w_13m0_6, w_13m0_14, w_13m0_42] <;> omega)), ?_⟩
      refine ⟨(s_quarrels (by first | omega | (simp (disch := omega) only [↓i_in, ↓i_isCouple, ↓i_isBridge, ↓i_isTheme, ↓i_isBarge, i_lt, i_le, i_eq, i_clamp, i_upd, i_m1, Int32.toInt_toInt64, Int32.toInt_add, Int32.toInt_sub, Int32.toInt_mul, bm32, Int32.reduceToInt, Int64.reduceToInt, Nat.reduceLT, Nat.reduceEqDiff, reduceIte, w_13m0_2, w_13m0_3, w_13m0_4, w_13m0_5, w_13m0_6, w_13m0_14, w_13m0_42] <;> omega)) (by first | omega | (simp (disch := omega) only [↓i_in, ↓i_isCouple, ↓i_isBridge, ↓i_isTheme, ↓i_isBarge, i_lt, i_le, i_eq, i_clamp, i_upd, i_m1, Int32.toInt_toInt64, Int32.toInt_add, Int32.toInt_sub, Int32.toInt_mul, bm32, Int32.reduceToInt, Int64.reduceToInt, Nat.reduceLT, Nat.reduceEqDiff, reduceIte, w_13m0_2, w_13m0_3, w_13m0_4, w_13m0_5, w_13m0_6, w_13m0_14, w_13m0_42] <;> omega)) (by first | omega | (simp (disch := omega) only [↓i_in, ↓i_isCouple, ↓i_isBridge, ↓i_isTheme, ↓i_isBarge, i_lt, i_le, i_eq, i_clamp, i_upd, i_m1, Int32.toInt_toInt64, Int32.toInt_add, Int32.toInt_sub, Int32.toInt_mul, bm32, Int32.reduceToInt, Int64.reduceToInt, Nat.reduceLT, Nat.reduceEqDiff, reduceIte, w_13m0_2, w_13m0_3, w_13m0_4, w_13m0_5, w_13m0_6, w_13m0_14, w_13m0_42] <;> omega)) (by first | omega | (simp (disch := omega) only [↓i_in, ↓i_isCouple, ↓i_isBridge, ↓i_isTheme, ↓i_isBarge, i_lt, i_le, i_eq, i_clamp, i_upd, i_m1, Int32.toInt_toInt64, Int32.toInt_add, Int32.toInt_sub, Int32.toInt_mul, bm32, Int32.reduceToInt, Int64.reduceToInt, Nat.reduceLT, Nat.reduceEqDiff, reduceIte, w_13m0_2, w_13m0_3, w_13m0_4, w_13m0_5, w_13m0_6, w_13m0_14, w_13m0_42] <;> omega))), ?_⟩
      refine ⟨fun c_5 => ?_, fun c_5 => ?_⟩
      · skip
        try simp (disch := omega) only [↓i_in, ↓i_isCouple, ↓i_isBridge, ↓i_isTheme, ↓i_isBarge, i_lt, i_le, i_eq, i_clamp, i_upd, i_m1, Int32.toInt_toInt64, Int32.toInt_add, Int32.toInt_sub, Int32.toInt_mul, bm32, Int32.reduceToInt, Int64.reduceToInt, Nat.reduceLT, Nat.reduceEqDiff, reduceIte, w_13m0_2, w_13m0_3, w_13m0_4, w_13m0_5, w_13m0_6, w_13m0_14, w_13m0_42] at c_5
        refine ⟨fun c_6 => ?_, fun c_6 => ?_⟩
        · skip
          try simp (disch := omega) only [↓i_in, ↓i_isCouple, ↓i_isBridge, ↓i_isTheme, ↓i_isBarge, i_lt, i_le, i_eq, i_clamp, i_upd, i_m1, Int32.toInt_toInt64, Int32.toInt_add, Int32.toInt_sub, Int32.toInt_mul, bm32, Int32.reduceToInt, Int64.reduceToInt, Nat.reduceLT, Nat.reduceEqDiff, reduceIte, w_13m0_2, w_13m0_3, w_13m0_4, w_13m0_5, w_13m0_6, w_13m0_14, w_13m0_42] at c_6
          refine ⟨fun c_7 => ?_, fun c_7 => ?_⟩
          · skip
            try simp (disch := omega) only [↓i_in, ↓i_isCouple, ↓i_isBridge, ↓i_isTheme, ↓i_isBarge, i_lt, i_le, i_eq, i_clamp, i_upd, i_m1, Int32.toInt_toInt64, Int32.toInt_add, Int32.toInt_sub, Int32.toInt_mul, bm32, Int32.reduceToInt, Int64.reduceToInt, Nat.reduceLT, Nat.reduceEqDiff, reduceIte, w_13m0_2, w_13m0_3, w_13m0_4, w_13m0_5, w_13m0_6, w_13m0_14, w_13m0_42] at c_7
            refine ⟨fun c_8 => ?_, fun c_8 => ?_⟩
            · skip
              try simp (disch := omega) only [↓i_in, ↓i_isCouple, ↓i_isBridge, ↓i_isTheme, ↓i_isBarge, i_lt, i_le, i_eq, i_clamp, i_upd, i_m1, Int32.toInt_toInt64, Int32.toInt_add, Int32.toInt_sub, Int32.toInt_mul, bm32, Int32.reduceToInt, Int64.reduceToInt, Nat.reduceLT, Nat.reduceEqDiff, reduceIte, w_13m0_2, w_13m0_3, w_13m0_4, w_13m0_5, w_13m0_6, w_13m0_14, w_13m0_42] at c_8
              exact ih (w_13l8 + 1) ((10 * w_9l7) + w_13l8) (w_13l5 ||| (1 <<< (w_13l8 &&& 31))) (w_13l4 + 1) (f_m_quarrels w_13m0 f10 w_9l7 w_13l8 (f9 (w_9l7 : Int32).toNatClampNeg) (f8 (b_ : Int32).toNatClampNeg)) (⟨(QG.trans i_1 p_quarrels), (by first | omega | (simp (disch := omega) only [↓i_in, ↓i_isCouple, ↓i_isBridge, ↓i_isTheme, ↓i_isBarge, i_lt, i_le, i_eq, i_clamp, i_upd, i_m1, Int32.toInt_toInt64, Int32.toInt_add, Int32.toInt_sub, Int32.toInt_mul, bm32, Int32.reduceToInt, Int64.reduceToInt, Nat.reduceLT, Nat.reduceEqDiff, reduceIte, w_13m0_2, w_13m0_3, w_13m0_4, w_13m0_5, w_13m0_6, w_13m0_14, w_13m0_42] <;> omega)), (by first | omega | (simp (disch := omega) only [↓i_in, ↓i_isCouple, ↓i_isBridge, ↓i_isTheme, ↓i_isBarge, i_lt, i_le, i_eq, i_clamp, i_upd, i_m1, Int32.toInt_toInt64, Int32.toInt_add, Int32.toInt_sub, Int32.toInt_mul, bm32, Int32.reduceToInt, Int64.reduceToInt, Nat.reduceLT, Nat.reduceEqDiff, reduceIte, w_13m0_2, w_13m0_3, w_13m0_4, w_13m0_5, w_13m0_6, w_13m0_14, w_13m0_42] <;> omega))⟩) (by first | omega | (simp (disch := omega) only [↓i_in, ↓i_isCouple, ↓i_isBridge, ↓i_isTheme, ↓i_isBarge, i_lt, i_le, i_eq, i_clamp, i_upd, i_m1, Int32.toInt_toInt64, Int32.toInt_add, Int32.toInt_sub, Int32.toInt_mul, bm32, Int32.reduceToInt, Int64.reduceToInt, Nat.reduceLT, Nat.reduceEqDiff, reduceIte, w_13m0_2, w_13m0_3, w_13m0_4, w_13m0_5, w_13m0_6, w_13m0_14, w_13m0_42] <;> omega))
            · skip
              try simp (disch := omega) only [↓i_in, ↓i_isCouple, ↓i_isBridge, ↓i_isTheme, ↓i_isBarge, i_lt, i_le, i_eq, i_clamp, i_upd, i_m1, Int32.toInt_toInt64, Int32.toInt_add, Int32.toInt_sub, Int32.toInt_mul, bm32, Int32.reduceToInt, Int64.reduceToInt, Nat.reduceLT, Nat.reduceEqDiff, reduceIte, w_13m0_2, w_13m0_3, w_13m0_4, w_13m0_5, w_13m0_6, w_13m0_14, w_13m0_42] at c_8
              exact ih (w_13l8 + 1) w_13l6 (w_13l5 ||| (1 <<< (w_13l8 &&& 31))) (w_13l4 + 1) (f_m_quarrels w_13m0 f10 w_9l7 w_13l8 (f9 (w_9l7 : Int32).toNatClampNeg) (f8 (b_ : Int32).toNatClampNeg)) (⟨(QG.trans i_1 p_quarrels), (by first | omega | (simp (disch := omega) only [↓i_in, ↓i_isCouple, ↓i_isBridge, ↓i_isTheme, ↓i_isBarge, i_lt, i_le, i_eq, i_clamp, i_upd, i_m1, Int32.toInt_toInt64, Int32.toInt_add, Int32.toInt_sub, Int32.toInt_mul, bm32, Int32.reduceToInt, Int64.reduceToInt, Nat.reduceLT, Nat.reduceEqDiff, reduceIte, w_13m0_2, w_13m0_3, w_13m0_4, w_13m0_5, w_13m0_6, w_13m0_14, w_13m0_42] <;> omega)), (by first | omega | (simp (disch := omega) only [↓i_in, ↓i_isCouple, ↓i_isBridge, ↓i_isTheme, ↓i_isBarge, i_lt, i_le, i_eq, i_clamp, i_upd, i_m1, Int32.toInt_toInt64, Int32.toInt_add, Int32.toInt_sub, Int32.toInt_mul, bm32, Int32.reduceToInt, Int64.reduceToInt, Nat.reduceLT, Nat.reduceEqDiff, reduceIte, w_13m0_2, w_13m0_3, w_13m0_4, w_13m0_5, w_13m0_6, w_13m0_14, w_13m0_42] <;> omega))⟩) (by first | omega | (simp (disch := omega) only [↓i_in, ↓i_isCouple, ↓i_isBridge, ↓i_isTheme, ↓i_isBarge, i_lt, i_le, i_eq, i_clamp, i_upd, i_m1, Int32.toInt_toInt64, Int32.toInt_add, Int32.toInt_sub, Int32.toInt_mul, bm32, Int32.reduceToInt, Int64.reduceToInt, Nat.reduceLT, Nat.reduceEqDiff, reduceIte, w_13m0_2, w_13m0_3, w_13m0_4, w_13m0_5, w_13m0_6, w_13m0_14, w_13m0_42] <;> omega))
          · skip
            try simp (disch := omega) only [↓i_in, ↓i_isCouple, ↓i_isBridge, ↓i_isTheme, ↓i_isBarge, i_lt, i_le, i_eq, i_clamp, i_upd, i_m1, Int32.toInt_toInt64, Int32.toInt_add, Int32.toInt_sub, Int32.toInt_mul, bm32, Int32.reduceToInt, Int64.reduceToInt, Nat.reduceLT, Nat.reduceEqDiff, reduceIte, w_13m0_2, w_13m0_3, w_13m0_4, w_13m0_5, w_13m0_6, w_13m0_14, w_13m0_42] at c_7
            exact ih (w_13l8 + 1) w_13l6 w_13l5 w_13l4 (f_m_quarrels w_13m0 f10 w_9l7 w_13l8 (f9 (w_9l7 : Int32).toNatClampNeg) (f8 (b_ : Int32).toNatClampNeg)) (⟨(QG.trans i_1 p_quarrels), (by first | omega | (simp (disch := omega) only [↓i_in, ↓i_isCouple, ↓i_isBridge, ↓i_isTheme, ↓i_isBarge, i_lt, i_le, i_eq, i_clamp, i_upd, i_m1, Int32.toInt_toInt64, Int32.toInt_add, Int32.toInt_sub, Int32.toInt_mul, bm32, Int32.reduceToInt, Int64.reduceToInt, Nat.reduceLT, Nat.reduceEqDiff, reduceIte, w_13m0_2, w_13m0_3, w_13m0_4, w_13m0_5, w_13m0_6, w_13m0_14, w_13m0_42] <;> omega)), (by first | omega | (simp (disch := omega) only [↓i_in, ↓i_isCouple, ↓i_isBridge, ↓i_isTheme, ↓i_isBarge, i_lt, i_le, i_eq, i_clamp, i_upd, i_m1, Int32.toInt_toInt64, Int32.toInt_add, Int32.toInt_sub, Int32.toInt_mul, bm32, Int32.reduceToInt, Int64.reduceToInt, Nat.reduceLT, Nat.reduceEqDiff, reduceIte, w_13m0_2, w_13m0_3, w_13m0_4, w_13m0_5, w_13m0_6, w_13m0_14, w_13m0_42] <;> omega))⟩) (by first | omega | (simp (disch := omega) only [↓i_in, ↓i_isCouple, ↓i_isBridge, ↓i_isTheme, ↓i_isBarge, i_lt, i_le, i_eq, i_clamp, i_upd, i_m1, Int32.toInt_toInt64, Int32.toInt_add, Int32.toInt_sub, Int32.toInt_mul, bm32, Int32.reduceToInt, Int64.reduceToInt, Nat.reduceLT, Nat.reduceEqDiff, reduceIte, w_13m0_2, w_13m0_3, w_13m0_4, w_13m0_5, w_13m0_6, w_13m0_14, w_13m0_42] <;> omega))
        · skip
          try simp (disch := omega) only [↓i_in, ↓i_isCouple, ↓i_isBridge, ↓i_isTheme, ↓i_isBarge, i_lt, i_le, i_eq, i_clamp, i_upd, i_m1, Int32.toInt_toInt64, Int32.toInt_add, Int32.toInt_sub, Int32.toInt_mul, bm32, Int32.reduceToInt, Int64.reduceToInt, Nat.reduceLT, Nat.reduceEqDiff, reduceIte, w_13m0_2, w_13m0_3, w_13m0_4, w_13m0_5, w_13m0_6, w_13m0_14, w_13m0_42] at c_6
          exact ih (w_13l8 + 1) w_13l6 w_13l5 w_13l4 (f_m_quarrels w_13m0 f10 w_9l7 w_13l8 (f9 (w_9l7 : Int32).toNatClampNeg) (f8 (b_ : Int32).toNatClampNeg)) (⟨(QG.trans i_1 p_quarrels), (by first | omega | (simp (disch := omega) only [↓i_in, ↓i_isCouple, ↓i_isBridge, ↓i_isTheme, ↓i_isBarge, i_lt, i_le, i_eq, i_clamp, i_upd, i_m1, Int32.toInt_toInt64, Int32.toInt_add, Int32.toInt_sub, Int32.toInt_mul, bm32, Int32.reduceToInt, Int64.reduceToInt, Nat.reduceLT, Nat.reduceEqDiff, reduceIte, w_13m0_2, w_13m0_3, w_13m0_4, w_13m0_5, w_13m0_6, w_13m0_14, w_13m0_42] <;> omega)), (by first | omega | (simp (disch := omega) only [↓i_in, ↓i_isCouple, ↓i_isBridge, ↓i_isTheme, ↓i_isBarge, i_lt, i_le, i_eq, i_clamp, i_upd, i_m1, Int32.toInt_toInt64, Int32.toInt_add, Int32.toInt_sub, Int32.toInt_mul, bm32, Int32.reduceToInt, Int64.reduceToInt, Nat.reduceLT, Nat.reduceEqDiff, reduceIte, w_13m0_2, w_13m0_3, w_13m0_4, w_13m0_5, w_13m0_6, w_13m0_14, w_13m0_42] <;> omega))⟩) (by first | omega | (simp (disch := omega) only [↓i_in, ↓i_isCouple, ↓i_isBridge, ↓i_isTheme, ↓i_isBarge, i_lt, i_le, i_eq, i_clamp, i_upd, i_m1, Int32.toInt_toInt64, Int32.toInt_add, Int32.toInt_sub, Int32.toInt_mul, bm32, Int32.reduceToInt, Int64.reduceToInt, Nat.reduceLT, Nat.reduceEqDiff, reduceIte, w_13m0_2, w_13m0_3, w_13m0_4, w_13m0_5, w_13m0_6, w_13m0_14, w_13m0_42] <;> omega))
      · skip
        try simp (disch := omega) only [↓i_in, ↓i_isCouple, ↓i_isBridge, ↓i_isTheme, ↓i_isBarge, i_lt, i_le, i_eq, i_clamp, i_upd, i_m1, Int32.toInt_toInt64, Int32.toInt_add, Int32.toInt_sub, Int32.toInt_mul, bm32, Int32.reduceToInt, Int64.reduceToInt, Nat.reduceLT, Nat.reduceEqDiff, reduceIte, w_13m0_2, w_13m0_3, w_13m0_4, w_13m0_5, w_13m0_6, w_13m0_14, w_13m0_42] at c_5
        exact ih (w_13l8 + 1) w_13l6 w_13l5 w_13l4 (f_m_quarrels w_13m0 f10 w_9l7 w_13l8 (f9 (w_9l7 : Int32).toNatClampNeg) (f8 (b_ : Int32).toNatClampNeg)) (⟨(QG.trans i_1 p_quarrels), (by first | omega | (simp (disch := omega) only [↓i_in, ↓i_isCouple, ↓i_isBridge, ↓i_isTheme, ↓i_isBarge, i_lt, i_le, i_eq, i_clamp, i_upd, i_m1, Int32.toInt_toInt64, Int32.toInt_add, Int32.toInt_sub, Int32.toInt_mul, bm32, Int32.reduceToInt, Int64.reduceToInt, Nat.reduceLT, Nat.reduceEqDiff, reduceIte, w_13m0_2, w_13m0_3, w_13m0_4, w_13m0_5, w_13m0_6, w_13m0_14, w_13m0_42] <;> omega)), (by first | omega | (simp (disch := omega) only [↓i_in, ↓i_isCouple, ↓i_isBridge, ↓i_isTheme, ↓i_isBarge, i_lt, i_le, i_eq, i_clamp, i_upd, i_m1, Int32.toInt_toInt64, Int32.toInt_add, Int32.toInt_sub, Int32.toInt_mul, bm32, Int32.reduceToInt, Int64.reduceToInt, Nat.reduceLT, Nat.reduceEqDiff, reduceIte, w_13m0_2, w_13m0_3, w_13m0_4, w_13m0_5, w_13m0_6, w_13m0_14, w_13m0_42] <;> omega))⟩) (by first | omega | (simp (disch := omega) only [↓i_in, ↓i_isCouple, ↓i_isBridge, ↓i_isTheme, ↓i_isBarge, i_lt, i_le, i_eq, i_clamp, i_upd, i_m1, Int32.toInt_toInt64, Int32.toInt_add, Int32.toInt_sub, Int32.toInt_mul, bm32, Int32.reduceToInt, Int64.reduceToInt, Nat.reduceLT, Nat.reduceEqDiff, reduceIte, w_13m0_2, w_13m0_3, w_13m0_4, w_13m0_5, w_13m0_6, w_13m0_14, w_13m0_42] <;> omega))
set_option maxHeartbeats 4000000 in
theorem pl_toldHer_50 {G : Nat → Int32} {f9 : Nat → Int32} {f10 : Nat → Int32} {f8 : Nat → Int32} {b_ : Int32} {k_ : Int32} {i_ : Int32} {w_9l7 : Int32} (h_0 : GI G) (h_1 : 0 ≤ w_9l7.toInt) (h_2 : w_9l7.toInt < 6) (h_3 : 0 ≤ b_.toInt) (h_4 : b_.toInt < 6) : ∀ (n : Nat) w_13l8 w_13l6 w_13l5 w_13l4 w_13m0, (QG G w_13m0 ∧ (0 ≤ w_13l8.toInt) ∧ (w_13l8.toInt ≤ 5)) → ∀ r0 r1 r2 r3 r4, f_m_toldHer_50 f9 f10 f8 b_ k_ i_ w_9l7 n w_13l8 w_13l6 w_13l5 w_13l4 w_13m0 = (r0, r1, r2, r3, r4) → QG G r4 ∧ (0 ≤ r0.toInt) ∧ (r0.toInt ≤ 5) := by
  have h_0_g := h_0
  obtain ⟨⟨h_0_2a, h_0_2b⟩, ⟨h_0_3a, h_0_3b⟩, ⟨h_0_4a, h_0_4b⟩, ⟨h_0_5a, h_0_5b⟩, ⟨h_0_6a, h_0_6b⟩, ⟨h_0_14a, h_0_14b⟩, ⟨h_0_42a, h_0_42b⟩⟩ := h_0_g
  intro n
  induction n with
  | zero =>
    intro w_13l8 w_13l6 w_13l5 w_13l4 w_13m0 hI r0 r1 r2 r3 r4 e
    replace e : (w_13l8, w_13l6, w_13l5, w_13l4, w_13m0) = (r0, r1, r2, r3, r4) := e
    cases e
    exact hI
  | succ n ih =>
    intro w_13l8 w_13l6 w_13l5 w_13l4 w_13m0 hI r0 r1 r2 r3 r4 e
    rw [f_m_toldHer_50_s] at e
    have hI0 := hI
    obtain ⟨i_1, i_2, i_3⟩ := hI0
    obtain ⟨w_13m0_2, w_13m0_3, w_13m0_4, w_13m0_5, w_13m0_6, w_13m0_14, w_13m0_42⟩ := QGs i_1
    by_cases c_4 : (w_13m0 4) ≤ w_13l8
    · rw [if_pos c_4] at e
      try simp (disch := omega) only [↓i_in, ↓i_isCouple, ↓i_isBridge, ↓i_isTheme, ↓i_isBarge, i_lt, i_le, i_eq, i_clamp, i_upd, i_m1, Int32.toInt_toInt64, Int32.toInt_add, Int32.toInt_sub, Int32.toInt_mul, bm32, Int32.reduceToInt, Int64.reduceToInt, Nat.reduceLT, Nat.reduceEqDiff, reduceIte, w_13m0_2, w_13m0_3, w_13m0_4, w_13m0_5, w_13m0_6, w_13m0_14, w_13m0_42] at c_4
      cases e
      exact hI
    · rw [if_neg c_4] at e
      try simp (disch := omega) only [↓i_in, ↓i_isCouple, ↓i_isBridge, ↓i_isTheme, ↓i_isBarge, i_lt, i_le, i_eq, i_clamp, i_upd, i_m1, Int32.toInt_toInt64, Int32.toInt_add, Int32.toInt_sub, Int32.toInt_mul, bm32, Int32.reduceToInt, Int64.reduceToInt, Nat.reduceLT, Nat.reduceEqDiff, reduceIte, w_13m0_2, w_13m0_3, w_13m0_4, w_13m0_5, w_13m0_6, w_13m0_14, w_13m0_42] at c_4
      by_cases c_5 : ((f_m_quarrels w_13m0 f10 w_9l7 w_13l8 (f9 (w_9l7 : Int32).toNatClampNeg) (f8 (b_ : Int32).toNatClampNeg)) 34) = 0
      · rw [if_pos c_5] at e
        try simp (disch := omega) only [↓i_in, ↓i_isCouple, ↓i_isBridge, ↓i_isTheme, ↓i_isBarge, i_lt, i_le, i_eq, i_clamp, i_upd, i_m1, Int32.toInt_toInt64, Int32.toInt_add, Int32.toInt_sub, Int32.toInt_mul, bm32, Int32.reduceToInt, Int64.reduceToInt, Nat.reduceLT, Nat.reduceEqDiff, reduceIte, w_13m0_2, w_13m0_3, w_13m0_4, w_13m0_5, w_13m0_6, w_13m0_14, w_13m0_42] at c_5
        by_cases c_6 : ((f_m_quarrels w_13m0 f10 w_9l7 w_13l8 (f9 (w_9l7 : Int32).toNatClampNeg) (f8 (b_ : Int32).toNatClampNeg)) 33) = 0
        · rw [if_pos c_6] at e
          try simp (disch := omega) only [↓i_in, ↓i_isCouple, ↓i_isBridge, ↓i_isTheme, ↓i_isBarge, i_lt, i_le, i_eq, i_clamp, i_upd, i_m1, Int32.toInt_toInt64, Int32.toInt_add, Int32.toInt_sub, Int32.toInt_mul, bm32, Int32.reduceToInt, Int64.reduceToInt, Nat.reduceLT, Nat.reduceEqDiff, reduceIte, w_13m0_2, w_13m0_3, w_13m0_4, w_13m0_5, w_13m0_6, w_13m0_14, w_13m0_42] at c_6
          by_cases c_7 : ((f_m_quarrels w_13m0 f10 w_9l7 w_13l8 (f9 (w_9l7 : Int32).toNatClampNeg) (f8 (b_ : Int32).toNatClampNeg)) 32) = k_
          · rw [if_pos c_7] at e
            try simp (disch := omega) only [↓i_in, ↓i_isCouple, ↓i_isBridge, ↓i_isTheme, ↓i_isBarge, i_lt, i_le, i_eq, i_clamp, i_upd, i_m1, Int32.toInt_toInt64, Int32.toInt_add, Int32.toInt_sub, Int32.toInt_mul, bm32, Int32.reduceToInt, Int64.reduceToInt, Nat.reduceLT, Nat.reduceEqDiff, reduceIte, w_13m0_2, w_13m0_3, w_13m0_4, w_13m0_5, w_13m0_6, w_13m0_14, w_13m0_42] at c_7
            by_cases c_8 : w_13l4 = i_
            · rw [if_pos c_8] at e
              try simp (disch := omega) only [↓i_in, ↓i_isCouple, ↓i_isBridge, ↓i_isTheme, ↓i_isBarge, i_lt, i_le, i_eq, i_clamp, i_upd, i_m1, Int32.toInt_toInt64, Int32.toInt_add, Int32.toInt_sub, Int32.toInt_mul, bm32, Int32.reduceToInt, Int64.reduceToInt, Nat.reduceLT, Nat.reduceEqDiff, reduceIte, w_13m0_2, w_13m0_3, w_13m0_4, w_13m0_5, w_13m0_6, w_13m0_14, w_13m0_42] at c_8
              exact ih (w_13l8 + 1) ((10 * w_9l7) + w_13l8) (w_13l5 ||| (1 <<< (w_13l8 &&& 31))) (w_13l4 + 1) (f_m_quarrels w_13m0 f10 w_9l7 w_13l8 (f9 (w_9l7 : Int32).toNatClampNeg) (f8 (b_ : Int32).toNatClampNeg)) (⟨(QG.trans i_1 p_quarrels), (by first | omega | (simp (disch := omega) only [↓i_in, ↓i_isCouple, ↓i_isBridge, ↓i_isTheme, ↓i_isBarge, i_lt, i_le, i_eq, i_clamp, i_upd, i_m1, Int32.toInt_toInt64, Int32.toInt_add, Int32.toInt_sub, Int32.toInt_mul, bm32, Int32.reduceToInt, Int64.reduceToInt, Nat.reduceLT, Nat.reduceEqDiff, reduceIte, w_13m0_2, w_13m0_3, w_13m0_4, w_13m0_5, w_13m0_6, w_13m0_14, w_13m0_42] <;> omega)), (by first | omega | (simp (disch := omega) only [↓i_in, ↓i_isCouple, ↓i_isBridge, ↓i_isTheme, ↓i_isBarge, i_lt, i_le, i_eq, i_clamp, i_upd, i_m1, Int32.toInt_toInt64, Int32.toInt_add, Int32.toInt_sub, Int32.toInt_mul, bm32, Int32.reduceToInt, Int64.reduceToInt, Nat.reduceLT, Nat.reduceEqDiff, reduceIte, w_13m0_2, w_13m0_3, w_13m0_4, w_13m0_5, w_13m0_6, w_13m0_14, w_13m0_42] <;> omega))⟩) _ _ _ _ _ e
            · rw [if_neg c_8] at e
              try simp (disch := omega) only [↓i_in, ↓i_isCouple, ↓i_isBridge, ↓i_isTheme, ↓i_isBarge, i_lt, i_le, i_eq, i_clamp, i_upd, i_m1, Int32.toInt_toInt64, Int32.toInt_add, Int32.toInt_sub, Int32.toInt_mul, bm32, Int32.reduceToInt, Int64.reduceToInt, Nat.reduceLT, Nat.reduceEqDiff, reduceIte, w_13m0_2, w_13m0_3, w_13m0_4, w_13m0_5, w_13m0_6, w_13m0_14, w_13m0_42] at c_8
              exact ih (w_13l8 + 1) w_13l6 (w_13l5 ||| (1 <<< (w_13l8 &&& 31))) (w_13l4 + 1) (f_m_quarrels w_13m0 f10 w_9l7 w_13l8 (f9 (w_9l7 : Int32).toNatClampNeg) (f8 (b_ : Int32).toNatClampNeg)) (⟨(QG.trans i_1 p_quarrels), (by first | omega | (simp (disch := omega) only [↓i_in, ↓i_isCouple, ↓i_isBridge, ↓i_isTheme, ↓i_isBarge, i_lt, i_le, i_eq, i_clamp, i_upd, i_m1, Int32.toInt_toInt64, Int32.toInt_add, Int32.toInt_sub, Int32.toInt_mul, bm32, Int32.reduceToInt, Int64.reduceToInt, Nat.reduceLT, Nat.reduceEqDiff, reduceIte, w_13m0_2, w_13m0_3, w_13m0_4, w_13m0_5, w_13m0_6, w_13m0_14, w_13m0_42] <;> omega)), (by first | omega | (simp (disch := omega) only [↓i_in, ↓i_isCouple, ↓i_isBridge, ↓i_isTheme, ↓i_isBarge, i_lt, i_le, i_eq, i_clamp, i_upd, i_m1, Int32.toInt_toInt64, Int32.toInt_add, Int32.toInt_sub, Int32.toInt_mul, bm32, Int32.reduceToInt, Int64.reduceToInt, Nat.reduceLT, Nat.reduceEqDiff, reduceIte, w_13m0_2, w_13m0_3, w_13m0_4, w_13m0_5, w_13m0_6, w_13m0_14, w_13m0_42] <;> omega))⟩) _ _ _ _ _ e
          · rw [if_neg c_7] at e
            try simp (disch := omega) only [↓i_in, ↓i_isCouple, ↓i_isBridge, ↓i_isTheme, ↓i_isBarge, i_lt, i_le, i_eq, i_clamp, i_upd, i_m1, Int32.toInt_toInt64, Int32.toInt_add, Int32.toInt_sub, Int32.toInt_mul, bm32, Int32.reduceToInt, Int64.reduceToInt, Nat.reduceLT, Nat.reduceEqDiff, reduceIte, w_13m0_2, w_13m0_3, w_13m0_4, w_13m0_5, w_13m0_6, w_13m0_14, w_13m0_42] at c_7
            exact ih (w_13l8 + 1) w_13l6 w_13l5 w_13l4 (f_m_quarrels w_13m0 f10 w_9l7 w_13l8 (f9 (w_9l7 : Int32).toNatClampNeg) (f8 (b_ : Int32).toNatClampNeg)) (⟨(QG.trans i_1 p_quarrels), (by first | omega | (simp (disch := omega) only [↓i_in, ↓i_isCouple, ↓i_isBridge, ↓i_isTheme, ↓i_isBarge, i_lt, i_le, i_eq, i_clamp, i_upd, i_m1, Int32.toInt_toInt64, Int32.toInt_add, Int32.toInt_sub, Int32.toInt_mul, bm32, Int32.reduceToInt, Int64.reduceToInt, Nat.reduceLT, Nat.reduceEqDiff, reduceIte, w_13m0_2, w_13m0_3, w_13m0_4, w_13m0_5, w_13m0_6, w_13m0_14, w_13m0_42] <;> omega)), (by first | omega | (simp (disch := omega) only [↓i_in, ↓i_isCouple, ↓i_isBridge, ↓i_isTheme, ↓i_isBarge, i_lt, i_le, i_eq, i_clamp, i_upd, i_m1, Int32.toInt_toInt64, Int32.toInt_add, Int32.toInt_sub, Int32.toInt_mul, bm32, Int32.reduceToInt, Int64.reduceToInt, Nat.reduceLT, Nat.reduceEqDiff, reduceIte, w_13m0_2, w_13m0_3, w_13m0_4, w_13m0_5, w_13m0_6, w_13m0_14, w_13m0_42] <;> omega))⟩) _ _ _ _ _ e
        · rw [if_neg c_6] at e
          try simp (disch := omega) only [↓i_in, ↓i_isCouple, ↓i_isBridge, ↓i_isTheme, ↓i_isBarge, i_lt, i_le, i_eq, i_clamp, i_upd, i_m1, Int32.toInt_toInt64, Int32.toInt_add, Int32.toInt_sub, Int32.toInt_mul, bm32, Int32.reduceToInt, Int64.reduceToInt, Nat.reduceLT, Nat.reduceEqDiff, reduceIte, w_13m0_2, w_13m0_3, w_13m0_4, w_13m0_5, w_13m0_6, w_13m0_14, w_13m0_42] at c_6
          exact ih (w_13l8 + 1) w_13l6 w_13l5 w_13l4 (f_m_quarrels w_13m0 f10 w_9l7 w_13l8 (f9 (w_9l7 : Int32).toNatClampNeg) (f8 (b_ : Int32).toNatClampNeg)) (⟨(QG.trans i_1 p_quarrels), (by first | omega | (simp (disch := omega) only [↓i_in, ↓i_isCouple, ↓i_isBridge, ↓i_isTheme, ↓i_isBarge, i_lt, i_le, i_eq, i_clamp, i_upd, i_m1, Int32.toInt_toInt64, Int32.toInt_add, Int32.toInt_sub, Int32.toInt_mul, bm32, Int32.reduceToInt, Int64.reduceToInt, Nat.reduceLT, Nat.reduceEqDiff, reduceIte, w_13m0_2, w_13m0_3, w_13m0_4, w_13m0_5, w_13m0_6, w_13m0_14, w_13m0_42] <;> omega)), (by first | omega | (simp (disch := omega) only [↓i_in, ↓i_isCouple, ↓i_isBridge, ↓i_isTheme, ↓i_isBarge, i_lt, i_le, i_eq, i_clamp, i_upd, i_m1, Int32.toInt_toInt64, Int32.toInt_add, Int32.toInt_sub, Int32.toInt_mul, bm32, Int32.reduceToInt, Int64.reduceToInt, Nat.reduceLT, Nat.reduceEqDiff, reduceIte, w_13m0_2, w_13m0_3, w_13m0_4, w_13m0_5, w_13m0_6, w_13m0_14, w_13m0_42] <;> omega))⟩) _ _ _ _ _ e
      · rw [if_neg c_5] at e
        try simp (disch := omega) only [↓i_in, ↓i_isCouple, ↓i_isBridge, ↓i_isTheme, ↓i_isBarge, i_lt, i_le, i_eq, i_clamp, i_upd, i_m1, Int32.toInt_toInt64, Int32.toInt_add, Int32.toInt_sub, Int32.toInt_mul, bm32, Int32.reduceToInt, Int64.reduceToInt, Nat.reduceLT, Nat.reduceEqDiff, reduceIte, w_13m0_2, w_13m0_3, w_13m0_4, w_13m0_5, w_13m0_6, w_13m0_14, w_13m0_42] at c_5
        exact ih (w_13l8 + 1) w_13l6 w_13l5 w_13l4 (f_m_quarrels w_13m0 f10 w_9l7 w_13l8 (f9 (w_9l7 : Int32).toNatClampNeg) (f8 (b_ : Int32).toNatClampNeg)) (⟨(QG.trans i_1 p_quarrels), (by first | omega | (simp (disch := omega) only [↓i_in, ↓i_isCouple, ↓i_isBridge, ↓i_isTheme, ↓i_isBarge, i_lt, i_le, i_eq, i_clamp, i_upd, i_m1, Int32.toInt_toInt64, Int32.toInt_add, Int32.toInt_sub, Int32.toInt_mul, bm32, Int32.reduceToInt, Int64.reduceToInt, Nat.reduceLT, Nat.reduceEqDiff, reduceIte, w_13m0_2, w_13m0_3, w_13m0_4, w_13m0_5, w_13m0_6, w_13m0_14, w_13m0_42] <;> omega)), (by first | omega | (simp (disch := omega) only [↓i_in, ↓i_isCouple, ↓i_isBridge, ↓i_isTheme, ↓i_isBarge, i_lt, i_le, i_eq, i_clamp, i_upd, i_m1, Int32.toInt_toInt64, Int32.toInt_add, Int32.toInt_sub, Int32.toInt_mul, bm32, Int32.reduceToInt, Int64.reduceToInt, Nat.reduceLT, Nat.reduceEqDiff, reduceIte, w_13m0_2, w_13m0_3, w_13m0_4, w_13m0_5, w_13m0_6, w_13m0_14, w_13m0_42] <;> omega))⟩) _ _ _ _ _ e
set_option maxHeartbeats 4000000 in
theorem sl_toldHer_38 {G : Nat → Int32} {f9 : Nat → Int32} {f10 : Nat → Int32} {f8 : Nat → Int32} {b_ : Int32} {k_ : Int32} {i_ : Int32} {K : Int32 → Int32 → Int32 → Int32 → (Nat → Int32) → Prop} (h_0 : GI G) (h_1 : 0 ≤ b_.toInt) (h_2 : b_.toInt < 6) (hK : ∀ w_9l7 w_9l6 w_9l5 w_9l4 w_9m0, (QG G w_9m0 ∧ (0 ≤ w_9l7.toInt) ∧ (w_9l7.toInt ≤ 6)) → K w_9l7 w_9l6 w_9l5 w_9l4 w_9m0) : ∀ (n : Nat) w_9l7 w_9l6 w_9l5 w_9l4 w_9m0, (QG G w_9m0 ∧ (0 ≤ w_9l7.toInt) ∧ (w_9l7.toInt ≤ 6)) → (7 - w_9l7.toInt).toNat < n → S_m_toldHer_38 f9 f10 f8 b_ k_ i_ K n w_9l7 w_9l6 w_9l5 w_9l4 w_9m0 := by
  have h_0_g := h_0
  obtain ⟨⟨h_0_2a, h_0_2b⟩, ⟨h_0_3a, h_0_3b⟩, ⟨h_0_4a, h_0_4b⟩, ⟨h_0_5a, h_0_5b⟩, ⟨h_0_6a, h_0_6b⟩, ⟨h_0_14a, h_0_14b⟩, ⟨h_0_42a, h_0_42b⟩⟩ := h_0_g
  intro n
  induction n with
  | zero => intro w_9l7 w_9l6 w_9l5 w_9l4 w_9m0 hI hm; exact absurd hm (Nat.not_lt_zero _)
  | succ n ih =>
    intro w_9l7 w_9l6 w_9l5 w_9l4 w_9m0 hI hm
    rw [S_m_toldHer_38_s]
    have hI0 := hI
    obtain ⟨i_1, i_2, i_3⟩ := hI0
    obtain ⟨w_9m0_2, w_9m0_3, w_9m0_4, w_9m0_5, w_9m0_6, w_9m0_14, w_9m0_42⟩ := QGs i_1
    refine ⟨fun c_4 => ?_, fun c_4 => ?_⟩
    · skip
      try simp (disch := omega) only [↓i_in, ↓i_isCouple, ↓i_isBridge, ↓i_isTheme, ↓i_isBarge, i_lt, i_le, i_eq, i_clamp, i_upd, i_m1, Int32.toInt_toInt64, Int32.toInt_add, Int32.toInt_sub, Int32.toInt_mul, bm32, Int32.reduceToInt, Int64.reduceToInt, Nat.reduceLT, Nat.reduceEqDiff, reduceIte, w_9m0_2, w_9m0_3, w_9m0_4, w_9m0_5, w_9m0_6, w_9m0_14, w_9m0_42] at c_4
      exact hK w_9l7 w_9l6 w_9l5 w_9l4 w_9m0 hI
    · skip
      try simp (disch := omega) only [↓i_in, ↓i_isCouple, ↓i_isBridge, ↓i_isTheme, ↓i_isBarge, i_lt, i_le, i_eq, i_clamp, i_upd, i_m1, Int32.toInt_toInt64, Int32.toInt_add, Int32.toInt_sub, Int32.toInt_mul, bm32, Int32.reduceToInt, Int64.reduceToInt, Nat.reduceLT, Nat.reduceEqDiff, reduceIte, w_9m0_2, w_9m0_3, w_9m0_4, w_9m0_5, w_9m0_6, w_9m0_14, w_9m0_42] at c_4
      refine sl_toldHer_50 h_0 (by first | omega | (simp (disch := omega) only [↓i_in, ↓i_isCouple, ↓i_isBridge, ↓i_isTheme, ↓i_isBarge, i_lt, i_le, i_eq, i_clamp, i_upd, i_m1, Int32.toInt_toInt64, Int32.toInt_add, Int32.toInt_sub, Int32.toInt_mul, bm32, Int32.reduceToInt, Int64.reduceToInt, Nat.reduceLT, Nat.reduceEqDiff, reduceIte, w_9m0_2, w_9m0_3, w_9m0_4, w_9m0_5, w_9m0_6, w_9m0_14, w_9m0_42] <;> omega)) (by first | omega | (simp (disch := omega) only [↓i_in, ↓i_isCouple, ↓i_isBridge, ↓i_isTheme, ↓i_isBarge, i_lt, i_le, i_eq, i_clamp, i_upd, i_m1, Int32.toInt_toInt64, Int32.toInt_add, Int32.toInt_sub, Int32.toInt_mul, bm32, Int32.reduceToInt, Int64.reduceToInt, Nat.reduceLT, Nat.reduceEqDiff, reduceIte, w_9m0_2, w_9m0_3, w_9m0_4, w_9m0_5, w_9m0_6, w_9m0_14, w_9m0_42] <;> omega)) (by first | omega | (simp (disch := omega) only [↓i_in, ↓i_isCouple, ↓i_isBridge, ↓i_isTheme, ↓i_isBarge, i_lt, i_le, i_eq, i_clamp, i_upd, i_m1, Int32.toInt_toInt64, Int32.toInt_add, Int32.toInt_sub, Int32.toInt_mul, bm32, Int32.reduceToInt, Int64.reduceToInt, Nat.reduceLT, Nat.reduceEqDiff, reduceIte, w_9m0_2, w_9m0_3, w_9m0_4, w_9m0_5, w_9m0_6, w_9m0_14, w_9m0_42] <;> omega)) (by first | omega | (simp (disch := omega) only [↓i_in, ↓i_isCouple, ↓i_isBridge, ↓i_isTheme, ↓i_isBarge, i_lt, i_le, i_eq, i_clamp, i_upd, i_m1, Int32.toInt_toInt64, Int32.toInt_add, Int32.toInt_sub, Int32.toInt_mul, bm32, Int32.reduceToInt, Int64.reduceToInt, Nat.reduceLT, Nat.reduceEqDiff, reduceIte, w_9m0_2, w_9m0_3, w_9m0_4, w_9m0_5, w_9m0_6, w_9m0_14, w_9m0_42] <;> omega)) ?_ 10 0 w_9l6 w_9l5 w_9l4 w_9m0 (⟨i_1, (by first | omega | (simp (disch := omega) only [↓i_in, ↓i_isCouple, ↓i_isBridge, ↓i_isTheme, ↓i_isBarge, i_lt, i_le, i_eq, i_clamp, i_upd, i_m1, Int32.toInt_toInt64, Int32.toInt_add, Int32.toInt_sub, Int32.toInt_mul, bm32, Int32.reduceToInt, Int64.reduceToInt, Nat.reduceLT, Nat.reduceEqDiff, reduceIte, w_9m0_2, w_9m0_3, w_9m0_4, w_9m0_5, w_9m0_6, w_9m0_14, w_9m0_42] <;> omega)), (by first | omega | (simp (disch := omega) only [↓i_in, ↓i_isCouple, ↓i_isBridge, ↓i_isTheme, ↓i_isBarge, i_lt, i_le, i_eq, i_clamp, i_upd, i_m1, Int32.toInt_toInt64, Int32.toInt_add, Int32.toInt_sub, Int32.toInt_mul, bm32, Int32.reduceToInt, Int64.reduceToInt, Nat.reduceLT, Nat.reduceEqDiff, reduceIte, w_9m0_2, w_9m0_3, w_9m0_4, w_9m0_5, w_9m0_6, w_9m0_14, w_9m0_42] <;> omega))⟩) (by first | omega | (simp (disch := omega) only [↓i_in, ↓i_isCouple, ↓i_isBridge, ↓i_isTheme, ↓i_isBarge, i_lt, i_le, i_eq, i_clamp, i_upd, i_m1, Int32.toInt_toInt64, Int32.toInt_add, Int32.toInt_sub, Int32.toInt_mul, bm32, Int32.reduceToInt, Int64.reduceToInt, Nat.reduceLT, Nat.reduceEqDiff, reduceIte, w_9m0_2, w_9m0_3, w_9m0_4, w_9m0_5, w_9m0_6, w_9m0_14, w_9m0_42] <;> omega))
      intro w_13l8 w_13l6 w_13l5 w_13l4 w_13m0 i_5
      obtain ⟨i_6, i_7, i_8⟩ := i_5
      obtain ⟨w_13m0_2, w_13m0_3, w_13m0_4, w_13m0_5, w_13m0_6, w_13m0_14, w_13m0_42⟩ := QGs i_6
      exact ih (w_9l7 + 1) w_13l6 w_13l5 w_13l4 w_13m0 (⟨i_6, (by first | omega | (simp (disch := omega) only [↓i_in, ↓i_isCouple, ↓i_isBridge, ↓i_isTheme, ↓i_isBarge, i_lt, i_le, i_eq, i_clamp, i_upd, i_m1, Int32.toInt_toInt64, Int32.toInt_add, Int32.toInt_sub, Int32.toInt_mul, bm32, Int32.reduceToInt, Int64.reduceToInt, Nat.reduceLT, Nat.reduceEqDiff, reduceIte, w_9m0_2, w_9m0_3, w_9m0_4, w_9m0_5, w_9m0_6, w_9m0_14, w_9m0_42, w_13m0_2, w_13m0_3, w_13m0_4, w_13m0_5, w_13m0_6, w_13m0_14, w_13m0_42] <;> omega)), (by first | omega | (simp (disch := omega) only [↓i_in, ↓i_isCouple, ↓i_isBridge, ↓i_isTheme, ↓i_isBarge, i_lt, i_le, i_eq, i_clamp, i_upd, i_m1, Int32.toInt_toInt64, Int32.toInt_add, Int32.toInt_sub, Int32.toInt_mul, bm32, Int32.reduceToInt, Int64.reduceToInt, Nat.reduceLT, Nat.reduceEqDiff, reduceIte, w_9m0_2, w_9m0_3, w_9m0_4, w_9m0_5, w_9m0_6, w_9m0_14, w_9m0_42, w_13m0_2, w_13m0_3, w_13m0_4, w_13m0_5, w_13m0_6, w_13m0_14, w_13m0_42] <;> omega))⟩) (by first | omega | (simp (disch := omega) only [↓i_in, ↓i_isCouple, ↓i_isBridge, ↓i_isTheme, ↓i_isBarge, i_lt, i_le, i_eq, i_clamp, i_upd, i_m1, Int32.toInt_toInt64, Int32.toInt_add, Int32.toInt_sub, Int32.toInt_mul, bm32, Int32.reduceToInt, Int64.reduceToInt, Nat.reduceLT, Nat.reduceEqDiff, reduceIte, w_9m0_2, w_9m0_3, w_9m0_4, w_9m0_5, w_9m0_6, w_9m0_14, w_9m0_42, w_13m0_2, w_13m0_3, w_13m0_4, w_13m0_5, w_13m0_6, w_13m0_14, w_13m0_42] <;> omega))
set_option maxHeartbeats 4000000 in
theorem pl_toldHer_38 {G : Nat → Int32} {f9 : Nat → Int32} {f10 : Nat → Int32} {f8 : Nat → Int32} {b_ : Int32} {k_ : Int32} {i_ : Int32} (h_0 : GI G) (h_1 : 0 ≤ b_.toInt) (h_2 : b_.toInt < 6) : ∀ (n : Nat) w_9l7 w_9l6 w_9l5 w_9l4 w_9m0, (QG G w_9m0 ∧ (0 ≤ w_9l7.toInt) ∧ (w_9l7.toInt ≤ 6)) → ∀ r0 r1 r2 r3 r4, f_m_toldHer_38 f9 f10 f8 b_ k_ i_ n w_9l7 w_9l6 w_9l5 w_9l4 w_9m0 = (r0, r1, r2, r3, r4) → QG G r4 ∧ (0 ≤ r0.toInt) ∧ (r0.toInt ≤ 6) := by
  have h_0_g := h_0
  obtain ⟨⟨h_0_2a, h_0_2b⟩, ⟨h_0_3a, h_0_3b⟩, ⟨h_0_4a, h_0_4b⟩, ⟨h_0_5a, h_0_5b⟩, ⟨h_0_6a, h_0_6b⟩, ⟨h_0_14a, h_0_14b⟩, ⟨h_0_42a, h_0_42b⟩⟩ := h_0_g
  intro n
  induction n with
  | zero =>
    intro w_9l7 w_9l6 w_9l5 w_9l4 w_9m0 hI r0 r1 r2 r3 r4 e
    replace e : (w_9l7, w_9l6, w_9l5, w_9l4, w_9m0) = (r0, r1, r2, r3, r4) := e
    cases e
    exact hI
  | succ n ih =>
    intro w_9l7 w_9l6 w_9l5 w_9l4 w_9m0 hI r0 r1 r2 r3 r4 e
    rw [f_m_toldHer_38_s] at e
    have hI0 := hI
    obtain ⟨i_1, i_2, i_3⟩ := hI0
    obtain ⟨w_9m0_2, w_9m0_3, w_9m0_4, w_9m0_5, w_9m0_6, w_9m0_14, w_9m0_42⟩ := QGs i_1
    by_cases c_4 : (w_9m0 5) ≤ w_9l7
    · rw [if_pos c_4] at e
      try simp (disch := omega) only [↓i_in, ↓i_isCouple, ↓i_isBridge, ↓i_isTheme, ↓i_isBarge, i_lt, i_le, i_eq, i_clamp, i_upd, i_m1, Int32.toInt_toInt64, Int32.toInt_add, Int32.toInt_sub, Int32.toInt_mul, bm32, Int32.reduceToInt, Int64.reduceToInt, Nat.reduceLT, Nat.reduceEqDiff, reduceIte, w_9m0_2, w_9m0_3, w_9m0_4, w_9m0_5, w_9m0_6, w_9m0_14, w_9m0_42] at c_4
      cases e
      exact hI
    · rw [if_neg c_4] at e
      try simp (disch := omega) only [↓i_in, ↓i_isCouple, ↓i_isBridge, ↓i_isTheme, ↓i_isBarge, i_lt, i_le, i_eq, i_clamp, i_upd, i_m1, Int32.toInt_toInt64, Int32.toInt_add, Int32.toInt_sub, Int32.toInt_mul, bm32, Int32.reduceToInt, Int64.reduceToInt, Nat.reduceLT, Nat.reduceEqDiff, reduceIte, w_9m0_2, w_9m0_3, w_9m0_4, w_9m0_5, w_9m0_6, w_9m0_14, w_9m0_42] at c_4
      generalize x_5 : (f_m_toldHer_50 f9 f10 f8 b_ k_ i_ w_9l7 10 0 w_9l6 w_9l5 w_9l4 w_9m0) = z_6 at e
      obtain ⟨w_13l8, w_13l6, w_13l5, w_13l4, w_13m0⟩ := z_6
      replace e : ((f_m_toldHer_38 f9 f10 f8 b_ k_ i_ n (w_9l7 + 1) w_13l6 w_13l5 w_13l4 w_13m0)) = (r0, r1, r2, r3, r4) := e
      have p_7 := pl_toldHer_50 h_0 (by first | omega | (simp (disch := omega) only [↓i_in, ↓i_isCouple, ↓i_isBridge, ↓i_isTheme, ↓i_isBarge, i_lt, i_le, i_eq, i_clamp, i_upd, i_m1, Int32.toInt_toInt64, Int32.toInt_add, Int32.toInt_sub, Int32.toInt_mul, bm32, Int32.reduceToInt, Int64.reduceToInt, Nat.reduceLT, Nat.reduceEqDiff, reduceIte, w_9m0_2, w_9m0_3, w_9m0_4, w_9m0_5, w_9m0_6, w_9m0_14, w_9m0_42] <;> omega)) (by first | omega | (simp (disch := omega) only [↓i_in, ↓i_isCouple, ↓i_isBridge, ↓i_isTheme, ↓i_isBarge, i_lt, i_le, i_eq, i_clamp, i_upd, i_m1, Int32.toInt_toInt64, Int32.toInt_add, Int32.toInt_sub, Int32.toInt_mul, bm32, Int32.reduceToInt, Int64.reduceToInt, Nat.reduceLT, Nat.reduceEqDiff, reduceIte, w_9m0_2, w_9m0_3, w_9m0_4, w_9m0_5, w_9m0_6, w_9m0_14, w_9m0_42] <;> omega)) (by first | omega | (simp (disch := omega) only [↓i_in, ↓i_isCouple, ↓i_isBridge, ↓i_isTheme, ↓i_isBarge, i_lt, i_le, i_eq, i_clamp, i_upd, i_m1, Int32.toInt_toInt64, Int32.toInt_add, Int32.toInt_sub, Int32.toInt_mul, bm32, Int32.reduceToInt, Int64.reduceToInt, Nat.reduceLT, Nat.reduceEqDiff, reduceIte, w_9m0_2, w_9m0_3, w_9m0_4, w_9m0_5, w_9m0_6, w_9m0_14, w_9m0_42] <;> omega)) (by first | omega | (simp (disch := omega) only [↓i_in, ↓i_isCouple, ↓i_isBridge, ↓i_isTheme, ↓i_isBarge, i_lt, i_le, i_eq, i_clamp, i_upd, i_m1, Int32.toInt_toInt64, Int32.toInt_add, Int32.toInt_sub, Int32.toInt_mul, bm32, Int32.reduceToInt, Int64.reduceToInt, Nat.reduceLT, Nat.reduceEqDiff, reduceIte, w_9m0_2, w_9m0_3, w_9m0_4, w_9m0_5, w_9m0_6, w_9m0_14, w_9m0_42] <;> omega)) 10 0 w_9l6 w_9l5 w_9l4 w_9m0 (⟨i_1, (by first | omega | (simp (disch := omega) only [↓i_in, ↓i_isCouple, ↓i_isBridge, ↓i_isTheme, ↓i_isBarge, i_lt, i_le, i_eq, i_clamp, i_upd, i_m1, Int32.toInt_toInt64, Int32.toInt_add, Int32.toInt_sub, Int32.toInt_mul, bm32, Int32.reduceToInt, Int64.reduceToInt, Nat.reduceLT, Nat.reduceEqDiff, reduceIte, w_9m0_2, w_9m0_3, w_9m0_4, w_9m0_5, w_9m0_6, w_9m0_14, w_9m0_42] <;> omega)), (by first | omega | (simp (disch := omega) only [↓i_in, ↓i_isCouple, ↓i_isBridge, ↓i_isTheme, ↓i_isBarge, i_lt, i_le, i_eq, i_clamp, i_upd, i_m1, Int32.toInt_toInt64, Int32.toInt_add, Int32.toInt_sub, Int32.toInt_mul, bm32, Int32.reduceToInt, Int64.reduceToInt, Nat.reduceLT, Nat.reduceEqDiff, reduceIte, w_9m0_2, w_9m0_3, w_9m0_4, w_9m0_5, w_9m0_6, w_9m0_14, w_9m0_42] <;> omega))⟩) _ _ _ _ _ x_5
      obtain ⟨i_8, i_9, i_10⟩ := p_7
      obtain ⟨w_13m0_2, w_13m0_3, w_13m0_4, w_13m0_5, w_13m0_6, w_13m0_14, w_13m0_42⟩ := QGs i_8
      exact ih (w_9l7 + 1) w_13l6 w_13l5 w_13l4 w_13m0 (⟨i_8, (by first | omega | (simp (disch := omega) only [↓i_in, ↓i_isCouple, ↓i_isBridge, ↓i_isTheme, ↓i_isBarge, i_lt, i_le, i_eq, i_clamp, i_upd, i_m1, Int32.toInt_toInt64, Int32.toInt_add, Int32.toInt_sub, Int32.toInt_mul, bm32, Int32.reduceToInt, Int64.reduceToInt, Nat.reduceLT, Nat.reduceEqDiff, reduceIte, w_9m0_2, w_9m0_3, w_9m0_4, w_9m0_5, w_9m0_6, w_9m0_14, w_9m0_42, w_13m0_2, w_13m0_3, w_13m0_4, w_13m0_5, w_13m0_6, w_13m0_14, w_13m0_42] <;> omega)), (by first | omega | (simp (disch := omega) only [↓i_in, ↓i_isCouple, ↓i_isBridge, ↓i_isTheme, ↓i_isBarge, i_lt, i_le, i_eq, i_clamp, i_upd, i_m1, Int32.toInt_toInt64, Int32.toInt_add, Int32.toInt_sub, Int32.toInt_mul, bm32, Int32.reduceToInt, Int64.reduceToInt, Nat.reduceLT, Nat.reduceEqDiff, reduceIte, w_9m0_2, w_9m0_3, w_9m0_4, w_9m0_5, w_9m0_6, w_9m0_14, w_9m0_42, w_13m0_2, w_13m0_3, w_13m0_4, w_13m0_5, w_13m0_6, w_13m0_14, w_13m0_42] <;> omega))⟩) _ _ _ _ _ e
set_option maxHeartbeats 4000000 in
theorem s_toldHer {G : Nat → Int32} {f9 : Nat → Int32} {f10 : Nat → Int32} {f8 : Nat → Int32} {b_ : Int32} {k_ : Int32} {i_ : Int32} (h_0 : GI G) : S_m_toldHer G f9 f10 f8 b_ k_ i_ := by
  unfold S_m_toldHer
  have h_0_g := h_0
  obtain ⟨⟨h_0_2a, h_0_2b⟩, ⟨h_0_3a, h_0_3b⟩, ⟨h_0_4a, h_0_4b⟩, ⟨h_0_5a, h_0_5b⟩, ⟨h_0_6a, h_0_6b⟩, ⟨h_0_14a, h_0_14b⟩, ⟨h_0_42a, h_0_42b⟩⟩ := h_0_g
  refine ⟨s_isBridge, ?_⟩
  refine ⟨fun c_1 => ?_, fun c_1 => ?_⟩
  · exact trivial
  · skip
    try simp (disch := omega) only [↓i_in, ↓i_isCouple, ↓i_isBridge, ↓i_isTheme, ↓i_isBarge, i_lt, i_le, i_eq, i_clamp, i_upd, i_m1, Int32.toInt_toInt64, Int32.toInt_add, Int32.toInt_sub, Int32.toInt_mul, bm32, Int32.reduceToInt, Int64.reduceToInt, Nat.reduceLT, Nat.reduceEqDiff, reduceIte] at c_1
    refine ⟨s_in, ?_⟩
    refine ⟨fun c_2 => ?_, fun c_2 => ?_⟩
    · exact trivial
    · skip
      try simp (disch := omega) only [↓i_in, ↓i_isCouple, ↓i_isBridge, ↓i_isTheme, ↓i_isBarge, i_lt, i_le, i_eq, i_clamp, i_upd, i_m1, Int32.toInt_toInt64, Int32.toInt_add, Int32.toInt_sub, Int32.toInt_mul, bm32, Int32.reduceToInt, Int64.reduceToInt, Nat.reduceLT, Nat.reduceEqDiff, reduceIte] at c_2
      refine sl_toldHer_38 h_0 (by first | omega | (simp (disch := omega) only [↓i_in, ↓i_isCouple, ↓i_isBridge, ↓i_isTheme, ↓i_isBarge, i_lt, i_le, i_eq, i_clamp, i_upd, i_m1, Int32.toInt_toInt64, Int32.toInt_add, Int32.toInt_sub, Int32.toInt_mul, bm32, Int32.reduceToInt, Int64.reduceToInt, Nat.reduceLT, Nat.reduceEqDiff, reduceIte] <;> omega)) (by first | omega | (simp (disch := omega) only [↓i_in, ↓i_isCouple, ↓i_isBridge, ↓i_isTheme, ↓i_isBarge, i_lt, i_le, i_eq, i_clamp, i_upd, i_m1, Int32.toInt_toInt64, Int32.toInt_add, Int32.toInt_sub, Int32.toInt_mul, bm32, Int32.reduceToInt, Int64.reduceToInt, Nat.reduceLT, Nat.reduceEqDiff, reduceIte] <;> omega)) ?_ 10 0 (-1) 0 0 G (⟨(QG.refl _), (by first | omega | (simp (disch := omega) only [↓i_in, ↓i_isCouple, ↓i_isBridge, ↓i_isTheme, ↓i_isBarge, i_lt, i_le, i_eq, i_clamp, i_upd, i_m1, Int32.toInt_toInt64, Int32.toInt_add, Int32.toInt_sub, Int32.toInt_mul, bm32, Int32.reduceToInt, Int64.reduceToInt, Nat.reduceLT, Nat.reduceEqDiff, reduceIte] <;> omega)), (by first | omega | (simp (disch := omega) only [↓i_in, ↓i_isCouple, ↓i_isBridge, ↓i_isTheme, ↓i_isBarge, i_lt, i_le, i_eq, i_clamp, i_upd, i_m1, Int32.toInt_toInt64, Int32.toInt_add, Int32.toInt_sub, Int32.toInt_mul, bm32, Int32.reduceToInt, Int64.reduceToInt, Nat.reduceLT, Nat.reduceEqDiff, reduceIte] <;> omega))⟩) (by first | omega | (simp (disch := omega) only [↓i_in, ↓i_isCouple, ↓i_isBridge, ↓i_isTheme, ↓i_isBarge, i_lt, i_le, i_eq, i_clamp, i_upd, i_m1, Int32.toInt_toInt64, Int32.toInt_add, Int32.toInt_sub, Int32.toInt_mul, bm32, Int32.reduceToInt, Int64.reduceToInt, Nat.reduceLT, Nat.reduceEqDiff, reduceIte] <;> omega))
      intro w_9l7 w_9l6 w_9l5 w_9l4 w_9m0 i_3
      obtain ⟨i_4, i_5, i_6⟩ := i_3
      obtain ⟨w_9m0_2, w_9m0_3, w_9m0_4, w_9m0_5, w_9m0_6, w_9m0_14, w_9m0_42⟩ := QGs i_4
      refine ⟨fun c_7 => ?_, fun c_7 => ?_⟩
      · exact trivial
      · skip
        try simp (disch := omega) only [↓i_in, ↓i_isCouple, ↓i_isBridge, ↓i_isTheme, ↓i_isBarge, i_lt, i_le, i_eq, i_clamp, i_upd, i_m1, Int32.toInt_toInt64, Int32.toInt_add, Int32.toInt_sub, Int32.toInt_mul, bm32, Int32.reduceToInt, Int64.reduceToInt, Nat.reduceLT, Nat.reduceEqDiff, reduceIte, w_9m0_2, w_9m0_3, w_9m0_4, w_9m0_5, w_9m0_6, w_9m0_14, w_9m0_42] at c_7
        refine ⟨fun c_8 => ?_, fun c_8 => ?_⟩
        · exact trivial
        · exact trivial
set_option maxHeartbeats 4000000 in
theorem p_toldHer {G : Nat → Int32} {f9 : Nat → Int32} {f10 : Nat → Int32} {f8 : Nat → Int32} {b_ : Int32} {k_ : Int32} {i_ : Int32} (h_0 : GI G) : ∀ (r : Int32) (u : (Nat → Int32)), f_m_toldHer G f9 f10 f8 b_ k_ i_ = (r, u) → QG G u := by
  have h_0_g := h_0
  obtain ⟨⟨h_0_2a, h_0_2b⟩, ⟨h_0_3a, h_0_3b⟩, ⟨h_0_4a, h_0_4b⟩, ⟨h_0_5a, h_0_5b⟩, ⟨h_0_6a, h_0_6b⟩, ⟨h_0_14a, h_0_14b⟩, ⟨h_0_42a, h_0_42b⟩⟩ := h_0_g
  intro r u e
  unfold f_m_toldHer at e
  by_cases c_1 : (f_m_isBridge G b_) = 0
  · rw [if_pos c_1] at e
    try simp (disch := omega) only [↓i_in, ↓i_isCouple, ↓i_isBridge, ↓i_isTheme, ↓i_isBarge, i_lt, i_le, i_eq, i_clamp, i_upd, i_m1, Int32.toInt_toInt64, Int32.toInt_add, Int32.toInt_sub, Int32.toInt_mul, bm32, Int32.reduceToInt, Int64.reduceToInt, Nat.reduceLT, Nat.reduceEqDiff, reduceIte] at c_1
    cases e
    exact (QG.refl _)
  · rw [if_neg c_1] at e
    try simp (disch := omega) only [↓i_in, ↓i_isCouple, ↓i_isBridge, ↓i_isTheme, ↓i_isBarge, i_lt, i_le, i_eq, i_clamp, i_upd, i_m1, Int32.toInt_toInt64, Int32.toInt_add, Int32.toInt_sub, Int32.toInt_mul, bm32, Int32.reduceToInt, Int64.reduceToInt, Nat.reduceLT, Nat.reduceEqDiff, reduceIte] at c_1
    by_cases c_2 : (f_m_in k_.toInt64 1 60) = 0
    · rw [if_pos c_2] at e
      try simp (disch := omega) only [↓i_in, ↓i_isCouple, ↓i_isBridge, ↓i_isTheme, ↓i_isBarge, i_lt, i_le, i_eq, i_clamp, i_upd, i_m1, Int32.toInt_toInt64, Int32.toInt_add, Int32.toInt_sub, Int32.toInt_mul, bm32, Int32.reduceToInt, Int64.reduceToInt, Nat.reduceLT, Nat.reduceEqDiff, reduceIte] at c_2
      cases e
      exact (QG.refl _)
    · rw [if_neg c_2] at e
      try simp (disch := omega) only [↓i_in, ↓i_isCouple, ↓i_isBridge, ↓i_isTheme, ↓i_isBarge, i_lt, i_le, i_eq, i_clamp, i_upd, i_m1, Int32.toInt_toInt64, Int32.toInt_add, Int32.toInt_sub, Int32.toInt_mul, bm32, Int32.reduceToInt, Int64.reduceToInt, Nat.reduceLT, Nat.reduceEqDiff, reduceIte] at c_2
      generalize x_3 : (f_m_toldHer_38 f9 f10 f8 b_ k_ i_ 10 0 (-1) 0 0 G) = z_4 at e
      obtain ⟨w_9l7, w_9l6, w_9l5, w_9l4, w_9m0⟩ := z_4
      replace e : ((if i_ = (-1) then (w_9l4, w_9m0) else (if i_ = (-2) then (w_9l5, w_9m0) else (w_9l6, w_9m0)))) = (r, u) := e
      have p_5 := pl_toldHer_38 h_0 (by first | omega | (simp (disch := omega) only [↓i_in, ↓i_isCouple, ↓i_isBridge, ↓i_isTheme, ↓i_isBarge, i_lt, i_le, i_eq, i_clamp, i_upd, i_m1, Int32.toInt_toInt64, Int32.toInt_add, Int32.toInt_sub, Int32.toInt_mul, bm32, Int32.reduceToInt, Int64.reduceToInt, Nat.reduceLT, Nat.reduceEqDiff, reduceIte] <;> omega)) (by first | omega | (simp (disch := omega) only [↓i_in, ↓i_isCouple, ↓i_isBridge, ↓i_isTheme, ↓i_isBarge, i_lt, i_le, i_eq, i_clamp, i_upd, i_m1, Int32.toInt_toInt64, Int32.toInt_add, Int32.toInt_sub, Int32.toInt_mul, bm32, Int32.reduceToInt, Int64.reduceToInt, Nat.reduceLT, Nat.reduceEqDiff, reduceIte] <;> omega)) 10 0 (-1) 0 0 G (⟨(QG.refl _), (by first | omega | (simp (disch := omega) only [↓i_in, ↓i_isCouple, ↓i_isBridge, ↓i_isTheme, ↓i_isBarge, i_lt, i_le, i_eq, i_clamp, i_upd, i_m1, Int32.toInt_toInt64, Int32.toInt_add, Int32.toInt_sub, Int32.toInt_mul, bm32, Int32.reduceToInt, Int64.reduceToInt, Nat.reduceLT, Nat.reduceEqDiff, reduceIte] <;> omega)), (by first | omega | (simp (disch := omega) only [↓i_in, ↓i_isCouple, ↓i_isBridge, ↓i_isTheme, ↓i_isBarge, i_lt, i_le, i_eq, i_clamp, i_upd, i_m1, Int32.toInt_toInt64, Int32.toInt_add, Int32.toInt_sub, Int32.toInt_mul, bm32, Int32.reduceToInt, Int64.reduceToInt, Nat.reduceLT, Nat.reduceEqDiff, reduceIte] <;> omega))⟩) _ _ _ _ _ x_3
      obtain ⟨i_6, i_7, i_8⟩ := p_5
      obtain ⟨w_9m0_2, w_9m0_3, w_9m0_4, w_9m0_5, w_9m0_6, w_9m0_14, w_9m0_42⟩ := QGs i_6
      by_cases c_9 : i_ = (-1)
      · rw [if_pos c_9] at e
        try simp (disch := omega) only [↓i_in, ↓i_isCouple, ↓i_isBridge, ↓i_isTheme, ↓i_isBarge, i_lt, i_le, i_eq, i_clamp, i_upd, i_m1, Int32.toInt_toInt64, Int32.toInt_add, Int32.toInt_sub, Int32.toInt_mul, bm32, Int32.reduceToInt, Int64.reduceToInt, Nat.reduceLT, Nat.reduceEqDiff, reduceIte, w_9m0_2, w_9m0_3, w_9m0_4, w_9m0_5, w_9m0_6, w_9m0_14, w_9m0_42] at c_9
        cases e
        exact i_6
      · rw [if_neg c_9] at e
        try simp (disch := omega) only [↓i_in, ↓i_isCouple, ↓i_isBridge, ↓i_isTheme, ↓i_isBarge, i_lt, i_le, i_eq, i_clamp, i_upd, i_m1, Int32.toInt_toInt64, Int32.toInt_add, Int32.toInt_sub, Int32.toInt_mul, bm32, Int32.reduceToInt, Int64.reduceToInt, Nat.reduceLT, Nat.reduceEqDiff, reduceIte, w_9m0_2, w_9m0_3, w_9m0_4, w_9m0_5, w_9m0_6, w_9m0_14, w_9m0_42] at c_9
        by_cases c_10 : i_ = (-2)
        · rw [if_pos c_10] at e
          try simp (disch := omega) only [↓i_in, ↓i_isCouple, ↓i_isBridge, ↓i_isTheme, ↓i_isBarge, i_lt, i_le, i_eq, i_clamp, i_upd, i_m1, Int32.toInt_toInt64, Int32.toInt_add, Int32.toInt_sub, Int32.toInt_mul, bm32, Int32.reduceToInt, Int64.reduceToInt, Nat.reduceLT, Nat.reduceEqDiff, reduceIte, w_9m0_2, w_9m0_3, w_9m0_4, w_9m0_5, w_9m0_6, w_9m0_14, w_9m0_42] at c_10
          cases e
          exact i_6
        · rw [if_neg c_10] at e
          try simp (disch := omega) only [↓i_in, ↓i_isCouple, ↓i_isBridge, ↓i_isTheme, ↓i_isBarge, i_lt, i_le, i_eq, i_clamp, i_upd, i_m1, Int32.toInt_toInt64, Int32.toInt_add, Int32.toInt_sub, Int32.toInt_mul, bm32, Int32.reduceToInt, Int64.reduceToInt, Nat.reduceLT, Nat.reduceEqDiff, reduceIte, w_9m0_2, w_9m0_3, w_9m0_4, w_9m0_5, w_9m0_6, w_9m0_14, w_9m0_42] at c_10
          cases e
          exact i_6
end
