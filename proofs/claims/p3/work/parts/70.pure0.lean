theorem bm32 {z : Int} (h1 : -2147483648 ≤ z) (h2 : z < 2147483648) : z.bmod (2 ^ 32) = z := by
  rw [Int.bmod_eq_of_le] <;> omega
theorem i_lt (a b : Int32) : a < b ↔ a.toInt < b.toInt := Int32.lt_iff_toInt_lt
theorem i_le (a b : Int32) : a ≤ b ↔ a.toInt ≤ b.toInt := Int32.le_iff_toInt_le
theorem i_eq (a b : Int32) : a = b ↔ a.toInt = b.toInt := Int32.toInt_inj.symm
theorem i_clamp (a : Int32) : a.toNatClampNeg = a.toInt.toNat := rfl
theorem i_m1 : (-1 : Int32).toInt = -1 := by decide
theorem i_upd (f : Nat → Int32) (k j : Nat) (x : Int32) : upd f k x j = if j = k then x else f j := rfl
theorem i_in (x y z : Int64) : f_m_in x y z = 0 ↔ ¬ (y.toInt ≤ x.toInt ∧ x.toInt ≤ z.toInt) := by
  unfold f_m_in
  rw [← Int64.le_iff_toInt_le, ← Int64.le_iff_toInt_le]
  by_cases h : lg_cmp x y < 0
  · rw [if_pos h]
    have h2 := (lg_cmp_lt x y).mp h
    refine ⟨fun _ q => ?_, fun _ => rfl⟩
    exact absurd q.1 (Int64.not_le.mpr h2)
  · rw [if_neg h]
    have h2 : y ≤ x := Int64.not_lt.mp (fun q => h ((lg_cmp_lt x y).mpr q))
    by_cases h3 : 0 < lg_cmp x z
    · rw [if_pos h3]
      have h4 := (lg_cmp_gt x z).mp h3
      exact ⟨fun _ q => absurd q.2 (Int64.not_le.mpr h4), fun _ => rfl⟩
    · rw [if_neg h3]
      have h4 : x ≤ z := Int64.not_lt.mp (fun q => h3 ((lg_cmp_gt x z).mpr q))
      exact ⟨fun q => absurd q (by decide), fun q => absurd ⟨h2, h4⟩ q⟩
theorem i_isCouple (G : Nat → Int32) (v : Int32) : f_m_isCouple G v = 0 ↔ ¬ (0 ≤ v.toInt ∧ v.toInt ≤ (G 5 - 1).toInt) := by
  unfold f_m_isCouple
  rw [i_in, Int32.toInt_toInt64, Int32.toInt_toInt64]
  exact Iff.rfl
theorem i_isBridge (G : Nat → Int32) (v : Int32) : f_m_isBridge G v = 0 ↔ ¬ (0 ≤ v.toInt ∧ v.toInt ≤ (G 3 - 1).toInt) := by
  unfold f_m_isBridge
  rw [i_in, Int32.toInt_toInt64, Int32.toInt_toInt64]
  exact Iff.rfl
theorem i_isTheme (G : Nat → Int32) (v : Int32) : f_m_isTheme G v = 0 ↔ ¬ (0 ≤ v.toInt ∧ v.toInt ≤ (G 4 - 1).toInt) := by
  unfold f_m_isTheme
  rw [i_in, Int32.toInt_toInt64, Int32.toInt_toInt64]
  exact Iff.rfl
theorem i_isBarge (G : Nat → Int32) (v : Int32) : f_m_isBarge G v = 0 ↔ ¬ (0 ≤ v.toInt ∧ v.toInt ≤ (G 6 - 1).toInt) := by
  unfold f_m_isBarge
  rw [i_in, Int32.toInt_toInt64, Int32.toInt_toInt64]
  exact Iff.rfl
def QG (G H : Nat → Int32) : Prop := ∀ k, k < 32 ∨ 36 ≤ k → H k = G k
theorem QG.refl (G : Nat → Int32) : QG G G := fun _ _ => rfl
theorem QG.trans {A B C : Nat → Int32} (h : QG A B) (q : QG B C) : QG A C := fun k hk => (q k hk).trans (h k hk)
theorem QG_upd {A B : Nat → Int32} {k : Nat} {x : Int32} (h : QG A B) (h1 : 32 ≤ k) (h2 : k < 36) : QG A (upd B k x) := fun j hj => (pk_un (by omega)).trans (h j hj)
theorem QGs {G H : Nat → Int32} (h : QG G H) : H 2 = G 2 ∧ H 3 = G 3 ∧ H 4 = G 4 ∧ H 5 = G 5 ∧ H 6 = G 6 ∧ H 14 = G 14 ∧ H 42 = G 42 := ⟨h 2 (by decide), h 3 (by decide), h 4 (by decide), h 5 (by decide), h 6 (by decide), h 14 (by decide), h 42 (by decide)⟩
def GI (G : Nat → Int32) : Prop := (0 ≤ (G 2).toInt ∧ (G 2).toInt ≤ 20) ∧ (0 ≤ (G 3).toInt ∧ (G 3).toInt ≤ 6) ∧ (0 ≤ (G 4).toInt ∧ (G 4).toInt ≤ 5) ∧ (0 ≤ (G 5).toInt ∧ (G 5).toInt ≤ 6) ∧ (0 ≤ (G 6).toInt ∧ (G 6).toInt ≤ 7) ∧ (0 ≤ (G 14).toInt ∧ (G 14).toInt ≤ 240) ∧ (0 ≤ (G 42).toInt ∧ (G 42).toInt ≤ 15)
theorem GI.of {G H : Nat → Int32} (q : QG G H) (h : GI G) : GI H := by
  obtain ⟨a, b, c, d, e, f, g⟩ := QGs q
  unfold GI
  rw [a, b, c, d, e, f, g]
  exact h
def QF (G H : Nat → Int32) : Prop := ∀ k, k < 32 ∨ k = 42 → H k = G k
theorem QG.w {G H : Nat → Int32} (h : QG G H) : QF G H := fun k hk => h k (by omega)
theorem QF.refl (G : Nat → Int32) : QF G G := fun _ _ => rfl
theorem QF.trans {A B C : Nat → Int32} (h : QF A B) (q : QF B C) : QF A C := fun k hk => (q k hk).trans (h k hk)
theorem QF_upd {A B : Nat → Int32} {k : Nat} {x : Int32} (h : QF A B) (h1 : 32 ≤ k) (h2 : k ≠ 42) : QF A (upd B k x) := fun j hj => (pk_un (by omega)).trans (h j hj)
theorem QFs {G H : Nat → Int32} (h : QF G H) : H 2 = G 2 ∧ H 3 = G 3 ∧ H 4 = G 4 ∧ H 5 = G 5 ∧ H 6 = G 6 ∧ H 14 = G 14 ∧ H 42 = G 42 := ⟨h 2 (by decide), h 3 (by decide), h 4 (by decide), h 5 (by decide), h 6 (by decide), h 14 (by decide), h 42 (by decide)⟩
theorem GI.off {G H : Nat → Int32} (q : QF G H) (h : GI G) : GI H := by
  obtain ⟨a, b, c, d, e, f, g⟩ := QFs q
  unfold GI
  rw [a, b, c, d, e, f, g]
  exact h
theorem GI_upd {G : Nat → Int32} {k : Nat} {x : Int32} (h : GI G) (hk : k ≠ 2 ∧ k ≠ 3 ∧ k ≠ 4 ∧ k ≠ 5 ∧ k ≠ 6 ∧ k ≠ 14 ∧ k ≠ 42) : GI (upd G k x) := by
  unfold GI
  rw [pk_un (f := G) hk.1.symm, pk_un (f := G) hk.2.1.symm, pk_un (f := G) hk.2.2.1.symm, pk_un (f := G) hk.2.2.2.1.symm, pk_un (f := G) hk.2.2.2.2.1.symm, pk_un (f := G) hk.2.2.2.2.2.1.symm, pk_un (f := G) hk.2.2.2.2.2.2.symm]
  exact h
theorem GI_u2 {G : Nat → Int32} {x : Int32} (h : GI G) (h1 : 0 ≤ x.toInt) (h2 : x.toInt ≤ 20) : GI (upd G 2 x) := by
  obtain ⟨⟨a1, a2⟩, ⟨b1, b2⟩, ⟨c1, c2⟩, ⟨d1, d2⟩, ⟨e1, e2⟩, ⟨f1, f2⟩, ⟨g1, g2⟩⟩ := h
  unfold GI
  simp only [i_upd, Nat.reduceEqDiff, reduceIte]
  omega
theorem GI_u3 {G : Nat → Int32} {x : Int32} (h : GI G) (h1 : 0 ≤ x.toInt) (h2 : x.toInt ≤ 6) : GI (upd G 3 x) := by
  obtain ⟨⟨a1, a2⟩, ⟨b1, b2⟩, ⟨c1, c2⟩, ⟨d1, d2⟩, ⟨e1, e2⟩, ⟨f1, f2⟩, ⟨g1, g2⟩⟩ := h
  unfold GI
  simp only [i_upd, Nat.reduceEqDiff, reduceIte]
  omega
theorem GI_u4 {G : Nat → Int32} {x : Int32} (h : GI G) (h1 : 0 ≤ x.toInt) (h2 : x.toInt ≤ 5) : GI (upd G 4 x) := by
  obtain ⟨⟨a1, a2⟩, ⟨b1, b2⟩, ⟨c1, c2⟩, ⟨d1, d2⟩, ⟨e1, e2⟩, ⟨f1, f2⟩, ⟨g1, g2⟩⟩ := h
  unfold GI
  simp only [i_upd, Nat.reduceEqDiff, reduceIte]
  omega
theorem GI_u5 {G : Nat → Int32} {x : Int32} (h : GI G) (h1 : 0 ≤ x.toInt) (h2 : x.toInt ≤ 6) : GI (upd G 5 x) := by
  obtain ⟨⟨a1, a2⟩, ⟨b1, b2⟩, ⟨c1, c2⟩, ⟨d1, d2⟩, ⟨e1, e2⟩, ⟨f1, f2⟩, ⟨g1, g2⟩⟩ := h
  unfold GI
  simp only [i_upd, Nat.reduceEqDiff, reduceIte]
  omega
theorem GI_u6 {G : Nat → Int32} {x : Int32} (h : GI G) (h1 : 0 ≤ x.toInt) (h2 : x.toInt ≤ 7) : GI (upd G 6 x) := by
  obtain ⟨⟨a1, a2⟩, ⟨b1, b2⟩, ⟨c1, c2⟩, ⟨d1, d2⟩, ⟨e1, e2⟩, ⟨f1, f2⟩, ⟨g1, g2⟩⟩ := h
  unfold GI
  simp only [i_upd, Nat.reduceEqDiff, reduceIte]
  omega
theorem GI_u14 {G : Nat → Int32} {x : Int32} (h : GI G) (h1 : 0 ≤ x.toInt) (h2 : x.toInt ≤ 240) : GI (upd G 14 x) := by
  obtain ⟨⟨a1, a2⟩, ⟨b1, b2⟩, ⟨c1, c2⟩, ⟨d1, d2⟩, ⟨e1, e2⟩, ⟨f1, f2⟩, ⟨g1, g2⟩⟩ := h
  unfold GI
  simp only [i_upd, Nat.reduceEqDiff, reduceIte]
  omega
theorem GI_u42 {G : Nat → Int32} {x : Int32} (h : GI G) (h1 : 0 ≤ x.toInt) (h2 : x.toInt ≤ 15) : GI (upd G 42 x) := by
  obtain ⟨⟨a1, a2⟩, ⟨b1, b2⟩, ⟨c1, c2⟩, ⟨d1, d2⟩, ⟨e1, e2⟩, ⟨f1, f2⟩, ⟨g1, g2⟩⟩ := h
  unfold GI
  simp only [i_upd, Nat.reduceEqDiff, reduceIte]
  omega
def OKv (i : Nat) (x : Int32) : Prop := (12 ≤ i % 42 ∧ i % 42 < 18 → 0 ≤ x.toInt ∧ x.toInt ≤ 4) ∧ (i % 42 = 41 → 0 ≤ x.toInt)
theorem OKv.mk {i : Nat} {x : Int32} (h : (12 ≤ i % 42 ∧ i % 42 < 18 → 0 ≤ x.toInt ∧ x.toInt ≤ 4) ∧ (i % 42 = 41 → 0 ≤ x.toInt)) : OKv i x := h
theorem OKv.out {i : Nat} {x : Int32} (h : ¬ (12 ≤ i % 42 ∧ i % 42 < 18) ∧ ¬ i % 42 = 41) : OKv i x := ⟨fun q => absurd q h.1, fun q => absurd q h.2⟩
theorem OKv.z {i : Nat} : OKv i 0 := ⟨fun _ => by decide, fun _ => by decide⟩
theorem OKv.same {i j : Nat} {x : Int32} (e : i % 42 = j % 42) (h : OKv j x) : OKv i x := by
  unfold OKv at h ⊢
  rw [e]
  exact h
def WI (w : Nat → Int32) : Prop := ∀ i, OKv i (w i)
theorem WI_upd {w : Nat → Int32} {i : Nat} {x : Int32} (h : WI w) (hx : OKv i x) : WI (upd w i x) := by
  intro j
  by_cases q : j = i
  · subst q
    rw [pk_us]
    exact hx
  · rw [pk_un q]
    exact h j
def RI (f : Nat → Int32) : Prop := ∀ i, 0 ≤ (f i).toInt ∧ (f i).toInt ≤ 5
theorem RI_upd {w : Nat → Int32} {i : Nat} {x : Int32} (h : RI w) (h1 : 0 ≤ x.toInt) (h2 : x.toInt ≤ 5) : RI (upd w i x) := by
  intro j
  by_cases q : j = i
  · subst q
    rw [pk_us]
    exact ⟨h1, h2⟩
  · rw [pk_un q]
    exact h j
set_option maxHeartbeats 4000000 in
theorem s_in {x : Int64} {y : Int64} {z : Int64} : S_m_in x y z := by
  unfold S_m_in
  refine ⟨fun c_1 => ?_, fun c_1 => ?_⟩
  · exact trivial
  · skip
    try simp (disch := omega) only [↓i_in, ↓i_isCouple, ↓i_isBridge, ↓i_isTheme, ↓i_isBarge, i_lt, i_le, i_eq, i_clamp, i_upd, i_m1, Int32.toInt_toInt64, Int32.toInt_add, Int32.toInt_sub, Int32.toInt_mul, bm32, Int32.reduceToInt, Int64.reduceToInt, Nat.reduceLT, Nat.reduceEqDiff, reduceIte] at c_1
    refine ⟨fun c_2 => ?_, fun c_2 => ?_⟩
    · exact trivial
    · exact trivial
set_option maxHeartbeats 4000000 in
theorem s_has {s_ : Int32} {k_ : Int32} : S_m_has s_ k_ := by
  unfold S_m_has
  refine ⟨fun c_1 => ?_, fun c_1 => ?_⟩
  · exact trivial
  · exact trivial
set_option maxHeartbeats 4000000 in
theorem s_isBridge {G : Nat → Int32} {v_ : Int32} : S_m_isBridge G v_ := by
  unfold S_m_isBridge
  refine ⟨s_in, ?_⟩
  exact trivial
set_option maxHeartbeats 4000000 in
theorem s_isCouple {G : Nat → Int32} {v_ : Int32} : S_m_isCouple G v_ := by
  unfold S_m_isCouple
  refine ⟨s_in, ?_⟩
  exact trivial
set_option maxHeartbeats 4000000 in
theorem s_isTheme {G : Nat → Int32} {v_ : Int32} : S_m_isTheme G v_ := by
  unfold S_m_isTheme
  refine ⟨s_in, ?_⟩
  exact trivial
set_option maxHeartbeats 4000000 in
theorem s_isBarge {G : Nat → Int32} {v_ : Int32} : S_m_isBarge G v_ := by
  unfold S_m_isBarge
  refine ⟨s_in, ?_⟩
  exact trivial
set_option maxHeartbeats 4000000 in
theorem s_isDone {f0 : Nat → Int32} {c_ : Int32} : S_m_isDone f0 c_ := by
  unfold S_m_isDone
  refine ⟨s_has, ?_⟩
  exact trivial
set_option maxHeartbeats 4000000 in
theorem s_fails {G : Nat → Int32} {k_ : Int32} {p_ : Int32} : S_m_fails G k_ p_ := by
  unfold S_m_fails
  exact trivial
set_option maxHeartbeats 4000000 in
theorem s_fault {G : Nat → Int32} : S_m_fault G := by
  unfold S_m_fault
  exact trivial
set_option maxHeartbeats 4000000 in
theorem s_tear {G : Nat → Int32} : S_m_tear G := by
  unfold S_m_tear
  exact trivial
set_option maxHeartbeats 4000000 in
theorem s_seed {f0 : Nat → Int32} {v_ : Int32} : S_m_seed f0 v_ := by
  unfold S_m_seed
  refine ⟨fun c_1 => ?_, fun c_1 => ?_⟩
  · exact trivial
  · exact trivial
set_option maxHeartbeats 4000000 in
theorem sl_ones_4 {s_ : Int32} {K : Int32 → Int32 → Prop} (hK : ∀ w_1l2 w_1l1, True → K w_1l2 w_1l1) : ∀ (n : Nat) w_1l2 w_1l1, True → S_m_ones_4 s_ K n w_1l2 w_1l1 := by
  intro n
  induction n with
  | zero => intro w_1l2 w_1l1 hI; exact trivial
  | succ n ih =>
    intro w_1l2 w_1l1 hI
    rw [S_m_ones_4_s]
    have hI0 := hI
    refine ⟨fun c_1 => ?_, fun c_1 => ?_⟩
    · skip
      try simp (disch := omega) only [↓i_in, ↓i_isCouple, ↓i_isBridge, ↓i_isTheme, ↓i_isBarge, i_lt, i_le, i_eq, i_clamp, i_upd, i_m1, Int32.toInt_toInt64, Int32.toInt_add, Int32.toInt_sub, Int32.toInt_mul, bm32, Int32.reduceToInt, Int64.reduceToInt, Nat.reduceLT, Nat.reduceEqDiff, reduceIte] at c_1
      exact hK w_1l2 w_1l1 hI
    · skip
      try simp (disch := omega) only [↓i_in, ↓i_isCouple, ↓i_isBridge, ↓i_isTheme, ↓i_isBarge, i_lt, i_le, i_eq, i_clamp, i_upd, i_m1, Int32.toInt_toInt64, Int32.toInt_add, Int32.toInt_sub, Int32.toInt_mul, bm32, Int32.reduceToInt, Int64.reduceToInt, Nat.reduceLT, Nat.reduceEqDiff, reduceIte] at c_1
      exact ih (w_1l2 + 1) (w_1l1 + ((s_ >>> (w_1l2 &&& 31)) &&& 1)) trivial
set_option maxHeartbeats 4000000 in
theorem s_ones {s_ : Int32} : S_m_ones s_ := by
  unfold S_m_ones
  refine sl_ones_4 ?_ (((6 : Int32).toInt - (0 : Int32).toInt).toNat + 1) 0 0 trivial
  intro w_1l2 w_1l1 i_1
  exact trivial
set_option maxHeartbeats 4000000 in
theorem sl_copy_2 {from_ : Int32} {to_ : Int32} {K : Int32 → (Nat → Int32) → Prop} (h_0 : 0 ≤ from_.toInt) (h_1 : from_.toInt ≤ 1260) (h_2 : 0 ≤ to_.toInt) (h_3 : to_.toInt ≤ 1260) (hK : ∀ w_1l3 w_1m0, ((0 ≤ w_1l3.toInt) ∧ (w_1l3.toInt ≤ 42)) → K w_1l3 w_1m0) : ∀ (n : Nat) w_1l3 w_1m0, ((0 ≤ w_1l3.toInt) ∧ (w_1l3.toInt ≤ 42)) → S_m_copy_2 from_ to_ K n w_1l3 w_1m0 := by
  intro n
  induction n with
  | zero => intro w_1l3 w_1m0 hI; exact trivial
  | succ n ih =>
    intro w_1l3 w_1m0 hI
    rw [S_m_copy_2_s]
    have hI0 := hI
    obtain ⟨i_1, i_2⟩ := hI0
    refine ⟨fun c_3 => ?_, fun c_3 => ?_⟩
    · skip
      try simp (disch := omega) only [↓i_in, ↓i_isCouple, ↓i_isBridge, ↓i_isTheme, ↓i_isBarge, i_lt, i_le, i_eq, i_clamp, i_upd, i_m1, Int32.toInt_toInt64, Int32.toInt_add, Int32.toInt_sub, Int32.toInt_mul, bm32, Int32.reduceToInt, Int64.reduceToInt, Nat.reduceLT, Nat.reduceEqDiff, reduceIte] at c_3
      exact hK w_1l3 w_1m0 hI
    · skip
      try simp (disch := omega) only [↓i_in, ↓i_isCouple, ↓i_isBridge, ↓i_isTheme, ↓i_isBarge, i_lt, i_le, i_eq, i_clamp, i_upd, i_m1, Int32.toInt_toInt64, Int32.toInt_add, Int32.toInt_sub, Int32.toInt_mul, bm32, Int32.reduceToInt, Int64.reduceToInt, Nat.reduceLT, Nat.reduceEqDiff, reduceIte] at c_3
      refine ⟨vp_in_iff.mpr (by first | omega | (simp (disch := omega) only [↓i_in, ↓i_isCouple, ↓i_isBridge, ↓i_isTheme, ↓i_isBarge, i_lt, i_le, i_eq, i_clamp, i_upd, i_m1, Int32.toInt_toInt64, Int32.toInt_add, Int32.toInt_sub, Int32.toInt_mul, bm32, Int32.reduceToInt, Int64.reduceToInt, Nat.reduceLT, Nat.reduceEqDiff, reduceIte] <;> omega)), ?_⟩
      refine ⟨vp_in_iff.mpr (by first | omega | (simp (disch := omega) only [↓i_in, ↓i_isCouple, ↓i_isBridge, ↓i_isTheme, ↓i_isBarge, i_lt, i_le, i_eq, i_clamp, i_upd, i_m1, Int32.toInt_toInt64, Int32.toInt_add, Int32.toInt_sub, Int32.toInt_mul, bm32, Int32.reduceToInt, Int64.reduceToInt, Nat.reduceLT, Nat.reduceEqDiff, reduceIte] <;> omega)), ?_⟩
      exact ih (w_1l3 + 1) (upd w_1m0 ((to_ + w_1l3) : Int32).toNatClampNeg (w_1m0 ((from_ + w_1l3) : Int32).toNatClampNeg)) (⟨(by first | omega | (simp (disch := omega) only [↓i_in, ↓i_isCouple, ↓i_isBridge, ↓i_isTheme, ↓i_isBarge, i_lt, i_le, i_eq, i_clamp, i_upd, i_m1, Int32.toInt_toInt64, Int32.toInt_add, Int32.toInt_sub, Int32.toInt_mul, bm32, Int32.reduceToInt, Int64.reduceToInt, Nat.reduceLT, Nat.reduceEqDiff, reduceIte] <;> omega)), (by first | omega | (simp (disch := omega) only [↓i_in, ↓i_isCouple, ↓i_isBridge, ↓i_isTheme, ↓i_isBarge, i_lt, i_le, i_eq, i_clamp, i_upd, i_m1, Int32.toInt_toInt64, Int32.toInt_add, Int32.toInt_sub, Int32.toInt_mul, bm32, Int32.reduceToInt, Int64.reduceToInt, Nat.reduceLT, Nat.reduceEqDiff, reduceIte] <;> omega))⟩)
set_option maxHeartbeats 4000000 in
theorem s_copy {f0 : Nat → Int32} {from_ : Int32} {to_ : Int32} (h_0 : 0 ≤ from_.toInt) (h_1 : from_.toInt ≤ 1260) (h_2 : 0 ≤ to_.toInt) (h_3 : to_.toInt ≤ 1260) : S_m_copy f0 from_ to_ := by
  unfold S_m_copy
  refine sl_copy_2 (by first | omega | (simp (disch := omega) only [↓i_in, ↓i_isCouple, ↓i_isBridge, ↓i_isTheme, ↓i_isBarge, i_lt, i_le, i_eq, i_clamp, i_upd, i_m1, Int32.toInt_toInt64, Int32.toInt_add, Int32.toInt_sub, Int32.toInt_mul, bm32, Int32.reduceToInt, Int64.reduceToInt, Nat.reduceLT, Nat.reduceEqDiff, reduceIte] <;> omega)) (by first | omega | (simp (disch := omega) only [↓i_in, ↓i_isCouple, ↓i_isBridge, ↓i_isTheme, ↓i_isBarge, i_lt, i_le, i_eq, i_clamp, i_upd, i_m1, Int32.toInt_toInt64, Int32.toInt_add, Int32.toInt_sub, Int32.toInt_mul, bm32, Int32.reduceToInt, Int64.reduceToInt, Nat.reduceLT, Nat.reduceEqDiff, reduceIte] <;> omega)) (by first | omega | (simp (disch := omega) only [↓i_in, ↓i_isCouple, ↓i_isBridge, ↓i_isTheme, ↓i_isBarge, i_lt, i_le, i_eq, i_clamp, i_upd, i_m1, Int32.toInt_toInt64, Int32.toInt_add, Int32.toInt_sub, Int32.toInt_mul, bm32, Int32.reduceToInt, Int64.reduceToInt, Nat.reduceLT, Nat.reduceEqDiff, reduceIte] <;> omega)) (by first | omega | (simp (disch := omega) only [↓i_in, ↓i_isCouple, ↓i_isBridge, ↓i_isTheme, ↓i_isBarge, i_lt, i_le, i_eq, i_clamp, i_upd, i_m1, Int32.toInt_toInt64, Int32.toInt_add, Int32.toInt_sub, Int32.toInt_mul, bm32, Int32.reduceToInt, Int64.reduceToInt, Nat.reduceLT, Nat.reduceEqDiff, reduceIte] <;> omega)) ?_ (((42 : Int32).toInt - (0 : Int32).toInt).toNat + 1) 0 f0 (⟨(by first | omega | (simp (disch := omega) only [↓i_in, ↓i_isCouple, ↓i_isBridge, ↓i_isTheme, ↓i_isBarge, i_lt, i_le, i_eq, i_clamp, i_upd, i_m1, Int32.toInt_toInt64, Int32.toInt_add, Int32.toInt_sub, Int32.toInt_mul, bm32, Int32.reduceToInt, Int64.reduceToInt, Nat.reduceLT, Nat.reduceEqDiff, reduceIte] <;> omega)), (by first | omega | (simp (disch := omega) only [↓i_in, ↓i_isCouple, ↓i_isBridge, ↓i_isTheme, ↓i_isBarge, i_lt, i_le, i_eq, i_clamp, i_upd, i_m1, Int32.toInt_toInt64, Int32.toInt_add, Int32.toInt_sub, Int32.toInt_mul, bm32, Int32.reduceToInt, Int64.reduceToInt, Nat.reduceLT, Nat.reduceEqDiff, reduceIte] <;> omega))⟩)
  intro w_1l3 w_1m0 i_1
  obtain ⟨i_2, i_3⟩ := i_1
  exact trivial
set_option maxHeartbeats 4000000 in
theorem s_letterAt {G : Nat → Int32} {f13 : Nat → Int32} {k_ : Int32} (h_0 : (G 14).toInt ≤ 240) (h_1 : 0 ≤ k_.toInt) : S_m_letterAt G f13 k_ := by
  unfold S_m_letterAt
  refine ⟨fun c_1 => ?_, fun c_1 => ?_⟩
  · exact trivial
  · skip
    try simp (disch := omega) only [↓i_in, ↓i_isCouple, ↓i_isBridge, ↓i_isTheme, ↓i_isBarge, i_lt, i_le, i_eq, i_clamp, i_upd, i_m1, Int32.toInt_toInt64, Int32.toInt_add, Int32.toInt_sub, Int32.toInt_mul, bm32, Int32.reduceToInt, Int64.reduceToInt, Nat.reduceLT, Nat.reduceEqDiff, reduceIte] at c_1
    refine ⟨vp_in_iff.mpr (by first | omega | (simp (disch := omega) only [↓i_in, ↓i_isCouple, ↓i_isBridge, ↓i_isTheme, ↓i_isBarge, i_lt, i_le, i_eq, i_clamp, i_upd, i_m1, Int32.toInt_toInt64, Int32.toInt_add, Int32.toInt_sub, Int32.toInt_mul, bm32, Int32.reduceToInt, Int64.reduceToInt, Nat.reduceLT, Nat.reduceEqDiff, reduceIte] <;> omega)), ?_⟩
    exact trivial
