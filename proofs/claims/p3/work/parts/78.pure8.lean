theorem orb_in {s c : Int32} (h1 : 0 ≤ s.toInt) (h2 : s.toInt < 64) (h3 : 0 ≤ c.toInt) (h4 : c.toInt < 6) : 0 ≤ (s ||| ((1 : Int32) <<< (c &&& 31))).toInt ∧ (s ||| ((1 : Int32) <<< (c &&& 31))).toInt < 64 := by
  have key : ∀ a, a < 64 → ∀ k, k < 6 → 0 ≤ (nI a ||| ((1 : Int32) <<< (nI k &&& 31))).toInt ∧ (nI a ||| ((1 : Int32) <<< (nI k &&& 31))).toInt < 64 := by decide +kernel
  obtain ⟨a, ha, rfl⟩ := nI_of (x := s) (by rw [i_lt]; simp only [Int32.reduceToInt]; omega)
  obtain ⟨k, hk, rfl⟩ := nI_of (x := c) (by rw [i_lt]; simp only [Int32.reduceToInt]; omega)
  rw [nI_toInt ha] at h2
  rw [nI_toInt hk] at h4
  exact key a (by omega) k (by omega)
def WT (C L : Nat → Int32) (e s v c : Int32) : Prop := f_m_has s c = 0 ∧ ¬ C (((6 * e) + c) : Int32).toNatClampNeg = 1000000000 ∧ ¬ L (((64 * (e + 1)) + (s ||| ((1 : Int32) <<< (c &&& 31)))) : Int32).toNatClampNeg = 1000000000 ∧ C (((6 * e) + c) : Int32).toNatClampNeg + L (((64 * (e + 1)) + (s ||| ((1 : Int32) <<< (c &&& 31)))) : Int32).toNatClampNeg = v
def GD (L : Nat → Int32) (e s c : Int32) : Prop := (0 ≤ c.toInt ∧ c.toInt < 6) ∧ ¬ L (((64 * (e + 1)) + (s ||| ((1 : Int32) <<< (c &&& 31)))) : Int32).toNatClampNeg = 1000000000
def WS (C L : Nat → Int32) (e s c l : Int32) : Prop := GD L e s l ∨ ∃ d : Int32, 0 ≤ d.toInt ∧ d.toInt ≤ c.toInt ∧ WT C L e s (L (((64 * e) + s) : Int32).toNatClampNeg) d
theorem dec1 {c : Int32} (h : 0 ≤ c.toInt) : (c + (-1)).toInt = c.toInt - 1 := by
  have := c.toInt_lt
  simp (disch := omega) only [Int32.toInt_add, bm32, i_m1]
  omega
theorem WS_next {C L : Nat → Int32} {e s c l : Int32} (h : WS C L e s c l) (hc : 0 ≤ c.toInt) (hn : ¬ WT C L e s (L (((64 * e) + s) : Int32).toNatClampNeg) c) : WS C L e s (c + (-1)) l := by
  cases h with
  | inl h => exact Or.inl h
  | inr h =>
    obtain ⟨d, h1, h2, h3⟩ := h
    have hne : ¬ d.toInt = c.toInt := fun q => hn (by rw [← i_eq] at q; rw [← q]; exact h3)
    have := dec1 hc
    exact Or.inr ⟨d, h1, by omega, h3⟩
set_option maxHeartbeats 4000000 in
theorem sl_who_279 {G C L : Nat → Int32} {e s : Int32} {K : Int32 → Int32 → (Nat → Int32) → (Nat → Int32) → (Nat → Int32) → Prop} (he : 0 ≤ e.toInt) (he2 : e.toInt ≤ 5) (hs : 0 ≤ s.toInt) (hs2 : s.toInt < 64) (hK : ∀ c l m, QG G m → GD L e s l → K c l m C L) : ∀ (n : Nat) (c l : Int32) (m : Nat → Int32), QG G m → -1 ≤ c.toInt → c.toInt ≤ 5 → WS C L e s c l → (c.toInt + 1).toNat < n → S_m_who_279 e s K n c l m C L := by
  intro n
  induction n with
  | zero => intro c l m _ _ _ _ hm; exact absurd hm (Nat.not_lt_zero _)
  | succ n ih =>
    intro c l m q h1 h2 hW hm
    rw [S_m_who_279_s]
    refine ⟨fun c1 => hK _ _ _ q ?_, fun c1 => ?_⟩
    · simp only [i_lt, Int32.reduceToInt] at c1
      cases hW with
      | inl h => exact h
      | inr h =>
        obtain ⟨d, h3, h4, _⟩ := h
        omega
    · simp only [i_lt, Int32.reduceToInt] at c1
      have c0 : 0 ≤ c.toInt := by omega
      have hd := dec1 c0
      obtain ⟨o1, o2⟩ := orb_in hs hs2 c0 (by omega)
      refine ⟨s_has, fun c2 => ⟨vp_in_iff.mpr (by first | omega | (simp (disch := omega) only [↓i_in, ↓i_isCouple, ↓i_isBridge, ↓i_isTheme, ↓i_isBarge, i_lt, i_le, i_eq, i_clamp, i_m1, Int32.toInt_toInt64, Int32.toInt_add, Int32.toInt_sub, Int32.toInt_mul, bm32, Int32.reduceToInt, Int64.reduceToInt, Nat.reduceLT, Nat.reduceEqDiff, reduceIte, u_eq, u_ne] <;> omega)), fun c3 => ih _ _ _ q (by omega) (by omega) (WS_next hW c0 (fun w => w.2.1 c3)) (by omega), fun c3 => ⟨vp_in_iff.mpr (by first | omega | (simp (disch := omega) only [↓i_in, ↓i_isCouple, ↓i_isBridge, ↓i_isTheme, ↓i_isBarge, i_lt, i_le, i_eq, i_clamp, i_m1, Int32.toInt_toInt64, Int32.toInt_add, Int32.toInt_sub, Int32.toInt_mul, bm32, Int32.reduceToInt, Int64.reduceToInt, Nat.reduceLT, Nat.reduceEqDiff, reduceIte, u_eq, u_ne] <;> omega)), fun c4 => ih _ _ _ q (by omega) (by omega) (WS_next hW c0 (fun w => w.2.2.1 c4)) (by omega), fun c4 => ⟨vp_in_iff.mpr (by first | omega | (simp (disch := omega) only [↓i_in, ↓i_isCouple, ↓i_isBridge, ↓i_isTheme, ↓i_isBarge, i_lt, i_le, i_eq, i_clamp, i_m1, Int32.toInt_toInt64, Int32.toInt_add, Int32.toInt_sub, Int32.toInt_mul, bm32, Int32.reduceToInt, Int64.reduceToInt, Nat.reduceLT, Nat.reduceEqDiff, reduceIte, u_eq, u_ne] <;> omega)), vp_in_iff.mpr (by first | omega | (simp (disch := omega) only [↓i_in, ↓i_isCouple, ↓i_isBridge, ↓i_isTheme, ↓i_isBarge, i_lt, i_le, i_eq, i_clamp, i_m1, Int32.toInt_toInt64, Int32.toInt_add, Int32.toInt_sub, Int32.toInt_mul, bm32, Int32.reduceToInt, Int64.reduceToInt, Nat.reduceLT, Nat.reduceEqDiff, reduceIte, u_eq, u_ne] <;> omega)), vp_in_iff.mpr (by first | omega | (simp (disch := omega) only [↓i_in, ↓i_isCouple, ↓i_isBridge, ↓i_isTheme, ↓i_isBarge, i_lt, i_le, i_eq, i_clamp, i_m1, Int32.toInt_toInt64, Int32.toInt_add, Int32.toInt_sub, Int32.toInt_mul, bm32, Int32.reduceToInt, Int64.reduceToInt, Nat.reduceLT, Nat.reduceEqDiff, reduceIte, u_eq, u_ne] <;> omega)), fun c5 => ih _ _ _ q (by omega) (by omega) (Or.inl ⟨⟨c0, by omega⟩, c4⟩) (by omega), fun c5 => ih _ _ _ q (by omega) (by omega) (WS_next hW c0 (fun w => c5 w.2.2.2)) (by omega)⟩⟩⟩, fun c2 => ih _ _ _ q (by omega) (by omega) (WS_next hW c0 (fun w => c2 w.1)) (by omega)⟩
def WP (n : Int) (C L : Nat → Int32) (e s : Int32) : Prop := ¬ L (((64 * e) + s) : Int32).toNatClampNeg = 1000000000 → ∃ c : Int32, 0 ≤ c.toInt ∧ c.toInt < n ∧ WT C L e s (L (((64 * e) + s) : Int32).toNatClampNeg) c
def TR (n m : Int) (C L : Nat → Int32) (k : Int) : Prop := ∀ e s : Int32, 0 ≤ e.toInt → e.toInt ≤ m → 0 ≤ s.toInt → s.toInt < 64 → k ≤ e.toInt → WP n C L e s
theorem inc1 {c : Int32} (h0 : -10 ≤ c.toInt) (h : c.toInt ≤ 1000) : (c + 1).toInt = c.toInt + 1 := by
  simp (disch := omega) only [Int32.toInt_add, bm32, Int32.reduceToInt]
set_option maxHeartbeats 4000000 in
theorem sl_who_262 {G C L : Nat → Int32} {b_ : Int32} {M : Int} {K : Int32 → Int32 → Int32 → (Nat → Int32) → (Nat → Int32) → (Nat → Int32) → Prop} (hG : GI G) (hb : b_.toInt ≤ M) (hM : M ≤ 5) (hT : TR (G 5).toInt M C L 0) (hK : ∀ e l s m, K e l s m C L) : ∀ (n : Nat) (e l s : Int32) (m : Nat → Int32), QG G m → 0 ≤ e.toInt → e.toInt ≤ 6 → 0 ≤ s.toInt → s.toInt < 64 → (e.toInt ≤ b_.toInt → ¬ L (((64 * e) + s) : Int32).toNatClampNeg = 1000000000) → (7 - e.toInt).toNat < n → S_m_who_262 b_ K n e l s m C L := by
  intro n
  induction n with
  | zero => intro e l s m _ _ _ _ _ _ hm; exact absurd hm (Nat.not_lt_zero _)
  | succ n ih =>
    intro e l s m q h1 h2 h3 h4 hL hm
    rw [S_m_who_262_s]
    refine ⟨fun _ => hK _ _ _ _, fun c1 => ?_⟩
    simp only [i_lt] at c1
    have hi := inc1 (c := e) (by omega) (by omega)
    have hg := hG
    obtain ⟨_, _, _, ⟨g1, g2⟩, _⟩ := hg
    obtain ⟨_, _, _, m5, _, _, _⟩ := QGs q
    have hmm : (m 5 - 1).toInt = (G 5).toInt - 1 := by
      rw [m5]
      simp (disch := omega) only [Int32.toInt_sub, bm32, Int32.reduceToInt]
    obtain ⟨d, d0, d1, wt⟩ := hT e s h1 (by omega) h3 h4 h1 (hL (by omega))
    refine sl_who_279 h1 (by omega) h3 h4 (fun c' l' m' q' gd => ?_) 10 _ _ _ q (by omega) (by omega) (Or.inr ⟨d, d0, by omega, wt⟩) (by omega)
    obtain ⟨o1, o2⟩ := orb_in h3 h4 gd.1.1 gd.1.2
    exact ih _ _ _ _ q' (by omega) (by omega) o1 o2 (fun _ => gd.2) (by omega)
def WQ (n : Int) (C L : Nat → Int32) (e s v : Int32) : Prop := ¬ v = 1000000000 → ∃ c : Int32, 0 ≤ c.toInt ∧ c.toInt < n ∧ WT C L e s v c
theorem WQ_b {n : Int} {C L : Nat → Int32} {e s : Int32} : WQ n C L e s 1000000000 := fun h => absurd rfl h
set_option maxHeartbeats 4000000 in
theorem sl_who_66 {G C L : Nat → Int32} {m_ e s : Int32} {K : Int32 → Int32 → (Nat → Int32) → (Nat → Int32) → (Nat → Int32) → Prop} (hG : GI G) (he : 0 ≤ e.toInt) (hM : m_.toInt ≤ 5) (hs : 0 ≤ s.toInt) (hs2 : s.toInt < 64) (hK : ∀ c v m, QG G m → (e.toInt ≤ m_.toInt → WQ (G 5).toInt C L e s v) → K c v m C L) : ∀ (n : Nat) (c v : Int32) (m : Nat → Int32), QG G m → 0 ≤ c.toInt → c.toInt ≤ 6 → (e.toInt ≤ m_.toInt → WQ (G 5).toInt C L e s v) → (7 - c.toInt).toNat < n → S_m_who_66 m_ e s K n c v m C L := by
  intro n
  induction n with
  | zero => intro c v m _ _ _ _ hm; exact absurd hm (Nat.not_lt_zero _)
  | succ n ih =>
    intro c v m q h1 h2 hW hm
    rw [S_m_who_66_s]
    have hg := hG
    obtain ⟨_, _, _, ⟨g1, g2⟩, _⟩ := hg
    obtain ⟨_, _, _, m5, _, _, _⟩ := QGs q
    have hi := inc1 (c := c) (by omega) (by omega)
    refine ⟨fun c1 => hK _ _ _ q hW, fun c1 => ⟨fun c2 => hK _ _ _ q hW, fun c2 => ?_⟩⟩
    simp only [i_lt, i_le, m5] at c1 c2
    obtain ⟨o1, o2⟩ := orb_in hs hs2 h1 (by omega)
    refine ⟨s_has, fun c3 => ⟨vp_in_iff.mpr (by first | omega | (simp (disch := omega) only [↓i_in, ↓i_isCouple, ↓i_isBridge, ↓i_isTheme, ↓i_isBarge, i_lt, i_le, i_eq, i_clamp, i_m1, Int32.toInt_toInt64, Int32.toInt_add, Int32.toInt_sub, Int32.toInt_mul, bm32, Int32.reduceToInt, Int64.reduceToInt, Nat.reduceLT, Nat.reduceEqDiff, reduceIte, u_eq, u_ne] <;> omega)), fun c4 => ⟨fun _ => ih _ _ _ q (by omega) (by omega) hW (by omega), fun _ => ih _ _ _ q (by omega) (by omega) (fun _ => WQ_b) (by omega)⟩, fun c4 => ⟨vp_in_iff.mpr (by first | omega | (simp (disch := omega) only [↓i_in, ↓i_isCouple, ↓i_isBridge, ↓i_isTheme, ↓i_isBarge, i_lt, i_le, i_eq, i_clamp, i_m1, Int32.toInt_toInt64, Int32.toInt_add, Int32.toInt_sub, Int32.toInt_mul, bm32, Int32.reduceToInt, Int64.reduceToInt, Nat.reduceLT, Nat.reduceEqDiff, reduceIte, u_eq, u_ne] <;> omega)), fun c5 => ⟨fun _ => ih _ _ _ q (by omega) (by omega) hW (by omega), fun _ => ih _ _ _ q (by omega) (by omega) (fun _ => WQ_b) (by omega)⟩, fun c5 => ⟨vp_in_iff.mpr (by first | omega | (simp (disch := omega) only [↓i_in, ↓i_isCouple, ↓i_isBridge, ↓i_isTheme, ↓i_isBarge, i_lt, i_le, i_eq, i_clamp, i_m1, Int32.toInt_toInt64, Int32.toInt_add, Int32.toInt_sub, Int32.toInt_mul, bm32, Int32.reduceToInt, Int64.reduceToInt, Nat.reduceLT, Nat.reduceEqDiff, reduceIte, u_eq, u_ne] <;> omega)), fun _ => ih _ _ _ q (by omega) (by omega) hW (by omega), fun _ => ih _ _ _ q (by omega) (by omega) (fun _ _ => ⟨c, h1, by omega, c3, c5, c4, Int32.add_comm _ _⟩) (by omega)⟩⟩⟩, fun c3 => ⟨fun _ => ih _ _ _ q (by omega) (by omega) hW (by omega), fun _ => ih _ _ _ q (by omega) (by omega) (fun _ => WQ_b) (by omega)⟩⟩
def TL (n m : Int) (C L : Nat → Int32) (e k : Int) : Prop := ∀ x s : Int32, 0 ≤ x.toInt → x.toInt ≤ m → 0 ≤ s.toInt → s.toInt < 64 → (e < x.toInt ∨ (x.toInt = e ∧ s.toInt < k)) → WP n C L x s
theorem WT_upd {C L : Nat → Int32} {e s v c w : Int32} {i : Nat} (h : ¬ (((64 * (e + 1)) + (s ||| ((1 : Int32) <<< (c &&& 31)))) : Int32).toNatClampNeg = i) (q : WT C L e s v c) : WT C (upd L i w) e s v c := by
  unfold WT at q ⊢
  rw [u_ne h]
  exact q
set_option maxHeartbeats 4000000 in
theorem TL_upd {n m : Int} {C L : Nat → Int32} {e k w : Int32} (hn : n ≤ 6) (hm : m ≤ 5) (he : 0 ≤ e.toInt) (he2 : e.toInt ≤ 6) (hk : 0 ≤ k.toInt) (hk2 : k.toInt < 64) (h : TL n m C L e.toInt k.toInt) (hq : e.toInt ≤ m → WQ n C L e k w) : TL n m C (upd L (((64 * e) + k) : Int32).toNatClampNeg w) e.toInt (k.toInt + 1) := by
  intro x s x0 x1 s0 s1 hx
  have hix : ∀ c : Int32, 0 ≤ c.toInt → c.toInt < n → ¬ (((64 * (x + 1)) + (s ||| ((1 : Int32) <<< (c &&& 31)))) : Int32).toNatClampNeg = (((64 * e) + k) : Int32).toNatClampNeg := by
    intro c c0 c1
    obtain ⟨o1, o2⟩ := orb_in s0 s1 c0 (by omega)
    have hi := inc1 (c := x) (by omega) (by omega)
    simp (disch := omega) only [i_clamp, Int32.toInt_add, Int32.toInt_mul, bm32, Int32.reduceToInt]
    omega
  by_cases hc : (((64 * x) + s) : Int32).toNatClampNeg = (((64 * e) + k) : Int32).toNatClampNeg
  · have hxe : x.toInt = e.toInt ∧ s.toInt = k.toInt := by
      simp (disch := omega) only [i_clamp, Int32.toInt_add, Int32.toInt_mul, bm32, Int32.reduceToInt] at hc
      omega
    obtain ⟨e1, e2⟩ := hxe
    rw [← i_eq] at e1 e2
    subst e1
    subst e2
    intro hne
    rw [pk_us] at hne ⊢
    obtain ⟨c, c0, c1, wt⟩ := hq x1 hne
    exact ⟨c, c0, c1, WT_upd (hix c c0 c1) wt⟩
  · intro hne
    rw [u_ne hc] at hne ⊢
    have hx2 : e.toInt < x.toInt ∨ (x.toInt = e.toInt ∧ s.toInt < k.toInt) := by
      simp (disch := omega) only [i_clamp, Int32.toInt_add, Int32.toInt_mul, bm32, Int32.reduceToInt] at hc
      omega
    obtain ⟨c, c0, c1, wt⟩ := h x s x0 x1 s0 s1 hx2 hne
    exact ⟨c, c0, c1, WT_upd (hix c c0 c1) wt⟩
set_option maxHeartbeats 4000000 in
theorem sl_who_42 {G C : Nat → Int32} {m_ e : Int32} {K : Int32 → (Nat → Int32) → (Nat → Int32) → (Nat → Int32) → Prop} (hG : GI G) (he : 0 ≤ e.toInt) (he2 : e.toInt ≤ 6) (hM : m_.toInt ≤ 5) (hK : ∀ s m L, QG G m → TR (G 5).toInt m_.toInt C L e.toInt → K s m C L) : ∀ (n : Nat) (s : Int32) (m L : Nat → Int32), QG G m → 0 ≤ s.toInt → s.toInt ≤ 64 → TL (G 5).toInt m_.toInt C L e.toInt s.toInt → S_m_who_42 m_ e K n s m C L := by
  intro n
  induction n with
  | zero => intro s m L _ _ _ _; exact trivial
  | succ n ih =>
    intro s m L q h1 h2 hT
    rw [S_m_who_42_s]
    have hg := hG
    obtain ⟨_, _, _, ⟨g1, g2⟩, _⟩ := hg
    have hi := inc1 (c := s) (by omega) (by omega)
    refine ⟨fun c1 => hK _ _ _ q ?_, fun c1 => ⟨fun c2 => ?_, fun c2 => ?_⟩⟩
    · simp only [i_le, Int32.reduceToInt] at c1
      intro x t x0 x1 t0 t1 hx
      exact hT x t x0 x1 t0 t1 (by omega)
    · simp only [i_le, Int32.reduceToInt] at c1 c2
      refine sl_who_66 hG he hM h1 (by omega) (fun c v m' q' wq => ⟨vp_in_iff.mpr (by first | omega | (simp (disch := omega) only [↓i_in, ↓i_isCouple, ↓i_isBridge, ↓i_isTheme, ↓i_isBarge, i_lt, i_le, i_eq, i_clamp, i_m1, Int32.toInt_toInt64, Int32.toInt_add, Int32.toInt_sub, Int32.toInt_mul, bm32, Int32.reduceToInt, Int64.reduceToInt, Nat.reduceLT, Nat.reduceEqDiff, reduceIte, u_eq, u_ne] <;> omega)), ih _ _ _ q' (by omega) (by omega) ?_⟩) 10 _ _ _ q (by decide) (by decide) (fun _ => WQ_b) (by decide)
      rw [hi]
      exact TL_upd g2 hM he he2 h1 (by omega) hT wq
    · simp only [i_le, Int32.reduceToInt] at c1 c2
      refine sl_who_66 hG he hM h1 (by omega) (fun c v m' q' wq => ⟨vp_in_iff.mpr (by first | omega | (simp (disch := omega) only [↓i_in, ↓i_isCouple, ↓i_isBridge, ↓i_isTheme, ↓i_isBarge, i_lt, i_le, i_eq, i_clamp, i_m1, Int32.toInt_toInt64, Int32.toInt_add, Int32.toInt_sub, Int32.toInt_mul, bm32, Int32.reduceToInt, Int64.reduceToInt, Nat.reduceLT, Nat.reduceEqDiff, reduceIte, u_eq, u_ne] <;> omega)), ih _ _ _ q' (by omega) (by omega) ?_⟩) 10 _ _ _ q (by decide) (by decide) (fun z => absurd z c2) (by decide)
      rw [hi]
      exact TL_upd g2 hM he he2 h1 (by omega) hT wq
set_option maxHeartbeats 4000000 in
theorem sl_who_35 {G C : Nat → Int32} {m_ : Int32} {K : Int32 → (Nat → Int32) → (Nat → Int32) → (Nat → Int32) → Prop} (hG : GI G) (hM : m_.toInt ≤ 5) (hK : ∀ e m L, QG G m → TR (G 5).toInt m_.toInt C L 0 → K e m C L) : ∀ (n : Nat) (e : Int32) (m L : Nat → Int32), QG G m → -1 ≤ e.toInt → e.toInt ≤ 6 → TR (G 5).toInt m_.toInt C L (e.toInt + 1) → (e.toInt + 1).toNat < n → S_m_who_35 m_ K n e m C L := by
  intro n
  induction n with
  | zero => intro e m L _ _ _ _ hm; exact absurd hm (Nat.not_lt_zero _)
  | succ n ih =>
    intro e m L q h1 h2 hT hm
    rw [S_m_who_35_s]
    refine ⟨fun c1 => hK _ _ _ q ?_, fun c1 => ?_⟩
    · simp only [i_lt, Int32.reduceToInt] at c1
      intro x t x0 x1 t0 t1 _
      exact hT x t x0 x1 t0 t1 (by omega)
    · simp only [i_lt, Int32.reduceToInt] at c1
      have hd := dec1 (c := e) (by omega)
      refine sl_who_42 hG (by omega) h2 hM (fun s m' L' q' tr => ih _ _ _ q' (by omega) (by omega) ?_ (by omega)) _ _ _ _ q (by decide) (by decide) ?_
      · rw [hd]
        intro x t x0 x1 t0 t1 hx
        exact tr x t x0 x1 t0 t1 (by omega)
      · intro x t x0 x1 t0 t1 hx
        refine hT x t x0 x1 t0 t1 ?_
        simp only [Int32.reduceToInt] at hx
        omega
set_option maxHeartbeats 4000000 in
theorem s_who {G f0 f10 f8 f37 f36 : Nat → Int32} {m_ b_ : Int32} (hG : GI G) : S_m_who G f0 f10 f8 f37 f36 m_ b_ := by
  have hg := hG
  obtain ⟨_, ⟨b1, b2⟩, _, ⟨g1, g2⟩, _⟩ := hg
  unfold S_m_who
  refine ⟨s_isBridge, fun _ => trivial, fun c1 => ?_⟩
  have hm : 0 ≤ m_.toInt ∧ m_.toInt ≤ 5 := by
    simp (disch := omega) only [↓i_isBridge, Int32.toInt_sub, bm32, Int32.reduceToInt] at c1
    omega
  obtain ⟨m0, m1⟩ := hm
  have hi := inc1 (c := m_) (by omega) (by omega)
  refine ⟨fun c2 => ⟨s_layCosts hG, fun o1 o2 e => ?_⟩, fun c2 => ⟨s_in, fun _ => trivial, fun c3 => ⟨s_layCosts hG, fun o1 o2 e => ?_⟩⟩⟩
  · have q := p_layCosts hG _ _ e.symm
    refine sl_who_35 hG m1 (fun l m L q' tr => ⟨fun _ => ⟨fun _ => trivial, fun _ => trivial⟩, fun h => ⟨fun _ => ⟨fun _ => trivial, fun _ => trivial⟩, fun hb => absurd c2 hb⟩⟩) 10 (m_ + 1) o1 f36 q (by omega) (by omega) (fun x t x0 x1 t0 t1 hx => absurd hx (by omega)) (by omega)
  · have q := p_layCosts hG _ _ e.symm
    simp only [↓i_in, Int32.toInt_toInt64, Int64.reduceToInt] at c3
    refine sl_who_35 hG m1 (fun l m L q' tr => ⟨fun _ => ⟨fun _ => trivial, fun _ => trivial⟩, fun h => ⟨fun _ => ⟨fun _ => trivial, fun _ => trivial⟩, fun hb => ?_⟩⟩) 10 (m_ + 1) o1 f36 q (by omega) (by omega) (fun x t x0 x1 t0 t1 hx => absurd hx (by omega)) (by omega)
    refine sl_who_262 (M := m_.toInt) hG (by omega) m1 tr (fun _ _ _ _ => trivial) 10 0 (-1) 0 m q' (by decide) (by decide) (by decide) (by decide) (fun _ => h) (by decide)
set_option maxHeartbeats 4000000 in
theorem pl_who_279 {G : Nat → Int32} {w262xl5 : Int32} {w262xl3 : Int32} : ∀ (n : Nat) w279xl6 w279xl4 w279xm0 w279xm1 w279xm2, (QG G w279xm0) → ∀ r0 r1 r2 r3 r4, f_m_who_279 w262xl5 w262xl3 n w279xl6 w279xl4 w279xm0 w279xm1 w279xm2 = (r0, r1, r2, r3, r4) → QG G r2 := by
  intro n
  induction n with
  | zero =>
    intro w279xl6 w279xl4 w279xm0 w279xm1 w279xm2 hI r0 r1 r2 r3 r4 e
    replace e : (w279xl6, w279xl4, w279xm0, w279xm1, w279xm2) = (r0, r1, r2, r3, r4) := e
    cases e
    exact hI
  | succ n ih =>
    intro w279xl6 w279xl4 w279xm0 w279xm1 w279xm2 hI r0 r1 r2 r3 r4 e
    rw [f_m_who_279_s] at e
    have hI0 := hI
    have i_1 := hI0
    obtain ⟨w279xm0_2, w279xm0_3, w279xm0_4, w279xm0_5, w279xm0_6, w279xm0_14, w279xm0_42⟩ := QGs i_1
    by_cases c_2 : w279xl6 < 0
    · rw [if_pos c_2] at e
      try simp (disch := omega) only [↓i_in, ↓i_isCouple, ↓i_isBridge, ↓i_isTheme, ↓i_isBarge, i_lt, i_le, i_eq, i_clamp, i_upd, i_m1, Int32.toInt_toInt64, Int32.toInt_add, Int32.toInt_sub, Int32.toInt_mul, bm32, Int32.reduceToInt, Int64.reduceToInt, Nat.reduceLT, Nat.reduceEqDiff, reduceIte, w279xm0_2, w279xm0_3, w279xm0_4, w279xm0_5, w279xm0_6, w279xm0_14, w279xm0_42] at c_2
      cases e
      exact hI
    · rw [if_neg c_2] at e
      try simp (disch := omega) only [↓i_in, ↓i_isCouple, ↓i_isBridge, ↓i_isTheme, ↓i_isBarge, i_lt, i_le, i_eq, i_clamp, i_upd, i_m1, Int32.toInt_toInt64, Int32.toInt_add, Int32.toInt_sub, Int32.toInt_mul, bm32, Int32.reduceToInt, Int64.reduceToInt, Nat.reduceLT, Nat.reduceEqDiff, reduceIte, w279xm0_2, w279xm0_3, w279xm0_4, w279xm0_5, w279xm0_6, w279xm0_14, w279xm0_42] at c_2
      by_cases c_3 : (f_m_has w262xl3 w279xl6) = 0
      · rw [if_pos c_3] at e
        try simp (disch := omega) only [↓i_in, ↓i_isCouple, ↓i_isBridge, ↓i_isTheme, ↓i_isBarge, i_lt, i_le, i_eq, i_clamp, i_upd, i_m1, Int32.toInt_toInt64, Int32.toInt_add, Int32.toInt_sub, Int32.toInt_mul, bm32, Int32.reduceToInt, Int64.reduceToInt, Nat.reduceLT, Nat.reduceEqDiff, reduceIte, w279xm0_2, w279xm0_3, w279xm0_4, w279xm0_5, w279xm0_6, w279xm0_14, w279xm0_42] at c_3
        by_cases c_4 : (w279xm1 (((6 * w262xl5) + w279xl6) : Int32).toNatClampNeg) = 1000000000
        · rw [if_pos c_4] at e
          try simp (disch := omega) only [↓i_in, ↓i_isCouple, ↓i_isBridge, ↓i_isTheme, ↓i_isBarge, i_lt, i_le, i_eq, i_clamp, i_upd, i_m1, Int32.toInt_toInt64, Int32.toInt_add, Int32.toInt_sub, Int32.toInt_mul, bm32, Int32.reduceToInt, Int64.reduceToInt, Nat.reduceLT, Nat.reduceEqDiff, reduceIte, w279xm0_2, w279xm0_3, w279xm0_4, w279xm0_5, w279xm0_6, w279xm0_14, w279xm0_42] at c_4
          exact ih (w279xl6 + (-1)) w279xl4 w279xm0 w279xm1 w279xm2 i_1 _ _ _ _ _ e
        · rw [if_neg c_4] at e
          try simp (disch := omega) only [↓i_in, ↓i_isCouple, ↓i_isBridge, ↓i_isTheme, ↓i_isBarge, i_lt, i_le, i_eq, i_clamp, i_upd, i_m1, Int32.toInt_toInt64, Int32.toInt_add, Int32.toInt_sub, Int32.toInt_mul, bm32, Int32.reduceToInt, Int64.reduceToInt, Nat.reduceLT, Nat.reduceEqDiff, reduceIte, w279xm0_2, w279xm0_3, w279xm0_4, w279xm0_5, w279xm0_6, w279xm0_14, w279xm0_42] at c_4
          by_cases c_5 : (w279xm2 (((64 * (w262xl5 + 1)) + (w262xl3 ||| ((1 : Int32) <<< (w279xl6 &&& 31)))) : Int32).toNatClampNeg) = 1000000000
          · rw [if_pos c_5] at e
            try simp (disch := omega) only [↓i_in, ↓i_isCouple, ↓i_isBridge, ↓i_isTheme, ↓i_isBarge, i_lt, i_le, i_eq, i_clamp, i_upd, i_m1, Int32.toInt_toInt64, Int32.toInt_add, Int32.toInt_sub, Int32.toInt_mul, bm32, Int32.reduceToInt, Int64.reduceToInt, Nat.reduceLT, Nat.reduceEqDiff, reduceIte, w279xm0_2, w279xm0_3, w279xm0_4, w279xm0_5, w279xm0_6, w279xm0_14, w279xm0_42] at c_5
            exact ih (w279xl6 + (-1)) w279xl4 w279xm0 w279xm1 w279xm2 i_1 _ _ _ _ _ e
          · rw [if_neg c_5] at e
            try simp (disch := omega) only [↓i_in, ↓i_isCouple, ↓i_isBridge, ↓i_isTheme, ↓i_isBarge, i_lt, i_le, i_eq, i_clamp, i_upd, i_m1, Int32.toInt_toInt64, Int32.toInt_add, Int32.toInt_sub, Int32.toInt_mul, bm32, Int32.reduceToInt, Int64.reduceToInt, Nat.reduceLT, Nat.reduceEqDiff, reduceIte, w279xm0_2, w279xm0_3, w279xm0_4, w279xm0_5, w279xm0_6, w279xm0_14, w279xm0_42] at c_5
            by_cases c_6 : ((w279xm1 (((6 * w262xl5) + w279xl6) : Int32).toNatClampNeg) + (w279xm2 (((64 * (w262xl5 + 1)) + (w262xl3 ||| ((1 : Int32) <<< (w279xl6 &&& 31)))) : Int32).toNatClampNeg)) = (w279xm2 (((64 * w262xl5) + w262xl3) : Int32).toNatClampNeg)
            · rw [if_pos c_6] at e
              try simp (disch := omega) only [↓i_in, ↓i_isCouple, ↓i_isBridge, ↓i_isTheme, ↓i_isBarge, i_lt, i_le, i_eq, i_clamp, i_upd, i_m1, Int32.toInt_toInt64, Int32.toInt_add, Int32.toInt_sub, Int32.toInt_mul, bm32, Int32.reduceToInt, Int64.reduceToInt, Nat.reduceLT, Nat.reduceEqDiff, reduceIte, w279xm0_2, w279xm0_3, w279xm0_4, w279xm0_5, w279xm0_6, w279xm0_14, w279xm0_42] at c_6
              exact ih (w279xl6 + (-1)) w279xl6 w279xm0 w279xm1 w279xm2 i_1 _ _ _ _ _ e
            · rw [if_neg c_6] at e
              try simp (disch := omega) only [↓i_in, ↓i_isCouple, ↓i_isBridge, ↓i_isTheme, ↓i_isBarge, i_lt, i_le, i_eq, i_clamp, i_upd, i_m1, Int32.toInt_toInt64, Int32.toInt_add, Int32.toInt_sub, Int32.toInt_mul, bm32, Int32.reduceToInt, Int64.reduceToInt, Nat.reduceLT, Nat.reduceEqDiff, reduceIte, w279xm0_2, w279xm0_3, w279xm0_4, w279xm0_5, w279xm0_6, w279xm0_14, w279xm0_42] at c_6
              exact ih (w279xl6 + (-1)) w279xl4 w279xm0 w279xm1 w279xm2 i_1 _ _ _ _ _ e
      · rw [if_neg c_3] at e
        try simp (disch := omega) only [↓i_in, ↓i_isCouple, ↓i_isBridge, ↓i_isTheme, ↓i_isBarge, i_lt, i_le, i_eq, i_clamp, i_upd, i_m1, Int32.toInt_toInt64, Int32.toInt_add, Int32.toInt_sub, Int32.toInt_mul, bm32, Int32.reduceToInt, Int64.reduceToInt, Nat.reduceLT, Nat.reduceEqDiff, reduceIte, w279xm0_2, w279xm0_3, w279xm0_4, w279xm0_5, w279xm0_6, w279xm0_14, w279xm0_42] at c_3
        exact ih (w279xl6 + (-1)) w279xl4 w279xm0 w279xm1 w279xm2 i_1 _ _ _ _ _ e
set_option maxHeartbeats 4000000 in
theorem pl_who_262 {G : Nat → Int32} {b_ : Int32} : ∀ (n : Nat) w262xl5 w262xl4 w262xl3 w262xm0 w262xm1 w262xm2, (QG G w262xm0) → ∀ r0 r1 r2 r3 r4 r5, f_m_who_262 b_ n w262xl5 w262xl4 w262xl3 w262xm0 w262xm1 w262xm2 = (r0, r1, r2, r3, r4, r5) → QG G r3 := by
  intro n
  induction n with
  | zero =>
    intro w262xl5 w262xl4 w262xl3 w262xm0 w262xm1 w262xm2 hI r0 r1 r2 r3 r4 r5 e
    replace e : (w262xl5, w262xl4, w262xl3, w262xm0, w262xm1, w262xm2) = (r0, r1, r2, r3, r4, r5) := e
    cases e
    exact hI
  | succ n ih =>
    intro w262xl5 w262xl4 w262xl3 w262xm0 w262xm1 w262xm2 hI r0 r1 r2 r3 r4 r5 e
    rw [f_m_who_262_s] at e
    have hI0 := hI
    have i_1 := hI0
    obtain ⟨w262xm0_2, w262xm0_3, w262xm0_4, w262xm0_5, w262xm0_6, w262xm0_14, w262xm0_42⟩ := QGs i_1
    by_cases c_2 : b_ < w262xl5
    · rw [if_pos c_2] at e
      try simp (disch := omega) only [↓i_in, ↓i_isCouple, ↓i_isBridge, ↓i_isTheme, ↓i_isBarge, i_lt, i_le, i_eq, i_clamp, i_upd, i_m1, Int32.toInt_toInt64, Int32.toInt_add, Int32.toInt_sub, Int32.toInt_mul, bm32, Int32.reduceToInt, Int64.reduceToInt, Nat.reduceLT, Nat.reduceEqDiff, reduceIte, w262xm0_2, w262xm0_3, w262xm0_4, w262xm0_5, w262xm0_6, w262xm0_14, w262xm0_42] at c_2
      cases e
      exact hI
    · rw [if_neg c_2] at e
      try simp (disch := omega) only [↓i_in, ↓i_isCouple, ↓i_isBridge, ↓i_isTheme, ↓i_isBarge, i_lt, i_le, i_eq, i_clamp, i_upd, i_m1, Int32.toInt_toInt64, Int32.toInt_add, Int32.toInt_sub, Int32.toInt_mul, bm32, Int32.reduceToInt, Int64.reduceToInt, Nat.reduceLT, Nat.reduceEqDiff, reduceIte, w262xm0_2, w262xm0_3, w262xm0_4, w262xm0_5, w262xm0_6, w262xm0_14, w262xm0_42] at c_2
      generalize x_3 : (f_m_who_279 w262xl5 w262xl3 10 ((w262xm0 5) - 1) (-1) w262xm0 w262xm1 w262xm2) = z_4 at e
      obtain ⟨w279xl6, w279xl4, w279xm0, w279xm1, w279xm2⟩ := z_4
      replace e : ((f_m_who_262 b_ n (w262xl5 + 1) w279xl4 (w262xl3 ||| ((1 : Int32) <<< (w279xl4 &&& 31))) w279xm0 w279xm1 w279xm2)) = (r0, r1, r2, r3, r4, r5) := e
      have p_5 := pl_who_279 10 ((w262xm0 5) - 1) (-1) w262xm0 w262xm1 w262xm2 i_1 _ _ _ _ _ x_3
      have i_6 := p_5
      obtain ⟨w279xm0_2, w279xm0_3, w279xm0_4, w279xm0_5, w279xm0_6, w279xm0_14, w279xm0_42⟩ := QGs i_6
      exact ih (w262xl5 + 1) w279xl4 (w262xl3 ||| ((1 : Int32) <<< (w279xl4 &&& 31))) w279xm0 w279xm1 w279xm2 i_6 _ _ _ _ _ _ e
set_option maxHeartbeats 4000000 in
theorem pl_who_66 {G : Nat → Int32} {m_ : Int32} {w35xl3 : Int32} {w42xl4 : Int32} : ∀ (n : Nat) w66xl6 w66xl5 w66xm0 w66xm1 w66xm2, (QG G w66xm0) → ∀ r0 r1 r2 r3 r4, f_m_who_66 m_ w35xl3 w42xl4 n w66xl6 w66xl5 w66xm0 w66xm1 w66xm2 = (r0, r1, r2, r3, r4) → QG G r2 := by
  intro n
  induction n with
  | zero =>
    intro w66xl6 w66xl5 w66xm0 w66xm1 w66xm2 hI r0 r1 r2 r3 r4 e
    replace e : (w66xl6, w66xl5, w66xm0, w66xm1, w66xm2) = (r0, r1, r2, r3, r4) := e
    cases e
    exact hI
  | succ n ih =>
    intro w66xl6 w66xl5 w66xm0 w66xm1 w66xm2 hI r0 r1 r2 r3 r4 e
    rw [f_m_who_66_s] at e
    have hI0 := hI
    have i_1 := hI0
    obtain ⟨w66xm0_2, w66xm0_3, w66xm0_4, w66xm0_5, w66xm0_6, w66xm0_14, w66xm0_42⟩ := QGs i_1
    by_cases c_2 : (w66xm0 5) ≤ w66xl6
    · rw [if_pos c_2] at e
      try simp (disch := omega) only [↓i_in, ↓i_isCouple, ↓i_isBridge, ↓i_isTheme, ↓i_isBarge, i_lt, i_le, i_eq, i_clamp, i_upd, i_m1, Int32.toInt_toInt64, Int32.toInt_add, Int32.toInt_sub, Int32.toInt_mul, bm32, Int32.reduceToInt, Int64.reduceToInt, Nat.reduceLT, Nat.reduceEqDiff, reduceIte, w66xm0_2, w66xm0_3, w66xm0_4, w66xm0_5, w66xm0_6, w66xm0_14, w66xm0_42] at c_2
      cases e
      exact hI
    · rw [if_neg c_2] at e
      try simp (disch := omega) only [↓i_in, ↓i_isCouple, ↓i_isBridge, ↓i_isTheme, ↓i_isBarge, i_lt, i_le, i_eq, i_clamp, i_upd, i_m1, Int32.toInt_toInt64, Int32.toInt_add, Int32.toInt_sub, Int32.toInt_mul, bm32, Int32.reduceToInt, Int64.reduceToInt, Nat.reduceLT, Nat.reduceEqDiff, reduceIte, w66xm0_2, w66xm0_3, w66xm0_4, w66xm0_5, w66xm0_6, w66xm0_14, w66xm0_42] at c_2
      by_cases c_3 : m_ < w35xl3
      · rw [if_pos c_3] at e
        try simp (disch := omega) only [↓i_in, ↓i_isCouple, ↓i_isBridge, ↓i_isTheme, ↓i_isBarge, i_lt, i_le, i_eq, i_clamp, i_upd, i_m1, Int32.toInt_toInt64, Int32.toInt_add, Int32.toInt_sub, Int32.toInt_mul, bm32, Int32.reduceToInt, Int64.reduceToInt, Nat.reduceLT, Nat.reduceEqDiff, reduceIte, w66xm0_2, w66xm0_3, w66xm0_4, w66xm0_5, w66xm0_6, w66xm0_14, w66xm0_42] at c_3
        cases e
        exact hI
      · rw [if_neg c_3] at e
        try simp (disch := omega) only [↓i_in, ↓i_isCouple, ↓i_isBridge, ↓i_isTheme, ↓i_isBarge, i_lt, i_le, i_eq, i_clamp, i_upd, i_m1, Int32.toInt_toInt64, Int32.toInt_add, Int32.toInt_sub, Int32.toInt_mul, bm32, Int32.reduceToInt, Int64.reduceToInt, Nat.reduceLT, Nat.reduceEqDiff, reduceIte, w66xm0_2, w66xm0_3, w66xm0_4, w66xm0_5, w66xm0_6, w66xm0_14, w66xm0_42] at c_3
        by_cases c_4 : (f_m_has w42xl4 w66xl6) = 0
        · rw [if_pos c_4] at e
          try simp (disch := omega) only [↓i_in, ↓i_isCouple, ↓i_isBridge, ↓i_isTheme, ↓i_isBarge, i_lt, i_le, i_eq, i_clamp, i_upd, i_m1, Int32.toInt_toInt64, Int32.toInt_add, Int32.toInt_sub, Int32.toInt_mul, bm32, Int32.reduceToInt, Int64.reduceToInt, Nat.reduceLT, Nat.reduceEqDiff, reduceIte, w66xm0_2, w66xm0_3, w66xm0_4, w66xm0_5, w66xm0_6, w66xm0_14, w66xm0_42] at c_4
          by_cases c_5 : (w66xm2 (((64 * (w35xl3 + 1)) + (w42xl4 ||| ((1 : Int32) <<< (w66xl6 &&& 31)))) : Int32).toNatClampNeg) = 1000000000
          · rw [if_pos c_5] at e
            try simp (disch := omega) only [↓i_in, ↓i_isCouple, ↓i_isBridge, ↓i_isTheme, ↓i_isBarge, i_lt, i_le, i_eq, i_clamp, i_upd, i_m1, Int32.toInt_toInt64, Int32.toInt_add, Int32.toInt_sub, Int32.toInt_mul, bm32, Int32.reduceToInt, Int64.reduceToInt, Nat.reduceLT, Nat.reduceEqDiff, reduceIte, w66xm0_2, w66xm0_3, w66xm0_4, w66xm0_5, w66xm0_6, w66xm0_14, w66xm0_42] at c_5
            by_cases c_6 : w66xl5 ≤ 1000000000
            · rw [if_pos c_6] at e
              try simp (disch := omega) only [↓i_in, ↓i_isCouple, ↓i_isBridge, ↓i_isTheme, ↓i_isBarge, i_lt, i_le, i_eq, i_clamp, i_upd, i_m1, Int32.toInt_toInt64, Int32.toInt_add, Int32.toInt_sub, Int32.toInt_mul, bm32, Int32.reduceToInt, Int64.reduceToInt, Nat.reduceLT, Nat.reduceEqDiff, reduceIte, w66xm0_2, w66xm0_3, w66xm0_4, w66xm0_5, w66xm0_6, w66xm0_14, w66xm0_42] at c_6
              exact ih (w66xl6 + 1) w66xl5 w66xm0 w66xm1 w66xm2 i_1 _ _ _ _ _ e
            · rw [if_neg c_6] at e
              try simp (disch := omega) only [↓i_in, ↓i_isCouple, ↓i_isBridge, ↓i_isTheme, ↓i_isBarge, i_lt, i_le, i_eq, i_clamp, i_upd, i_m1, Int32.toInt_toInt64, Int32.toInt_add, Int32.toInt_sub, Int32.toInt_mul, bm32, Int32.reduceToInt, Int64.reduceToInt, Nat.reduceLT, Nat.reduceEqDiff, reduceIte, w66xm0_2, w66xm0_3, w66xm0_4, w66xm0_5, w66xm0_6, w66xm0_14, w66xm0_42] at c_6
              exact ih (w66xl6 + 1) 1000000000 w66xm0 w66xm1 w66xm2 i_1 _ _ _ _ _ e
          · rw [if_neg c_5] at e
            try simp (disch := omega) only [↓i_in, ↓i_isCouple, ↓i_isBridge, ↓i_isTheme, ↓i_isBarge, i_lt, i_le, i_eq, i_clamp, i_upd, i_m1, Int32.toInt_toInt64, Int32.toInt_add, Int32.toInt_sub, Int32.toInt_mul, bm32, Int32.reduceToInt, Int64.reduceToInt, Nat.reduceLT, Nat.reduceEqDiff, reduceIte, w66xm0_2, w66xm0_3, w66xm0_4, w66xm0_5, w66xm0_6, w66xm0_14, w66xm0_42] at c_5
            by_cases c_7 : (w66xm1 (((6 * w35xl3) + w66xl6) : Int32).toNatClampNeg) = 1000000000
            · rw [if_pos c_7] at e
              try simp (disch := omega) only [↓i_in, ↓i_isCouple, ↓i_isBridge, ↓i_isTheme, ↓i_isBarge, i_lt, i_le, i_eq, i_clamp, i_upd, i_m1, Int32.toInt_toInt64, Int32.toInt_add, Int32.toInt_sub, Int32.toInt_mul, bm32, Int32.reduceToInt, Int64.reduceToInt, Nat.reduceLT, Nat.reduceEqDiff, reduceIte, w66xm0_2, w66xm0_3, w66xm0_4, w66xm0_5, w66xm0_6, w66xm0_14, w66xm0_42] at c_7
              by_cases c_8 : w66xl5 ≤ 1000000000
              · rw [if_pos c_8] at e
                try simp (disch := omega) only [↓i_in, ↓i_isCouple, ↓i_isBridge, ↓i_isTheme, ↓i_isBarge, i_lt, i_le, i_eq, i_clamp, i_upd, i_m1, Int32.toInt_toInt64, Int32.toInt_add, Int32.toInt_sub, Int32.toInt_mul, bm32, Int32.reduceToInt, Int64.reduceToInt, Nat.reduceLT, Nat.reduceEqDiff, reduceIte, w66xm0_2, w66xm0_3, w66xm0_4, w66xm0_5, w66xm0_6, w66xm0_14, w66xm0_42] at c_8
                exact ih (w66xl6 + 1) w66xl5 w66xm0 w66xm1 w66xm2 i_1 _ _ _ _ _ e
              · rw [if_neg c_8] at e
                try simp (disch := omega) only [↓i_in, ↓i_isCouple, ↓i_isBridge, ↓i_isTheme, ↓i_isBarge, i_lt, i_le, i_eq, i_clamp, i_upd, i_m1, Int32.toInt_toInt64, Int32.toInt_add, Int32.toInt_sub, Int32.toInt_mul, bm32, Int32.reduceToInt, Int64.reduceToInt, Nat.reduceLT, Nat.reduceEqDiff, reduceIte, w66xm0_2, w66xm0_3, w66xm0_4, w66xm0_5, w66xm0_6, w66xm0_14, w66xm0_42] at c_8
                exact ih (w66xl6 + 1) 1000000000 w66xm0 w66xm1 w66xm2 i_1 _ _ _ _ _ e
            · rw [if_neg c_7] at e
              try simp (disch := omega) only [↓i_in, ↓i_isCouple, ↓i_isBridge, ↓i_isTheme, ↓i_isBarge, i_lt, i_le, i_eq, i_clamp, i_upd, i_m1, Int32.toInt_toInt64, Int32.toInt_add, Int32.toInt_sub, Int32.toInt_mul, bm32, Int32.reduceToInt, Int64.reduceToInt, Nat.reduceLT, Nat.reduceEqDiff, reduceIte, w66xm0_2, w66xm0_3, w66xm0_4, w66xm0_5, w66xm0_6, w66xm0_14, w66xm0_42] at c_7
              by_cases c_9 : w66xl5 ≤ ((w66xm2 (((64 * (w35xl3 + 1)) + (w42xl4 ||| ((1 : Int32) <<< (w66xl6 &&& 31)))) : Int32).toNatClampNeg) + (w66xm1 (((6 * w35xl3) + w66xl6) : Int32).toNatClampNeg))
              · rw [if_pos c_9] at e
                try simp (disch := omega) only [↓i_in, ↓i_isCouple, ↓i_isBridge, ↓i_isTheme, ↓i_isBarge, i_lt, i_le, i_eq, i_clamp, i_upd, i_m1, Int32.toInt_toInt64, Int32.toInt_add, Int32.toInt_sub, Int32.toInt_mul, bm32, Int32.reduceToInt, Int64.reduceToInt, Nat.reduceLT, Nat.reduceEqDiff, reduceIte, w66xm0_2, w66xm0_3, w66xm0_4, w66xm0_5, w66xm0_6, w66xm0_14, w66xm0_42] at c_9
                exact ih (w66xl6 + 1) w66xl5 w66xm0 w66xm1 w66xm2 i_1 _ _ _ _ _ e
              · rw [if_neg c_9] at e
                try simp (disch := omega) only [↓i_in, ↓i_isCouple, ↓i_isBridge, ↓i_isTheme, ↓i_isBarge, i_lt, i_le, i_eq, i_clamp, i_upd, i_m1, Int32.toInt_toInt64, Int32.toInt_add, Int32.toInt_sub, Int32.toInt_mul, bm32, Int32.reduceToInt, Int64.reduceToInt, Nat.reduceLT, Nat.reduceEqDiff, reduceIte, w66xm0_2, w66xm0_3, w66xm0_4, w66xm0_5, w66xm0_6, w66xm0_14, w66xm0_42] at c_9
                exact ih (w66xl6 + 1) ((w66xm2 (((64 * (w35xl3 + 1)) + (w42xl4 ||| ((1 : Int32) <<< (w66xl6 &&& 31)))) : Int32).toNatClampNeg) + (w66xm1 (((6 * w35xl3) + w66xl6) : Int32).toNatClampNeg)) w66xm0 w66xm1 w66xm2 i_1 _ _ _ _ _ e
        · rw [if_neg c_4] at e
          try simp (disch := omega) only [↓i_in, ↓i_isCouple, ↓i_isBridge, ↓i_isTheme, ↓i_isBarge, i_lt, i_le, i_eq, i_clamp, i_upd, i_m1, Int32.toInt_toInt64, Int32.toInt_add, Int32.toInt_sub, Int32.toInt_mul, bm32, Int32.reduceToInt, Int64.reduceToInt, Nat.reduceLT, Nat.reduceEqDiff, reduceIte, w66xm0_2, w66xm0_3, w66xm0_4, w66xm0_5, w66xm0_6, w66xm0_14, w66xm0_42] at c_4
          by_cases c_10 : w66xl5 ≤ 1000000000
          · rw [if_pos c_10] at e
            try simp (disch := omega) only [↓i_in, ↓i_isCouple, ↓i_isBridge, ↓i_isTheme, ↓i_isBarge, i_lt, i_le, i_eq, i_clamp, i_upd, i_m1, Int32.toInt_toInt64, Int32.toInt_add, Int32.toInt_sub, Int32.toInt_mul, bm32, Int32.reduceToInt, Int64.reduceToInt, Nat.reduceLT, Nat.reduceEqDiff, reduceIte, w66xm0_2, w66xm0_3, w66xm0_4, w66xm0_5, w66xm0_6, w66xm0_14, w66xm0_42] at c_10
            exact ih (w66xl6 + 1) w66xl5 w66xm0 w66xm1 w66xm2 i_1 _ _ _ _ _ e
          · rw [if_neg c_10] at e
            try simp (disch := omega) only [↓i_in, ↓i_isCouple, ↓i_isBridge, ↓i_isTheme, ↓i_isBarge, i_lt, i_le, i_eq, i_clamp, i_upd, i_m1, Int32.toInt_toInt64, Int32.toInt_add, Int32.toInt_sub, Int32.toInt_mul, bm32, Int32.reduceToInt, Int64.reduceToInt, Nat.reduceLT, Nat.reduceEqDiff, reduceIte, w66xm0_2, w66xm0_3, w66xm0_4, w66xm0_5, w66xm0_6, w66xm0_14, w66xm0_42] at c_10
            exact ih (w66xl6 + 1) 1000000000 w66xm0 w66xm1 w66xm2 i_1 _ _ _ _ _ e
set_option maxHeartbeats 4000000 in
theorem pl_who_42 {G : Nat → Int32} {m_ : Int32} {w35xl3 : Int32} : ∀ (n : Nat) w42xl4 w42xm0 w42xm1 w42xm2, (QG G w42xm0) → ∀ r0 r1 r2 r3, f_m_who_42 m_ w35xl3 n w42xl4 w42xm0 w42xm1 w42xm2 = (r0, r1, r2, r3) → QG G r1 := by
  intro n
  induction n with
  | zero =>
    intro w42xl4 w42xm0 w42xm1 w42xm2 hI r0 r1 r2 r3 e
    replace e : (w42xl4, w42xm0, w42xm1, w42xm2) = (r0, r1, r2, r3) := e
    cases e
    exact hI
  | succ n ih =>
    intro w42xl4 w42xm0 w42xm1 w42xm2 hI r0 r1 r2 r3 e
    rw [f_m_who_42_s] at e
    have hI0 := hI
    have i_1 := hI0
    obtain ⟨w42xm0_2, w42xm0_3, w42xm0_4, w42xm0_5, w42xm0_6, w42xm0_14, w42xm0_42⟩ := QGs i_1
    by_cases c_2 : 64 ≤ w42xl4
    · rw [if_pos c_2] at e
      try simp (disch := omega) only [↓i_in, ↓i_isCouple, ↓i_isBridge, ↓i_isTheme, ↓i_isBarge, i_lt, i_le, i_eq, i_clamp, i_upd, i_m1, Int32.toInt_toInt64, Int32.toInt_add, Int32.toInt_sub, Int32.toInt_mul, bm32, Int32.reduceToInt, Int64.reduceToInt, Nat.reduceLT, Nat.reduceEqDiff, reduceIte, w42xm0_2, w42xm0_3, w42xm0_4, w42xm0_5, w42xm0_6, w42xm0_14, w42xm0_42] at c_2
      cases e
      exact hI
    · rw [if_neg c_2] at e
      try simp (disch := omega) only [↓i_in, ↓i_isCouple, ↓i_isBridge, ↓i_isTheme, ↓i_isBarge, i_lt, i_le, i_eq, i_clamp, i_upd, i_m1, Int32.toInt_toInt64, Int32.toInt_add, Int32.toInt_sub, Int32.toInt_mul, bm32, Int32.reduceToInt, Int64.reduceToInt, Nat.reduceLT, Nat.reduceEqDiff, reduceIte, w42xm0_2, w42xm0_3, w42xm0_4, w42xm0_5, w42xm0_6, w42xm0_14, w42xm0_42] at c_2
      by_cases c_3 : w35xl3 ≤ m_
      · rw [if_pos c_3] at e
        try simp (disch := omega) only [↓i_in, ↓i_isCouple, ↓i_isBridge, ↓i_isTheme, ↓i_isBarge, i_lt, i_le, i_eq, i_clamp, i_upd, i_m1, Int32.toInt_toInt64, Int32.toInt_add, Int32.toInt_sub, Int32.toInt_mul, bm32, Int32.reduceToInt, Int64.reduceToInt, Nat.reduceLT, Nat.reduceEqDiff, reduceIte, w42xm0_2, w42xm0_3, w42xm0_4, w42xm0_5, w42xm0_6, w42xm0_14, w42xm0_42] at c_3
        generalize x_4 : (f_m_who_66 m_ w35xl3 w42xl4 10 0 1000000000 w42xm0 w42xm1 w42xm2) = z_5 at e
        obtain ⟨w66xl6, w66xl5, w66xm0, w66xm1, w66xm2⟩ := z_5
        replace e : ((f_m_who_42 m_ w35xl3 n (w42xl4 + 1) w66xm0 w66xm1 (upd w66xm2 (((64 * w35xl3) + w42xl4) : Int32).toNatClampNeg w66xl5))) = (r0, r1, r2, r3) := e
        have p_6 := pl_who_66 10 0 1000000000 w42xm0 w42xm1 w42xm2 i_1 _ _ _ _ _ x_4
        have i_7 := p_6
        obtain ⟨w66xm0_2, w66xm0_3, w66xm0_4, w66xm0_5, w66xm0_6, w66xm0_14, w66xm0_42⟩ := QGs i_7
        exact ih (w42xl4 + 1) w66xm0 w66xm1 (upd w66xm2 (((64 * w35xl3) + w42xl4) : Int32).toNatClampNeg w66xl5) i_7 _ _ _ _ e
      · rw [if_neg c_3] at e
        try simp (disch := omega) only [↓i_in, ↓i_isCouple, ↓i_isBridge, ↓i_isTheme, ↓i_isBarge, i_lt, i_le, i_eq, i_clamp, i_upd, i_m1, Int32.toInt_toInt64, Int32.toInt_add, Int32.toInt_sub, Int32.toInt_mul, bm32, Int32.reduceToInt, Int64.reduceToInt, Nat.reduceLT, Nat.reduceEqDiff, reduceIte, w42xm0_2, w42xm0_3, w42xm0_4, w42xm0_5, w42xm0_6, w42xm0_14, w42xm0_42] at c_3
        generalize x_8 : (f_m_who_66 m_ w35xl3 w42xl4 10 0 0 w42xm0 w42xm1 w42xm2) = z_9 at e
        obtain ⟨w66xl6, w66xl5, w66xm0, w66xm1, w66xm2⟩ := z_9
        replace e : ((f_m_who_42 m_ w35xl3 n (w42xl4 + 1) w66xm0 w66xm1 (upd w66xm2 (((64 * w35xl3) + w42xl4) : Int32).toNatClampNeg w66xl5))) = (r0, r1, r2, r3) := e
        have p_10 := pl_who_66 10 0 0 w42xm0 w42xm1 w42xm2 i_1 _ _ _ _ _ x_8
        have i_11 := p_10
        obtain ⟨w66xm0_2, w66xm0_3, w66xm0_4, w66xm0_5, w66xm0_6, w66xm0_14, w66xm0_42⟩ := QGs i_11
        exact ih (w42xl4 + 1) w66xm0 w66xm1 (upd w66xm2 (((64 * w35xl3) + w42xl4) : Int32).toNatClampNeg w66xl5) i_11 _ _ _ _ e
set_option maxHeartbeats 4000000 in
theorem pl_who_35 {G : Nat → Int32} {m_ : Int32} : ∀ (n : Nat) w35xl3 w35xm0 w35xm1 w35xm2, (QG G w35xm0) → ∀ r0 r1 r2 r3, f_m_who_35 m_ n w35xl3 w35xm0 w35xm1 w35xm2 = (r0, r1, r2, r3) → QG G r1 := by
  intro n
  induction n with
  | zero =>
    intro w35xl3 w35xm0 w35xm1 w35xm2 hI r0 r1 r2 r3 e
    replace e : (w35xl3, w35xm0, w35xm1, w35xm2) = (r0, r1, r2, r3) := e
    cases e
    exact hI
  | succ n ih =>
    intro w35xl3 w35xm0 w35xm1 w35xm2 hI r0 r1 r2 r3 e
    rw [f_m_who_35_s] at e
    have hI0 := hI
    have i_1 := hI0
    obtain ⟨w35xm0_2, w35xm0_3, w35xm0_4, w35xm0_5, w35xm0_6, w35xm0_14, w35xm0_42⟩ := QGs i_1
    by_cases c_2 : w35xl3 < 0
    · rw [if_pos c_2] at e
      try simp (disch := omega) only [↓i_in, ↓i_isCouple, ↓i_isBridge, ↓i_isTheme, ↓i_isBarge, i_lt, i_le, i_eq, i_clamp, i_upd, i_m1, Int32.toInt_toInt64, Int32.toInt_add, Int32.toInt_sub, Int32.toInt_mul, bm32, Int32.reduceToInt, Int64.reduceToInt, Nat.reduceLT, Nat.reduceEqDiff, reduceIte, w35xm0_2, w35xm0_3, w35xm0_4, w35xm0_5, w35xm0_6, w35xm0_14, w35xm0_42] at c_2
      cases e
      exact hI
    · rw [if_neg c_2] at e
      try simp (disch := omega) only [↓i_in, ↓i_isCouple, ↓i_isBridge, ↓i_isTheme, ↓i_isBarge, i_lt, i_le, i_eq, i_clamp, i_upd, i_m1, Int32.toInt_toInt64, Int32.toInt_add, Int32.toInt_sub, Int32.toInt_mul, bm32, Int32.reduceToInt, Int64.reduceToInt, Nat.reduceLT, Nat.reduceEqDiff, reduceIte, w35xm0_2, w35xm0_3, w35xm0_4, w35xm0_5, w35xm0_6, w35xm0_14, w35xm0_42] at c_2
      generalize x_3 : (f_m_who_42 m_ w35xl3 (((64 : Int32).toInt - (0 : Int32).toInt).toNat + 1) 0 w35xm0 w35xm1 w35xm2) = z_4 at e
      obtain ⟨w42xl4, w42xm0, w42xm1, w42xm2⟩ := z_4
      replace e : ((f_m_who_35 m_ n (w35xl3 + (-1)) w42xm0 w42xm1 w42xm2)) = (r0, r1, r2, r3) := e
      have p_5 := pl_who_42 (((64 : Int32).toInt - (0 : Int32).toInt).toNat + 1) 0 w35xm0 w35xm1 w35xm2 i_1 _ _ _ _ x_3
      have i_6 := p_5
      obtain ⟨w42xm0_2, w42xm0_3, w42xm0_4, w42xm0_5, w42xm0_6, w42xm0_14, w42xm0_42⟩ := QGs i_6
      exact ih (w35xl3 + (-1)) w42xm0 w42xm1 w42xm2 i_6 _ _ _ _ e
set_option maxHeartbeats 4000000 in
theorem p_who {G : Nat → Int32} {f0 : Nat → Int32} {f10 : Nat → Int32} {f8 : Nat → Int32} {f37 : Nat → Int32} {f36 : Nat → Int32} {m_ : Int32} {b_ : Int32} (h_0 : GI G) : ∀ (r : Int32) (u : (Nat → Int32)) (v : (Nat → Int32)) (w : (Nat → Int32)), f_m_who G f0 f10 f8 f37 f36 m_ b_ = (r, u, v, w) → QG G u := by
  have h_0_g := h_0
  obtain ⟨⟨h_0_2a, h_0_2b⟩, ⟨h_0_3a, h_0_3b⟩, ⟨h_0_4a, h_0_4b⟩, ⟨h_0_5a, h_0_5b⟩, ⟨h_0_6a, h_0_6b⟩, ⟨h_0_14a, h_0_14b⟩, ⟨h_0_42a, h_0_42b⟩⟩ := h_0_g
  intro r u v w e
  unfold f_m_who at e
  by_cases c_1 : (f_m_isBridge G m_) = 0
  · rw [if_pos c_1] at e
    try simp (disch := omega) only [↓i_in, ↓i_isCouple, ↓i_isBridge, ↓i_isTheme, ↓i_isBarge, i_lt, i_le, i_eq, i_clamp, i_upd, i_m1, Int32.toInt_toInt64, Int32.toInt_add, Int32.toInt_sub, Int32.toInt_mul, bm32, Int32.reduceToInt, Int64.reduceToInt, Nat.reduceLT, Nat.reduceEqDiff, reduceIte] at c_1
    cases e
    exact (QG.refl _)
  · rw [if_neg c_1] at e
    try simp (disch := omega) only [↓i_in, ↓i_isCouple, ↓i_isBridge, ↓i_isTheme, ↓i_isBarge, i_lt, i_le, i_eq, i_clamp, i_upd, i_m1, Int32.toInt_toInt64, Int32.toInt_add, Int32.toInt_sub, Int32.toInt_mul, bm32, Int32.reduceToInt, Int64.reduceToInt, Nat.reduceLT, Nat.reduceEqDiff, reduceIte] at c_1
    by_cases c_2 : b_ = (-1)
    · rw [if_pos c_2] at e
      try simp (disch := omega) only [↓i_in, ↓i_isCouple, ↓i_isBridge, ↓i_isTheme, ↓i_isBarge, i_lt, i_le, i_eq, i_clamp, i_upd, i_m1, Int32.toInt_toInt64, Int32.toInt_add, Int32.toInt_sub, Int32.toInt_mul, bm32, Int32.reduceToInt, Int64.reduceToInt, Nat.reduceLT, Nat.reduceEqDiff, reduceIte] at c_2
      generalize x_3 : (f_m_layCosts G f0 f10 f8 f37) = z_4 at e
      obtain ⟨o_9, o_10⟩ := z_4
      replace e : ((match ((f_m_who_35 m_ 10 (m_ + 1) o_9 o_10 f36) : Int32 × (Nat → Int32) × (Nat → Int32) × (Nat → Int32)) with | (w35xl3, w35xm0, w35xm1, w35xm2) => (if (w35xm2 (0 : Int32).toNatClampNeg) = 1000000000 then (if (w35xm2 (0 : Int32).toNatClampNeg) = 1000000000 then ((-1), w35xm0, w35xm1, w35xm2) else ((w35xm2 (0 : Int32).toNatClampNeg), w35xm0, w35xm1, w35xm2)) else (if b_ = (-1) then (if (w35xm2 (0 : Int32).toNatClampNeg) = 1000000000 then ((-1), w35xm0, w35xm1, w35xm2) else ((w35xm2 (0 : Int32).toNatClampNeg), w35xm0, w35xm1, w35xm2)) else (match ((f_m_who_262 b_ 10 0 (-1) 0 w35xm0 w35xm1 w35xm2) : Int32 × Int32 × Int32 × (Nat → Int32) × (Nat → Int32) × (Nat → Int32)) with | (w262xl5, w262xl4, w262xl3, w262xm0, w262xm1, w262xm2) => (w262xl4, w262xm0, w262xm1, w262xm2)))))) = (r, u, v, w) := e
      have p_5 := p_layCosts h_0 _ _ x_3
      have i_6 := p_5
      obtain ⟨o_9_2, o_9_3, o_9_4, o_9_5, o_9_6, o_9_14, o_9_42⟩ := QGs i_6
      generalize x_7 : (f_m_who_35 m_ 10 (m_ + 1) o_9 o_10 f36) = z_8 at e
      obtain ⟨w35xl3, w35xm0, w35xm1, w35xm2⟩ := z_8
      replace e : ((if (w35xm2 (0 : Int32).toNatClampNeg) = 1000000000 then (if (w35xm2 (0 : Int32).toNatClampNeg) = 1000000000 then ((-1), w35xm0, w35xm1, w35xm2) else ((w35xm2 (0 : Int32).toNatClampNeg), w35xm0, w35xm1, w35xm2)) else (if b_ = (-1) then (if (w35xm2 (0 : Int32).toNatClampNeg) = 1000000000 then ((-1), w35xm0, w35xm1, w35xm2) else ((w35xm2 (0 : Int32).toNatClampNeg), w35xm0, w35xm1, w35xm2)) else (match ((f_m_who_262 b_ 10 0 (-1) 0 w35xm0 w35xm1 w35xm2) : Int32 × Int32 × Int32 × (Nat → Int32) × (Nat → Int32) × (Nat → Int32)) with | (w262xl5, w262xl4, w262xl3, w262xm0, w262xm1, w262xm2) => (w262xl4, w262xm0, w262xm1, w262xm2))))) = (r, u, v, w) := e
      have p_9 := pl_who_35 10 (m_ + 1) o_9 o_10 f36 i_6 _ _ _ _ x_7
      have i_10 := p_9
      obtain ⟨w35xm0_2, w35xm0_3, w35xm0_4, w35xm0_5, w35xm0_6, w35xm0_14, w35xm0_42⟩ := QGs i_10
      by_cases c_11 : (w35xm2 (0 : Int32).toNatClampNeg) = 1000000000
      · rw [if_pos c_11] at e
        try simp (disch := omega) only [↓i_in, ↓i_isCouple, ↓i_isBridge, ↓i_isTheme, ↓i_isBarge, i_lt, i_le, i_eq, i_clamp, i_upd, i_m1, Int32.toInt_toInt64, Int32.toInt_add, Int32.toInt_sub, Int32.toInt_mul, bm32, Int32.reduceToInt, Int64.reduceToInt, Nat.reduceLT, Nat.reduceEqDiff, reduceIte, o_9_2, o_9_3, o_9_4, o_9_5, o_9_6, o_9_14, o_9_42, w35xm0_2, w35xm0_3, w35xm0_4, w35xm0_5, w35xm0_6, w35xm0_14, w35xm0_42] at c_11
        by_cases c_12 : (w35xm2 (0 : Int32).toNatClampNeg) = 1000000000
        · rw [if_pos c_12] at e
          try simp (disch := omega) only [↓i_in, ↓i_isCouple, ↓i_isBridge, ↓i_isTheme, ↓i_isBarge, i_lt, i_le, i_eq, i_clamp, i_upd, i_m1, Int32.toInt_toInt64, Int32.toInt_add, Int32.toInt_sub, Int32.toInt_mul, bm32, Int32.reduceToInt, Int64.reduceToInt, Nat.reduceLT, Nat.reduceEqDiff, reduceIte, o_9_2, o_9_3, o_9_4, o_9_5, o_9_6, o_9_14, o_9_42, w35xm0_2, w35xm0_3, w35xm0_4, w35xm0_5, w35xm0_6, w35xm0_14, w35xm0_42] at c_12
          cases e
          exact i_10
        · rw [if_neg c_12] at e
          try simp (disch := omega) only [↓i_in, ↓i_isCouple, ↓i_isBridge, ↓i_isTheme, ↓i_isBarge, i_lt, i_le, i_eq, i_clamp, i_upd, i_m1, Int32.toInt_toInt64, Int32.toInt_add, Int32.toInt_sub, Int32.toInt_mul, bm32, Int32.reduceToInt, Int64.reduceToInt, Nat.reduceLT, Nat.reduceEqDiff, reduceIte, o_9_2, o_9_3, o_9_4, o_9_5, o_9_6, o_9_14, o_9_42, w35xm0_2, w35xm0_3, w35xm0_4, w35xm0_5, w35xm0_6, w35xm0_14, w35xm0_42] at c_12
          cases e
          exact i_10
      · rw [if_neg c_11] at e
        try simp (disch := omega) only [↓i_in, ↓i_isCouple, ↓i_isBridge, ↓i_isTheme, ↓i_isBarge, i_lt, i_le, i_eq, i_clamp, i_upd, i_m1, Int32.toInt_toInt64, Int32.toInt_add, Int32.toInt_sub, Int32.toInt_mul, bm32, Int32.reduceToInt, Int64.reduceToInt, Nat.reduceLT, Nat.reduceEqDiff, reduceIte, o_9_2, o_9_3, o_9_4, o_9_5, o_9_6, o_9_14, o_9_42, w35xm0_2, w35xm0_3, w35xm0_4, w35xm0_5, w35xm0_6, w35xm0_14, w35xm0_42] at c_11
        by_cases c_13 : b_ = (-1)
        · rw [if_pos c_13] at e
          try simp (disch := omega) only [↓i_in, ↓i_isCouple, ↓i_isBridge, ↓i_isTheme, ↓i_isBarge, i_lt, i_le, i_eq, i_clamp, i_upd, i_m1, Int32.toInt_toInt64, Int32.toInt_add, Int32.toInt_sub, Int32.toInt_mul, bm32, Int32.reduceToInt, Int64.reduceToInt, Nat.reduceLT, Nat.reduceEqDiff, reduceIte, o_9_2, o_9_3, o_9_4, o_9_5, o_9_6, o_9_14, o_9_42, w35xm0_2, w35xm0_3, w35xm0_4, w35xm0_5, w35xm0_6, w35xm0_14, w35xm0_42] at c_13
          by_cases c_14 : (w35xm2 (0 : Int32).toNatClampNeg) = 1000000000
          · rw [if_pos c_14] at e
            try simp (disch := omega) only [↓i_in, ↓i_isCouple, ↓i_isBridge, ↓i_isTheme, ↓i_isBarge, i_lt, i_le, i_eq, i_clamp, i_upd, i_m1, Int32.toInt_toInt64, Int32.toInt_add, Int32.toInt_sub, Int32.toInt_mul, bm32, Int32.reduceToInt, Int64.reduceToInt, Nat.reduceLT, Nat.reduceEqDiff, reduceIte, o_9_2, o_9_3, o_9_4, o_9_5, o_9_6, o_9_14, o_9_42, w35xm0_2, w35xm0_3, w35xm0_4, w35xm0_5, w35xm0_6, w35xm0_14, w35xm0_42] at c_14
            cases e
            exact i_10
          · rw [if_neg c_14] at e
            try simp (disch := omega) only [↓i_in, ↓i_isCouple, ↓i_isBridge, ↓i_isTheme, ↓i_isBarge, i_lt, i_le, i_eq, i_clamp, i_upd, i_m1, Int32.toInt_toInt64, Int32.toInt_add, Int32.toInt_sub, Int32.toInt_mul, bm32, Int32.reduceToInt, Int64.reduceToInt, Nat.reduceLT, Nat.reduceEqDiff, reduceIte, o_9_2, o_9_3, o_9_4, o_9_5, o_9_6, o_9_14, o_9_42, w35xm0_2, w35xm0_3, w35xm0_4, w35xm0_5, w35xm0_6, w35xm0_14, w35xm0_42] at c_14
            cases e
            exact i_10
        · rw [if_neg c_13] at e
          try simp (disch := omega) only [↓i_in, ↓i_isCouple, ↓i_isBridge, ↓i_isTheme, ↓i_isBarge, i_lt, i_le, i_eq, i_clamp, i_upd, i_m1, Int32.toInt_toInt64, Int32.toInt_add, Int32.toInt_sub, Int32.toInt_mul, bm32, Int32.reduceToInt, Int64.reduceToInt, Nat.reduceLT, Nat.reduceEqDiff, reduceIte, o_9_2, o_9_3, o_9_4, o_9_5, o_9_6, o_9_14, o_9_42, w35xm0_2, w35xm0_3, w35xm0_4, w35xm0_5, w35xm0_6, w35xm0_14, w35xm0_42] at c_13
          generalize x_15 : (f_m_who_262 b_ 10 0 (-1) 0 w35xm0 w35xm1 w35xm2) = z_16 at e
          obtain ⟨w262xl5, w262xl4, w262xl3, w262xm0, w262xm1, w262xm2⟩ := z_16
          replace e : ((w262xl4, w262xm0, w262xm1, w262xm2)) = (r, u, v, w) := e
          have p_17 := pl_who_262 10 0 (-1) 0 w35xm0 w35xm1 w35xm2 i_10 _ _ _ _ _ _ x_15
          have i_18 := p_17
          obtain ⟨w262xm0_2, w262xm0_3, w262xm0_4, w262xm0_5, w262xm0_6, w262xm0_14, w262xm0_42⟩ := QGs i_18
          cases e
          exact i_18
    · rw [if_neg c_2] at e
      try simp (disch := omega) only [↓i_in, ↓i_isCouple, ↓i_isBridge, ↓i_isTheme, ↓i_isBarge, i_lt, i_le, i_eq, i_clamp, i_upd, i_m1, Int32.toInt_toInt64, Int32.toInt_add, Int32.toInt_sub, Int32.toInt_mul, bm32, Int32.reduceToInt, Int64.reduceToInt, Nat.reduceLT, Nat.reduceEqDiff, reduceIte] at c_2
      by_cases c_19 : (f_m_in b_.toInt64 0 m_.toInt64) = 0
      · rw [if_pos c_19] at e
        try simp (disch := omega) only [↓i_in, ↓i_isCouple, ↓i_isBridge, ↓i_isTheme, ↓i_isBarge, i_lt, i_le, i_eq, i_clamp, i_upd, i_m1, Int32.toInt_toInt64, Int32.toInt_add, Int32.toInt_sub, Int32.toInt_mul, bm32, Int32.reduceToInt, Int64.reduceToInt, Nat.reduceLT, Nat.reduceEqDiff, reduceIte] at c_19
        cases e
        exact (QG.refl _)
      · rw [if_neg c_19] at e
        try simp (disch := omega) only [↓i_in, ↓i_isCouple, ↓i_isBridge, ↓i_isTheme, ↓i_isBarge, i_lt, i_le, i_eq, i_clamp, i_upd, i_m1, Int32.toInt_toInt64, Int32.toInt_add, Int32.toInt_sub, Int32.toInt_mul, bm32, Int32.reduceToInt, Int64.reduceToInt, Nat.reduceLT, Nat.reduceEqDiff, reduceIte] at c_19
        generalize x_20 : (f_m_layCosts G f0 f10 f8 f37) = z_21 at e
        obtain ⟨o_77, o_78⟩ := z_21
        replace e : ((match ((f_m_who_35 m_ 10 (m_ + 1) o_77 o_78 f36) : Int32 × (Nat → Int32) × (Nat → Int32) × (Nat → Int32)) with | (w35xl3, w35xm0, w35xm1, w35xm2) => (if (w35xm2 (0 : Int32).toNatClampNeg) = 1000000000 then (if (w35xm2 (0 : Int32).toNatClampNeg) = 1000000000 then ((-1), w35xm0, w35xm1, w35xm2) else ((w35xm2 (0 : Int32).toNatClampNeg), w35xm0, w35xm1, w35xm2)) else (if b_ = (-1) then (if (w35xm2 (0 : Int32).toNatClampNeg) = 1000000000 then ((-1), w35xm0, w35xm1, w35xm2) else ((w35xm2 (0 : Int32).toNatClampNeg), w35xm0, w35xm1, w35xm2)) else (match ((f_m_who_262 b_ 10 0 (-1) 0 w35xm0 w35xm1 w35xm2) : Int32 × Int32 × Int32 × (Nat → Int32) × (Nat → Int32) × (Nat → Int32)) with | (w262xl5, w262xl4, w262xl3, w262xm0, w262xm1, w262xm2) => (w262xl4, w262xm0, w262xm1, w262xm2)))))) = (r, u, v, w) := e
        have p_22 := p_layCosts h_0 _ _ x_20
        have i_23 := p_22
        obtain ⟨o_77_2, o_77_3, o_77_4, o_77_5, o_77_6, o_77_14, o_77_42⟩ := QGs i_23
        generalize x_24 : (f_m_who_35 m_ 10 (m_ + 1) o_77 o_78 f36) = z_25 at e
        obtain ⟨w35xl3, w35xm0, w35xm1, w35xm2⟩ := z_25
        replace e : ((if (w35xm2 (0 : Int32).toNatClampNeg) = 1000000000 then (if (w35xm2 (0 : Int32).toNatClampNeg) = 1000000000 then ((-1), w35xm0, w35xm1, w35xm2) else ((w35xm2 (0 : Int32).toNatClampNeg), w35xm0, w35xm1, w35xm2)) else (if b_ = (-1) then (if (w35xm2 (0 : Int32).toNatClampNeg) = 1000000000 then ((-1), w35xm0, w35xm1, w35xm2) else ((w35xm2 (0 : Int32).toNatClampNeg), w35xm0, w35xm1, w35xm2)) else (match ((f_m_who_262 b_ 10 0 (-1) 0 w35xm0 w35xm1 w35xm2) : Int32 × Int32 × Int32 × (Nat → Int32) × (Nat → Int32) × (Nat → Int32)) with | (w262xl5, w262xl4, w262xl3, w262xm0, w262xm1, w262xm2) => (w262xl4, w262xm0, w262xm1, w262xm2))))) = (r, u, v, w) := e
        have p_26 := pl_who_35 10 (m_ + 1) o_77 o_78 f36 i_23 _ _ _ _ x_24
        have i_27 := p_26
        obtain ⟨w35xm0_2, w35xm0_3, w35xm0_4, w35xm0_5, w35xm0_6, w35xm0_14, w35xm0_42⟩ := QGs i_27
        by_cases c_28 : (w35xm2 (0 : Int32).toNatClampNeg) = 1000000000
        · rw [if_pos c_28] at e
          try simp (disch := omega) only [↓i_in, ↓i_isCouple, ↓i_isBridge, ↓i_isTheme, ↓i_isBarge, i_lt, i_le, i_eq, i_clamp, i_upd, i_m1, Int32.toInt_toInt64, Int32.toInt_add, Int32.toInt_sub, Int32.toInt_mul, bm32, Int32.reduceToInt, Int64.reduceToInt, Nat.reduceLT, Nat.reduceEqDiff, reduceIte, o_77_2, o_77_3, o_77_4, o_77_5, o_77_6, o_77_14, o_77_42, w35xm0_2, w35xm0_3, w35xm0_4, w35xm0_5, w35xm0_6, w35xm0_14, w35xm0_42] at c_28
          by_cases c_29 : (w35xm2 (0 : Int32).toNatClampNeg) = 1000000000
          · rw [if_pos c_29] at e
            try simp (disch := omega) only [↓i_in, ↓i_isCouple, ↓i_isBridge, ↓i_isTheme, ↓i_isBarge, i_lt, i_le, i_eq, i_clamp, i_upd, i_m1, Int32.toInt_toInt64, Int32.toInt_add, Int32.toInt_sub, Int32.toInt_mul, bm32, Int32.reduceToInt, Int64.reduceToInt, Nat.reduceLT, Nat.reduceEqDiff, reduceIte, o_77_2, o_77_3, o_77_4, o_77_5, o_77_6, o_77_14, o_77_42, w35xm0_2, w35xm0_3, w35xm0_4, w35xm0_5, w35xm0_6, w35xm0_14, w35xm0_42] at c_29
            cases e
            exact i_27
          · rw [if_neg c_29] at e
            try simp (disch := omega) only [↓i_in, ↓i_isCouple, ↓i_isBridge, ↓i_isTheme, ↓i_isBarge, i_lt, i_le, i_eq, i_clamp, i_upd, i_m1, Int32.toInt_toInt64, Int32.toInt_add, Int32.toInt_sub, Int32.toInt_mul, bm32, Int32.reduceToInt, Int64.reduceToInt, Nat.reduceLT, Nat.reduceEqDiff, reduceIte, o_77_2, o_77_3, o_77_4, o_77_5, o_77_6, o_77_14, o_77_42, w35xm0_2, w35xm0_3, w35xm0_4, w35xm0_5, w35xm0_6, w35xm0_14, w35xm0_42] at c_29
            cases e
            exact i_27
        · rw [if_neg c_28] at e
          try simp (disch := omega) only [↓i_in, ↓i_isCouple, ↓i_isBridge, ↓i_isTheme, ↓i_isBarge, i_lt, i_le, i_eq, i_clamp, i_upd, i_m1, Int32.toInt_toInt64, Int32.toInt_add, Int32.toInt_sub, Int32.toInt_mul, bm32, Int32.reduceToInt, Int64.reduceToInt, Nat.reduceLT, Nat.reduceEqDiff, reduceIte, o_77_2, o_77_3, o_77_4, o_77_5, o_77_6, o_77_14, o_77_42, w35xm0_2, w35xm0_3, w35xm0_4, w35xm0_5, w35xm0_6, w35xm0_14, w35xm0_42] at c_28
          by_cases c_30 : b_ = (-1)
          · rw [if_pos c_30] at e
            try simp (disch := omega) only [↓i_in, ↓i_isCouple, ↓i_isBridge, ↓i_isTheme, ↓i_isBarge, i_lt, i_le, i_eq, i_clamp, i_upd, i_m1, Int32.toInt_toInt64, Int32.toInt_add, Int32.toInt_sub, Int32.toInt_mul, bm32, Int32.reduceToInt, Int64.reduceToInt, Nat.reduceLT, Nat.reduceEqDiff, reduceIte, o_77_2, o_77_3, o_77_4, o_77_5, o_77_6, o_77_14, o_77_42, w35xm0_2, w35xm0_3, w35xm0_4, w35xm0_5, w35xm0_6, w35xm0_14, w35xm0_42] at c_30
            by_cases c_31 : (w35xm2 (0 : Int32).toNatClampNeg) = 1000000000
            · rw [if_pos c_31] at e
              try simp (disch := omega) only [↓i_in, ↓i_isCouple, ↓i_isBridge, ↓i_isTheme, ↓i_isBarge, i_lt, i_le, i_eq, i_clamp, i_upd, i_m1, Int32.toInt_toInt64, Int32.toInt_add, Int32.toInt_sub, Int32.toInt_mul, bm32, Int32.reduceToInt, Int64.reduceToInt, Nat.reduceLT, Nat.reduceEqDiff, reduceIte, o_77_2, o_77_3, o_77_4, o_77_5, o_77_6, o_77_14, o_77_42, w35xm0_2, w35xm0_3, w35xm0_4, w35xm0_5, w35xm0_6, w35xm0_14, w35xm0_42] at c_31
              cases e
              exact i_27
            · rw [if_neg c_31] at e
              try simp (disch := omega) only [↓i_in, ↓i_isCouple, ↓i_isBridge, ↓i_isTheme, ↓i_isBarge, i_lt, i_le, i_eq, i_clamp, i_upd, i_m1, Int32.toInt_toInt64, Int32.toInt_add, Int32.toInt_sub, Int32.toInt_mul, bm32, Int32.reduceToInt, Int64.reduceToInt, Nat.reduceLT, Nat.reduceEqDiff, reduceIte, o_77_2, o_77_3, o_77_4, o_77_5, o_77_6, o_77_14, o_77_42, w35xm0_2, w35xm0_3, w35xm0_4, w35xm0_5, w35xm0_6, w35xm0_14, w35xm0_42] at c_31
              cases e
              exact i_27
          · rw [if_neg c_30] at e
            try simp (disch := omega) only [↓i_in, ↓i_isCouple, ↓i_isBridge, ↓i_isTheme, ↓i_isBarge, i_lt, i_le, i_eq, i_clamp, i_upd, i_m1, Int32.toInt_toInt64, Int32.toInt_add, Int32.toInt_sub, Int32.toInt_mul, bm32, Int32.reduceToInt, Int64.reduceToInt, Nat.reduceLT, Nat.reduceEqDiff, reduceIte, o_77_2, o_77_3, o_77_4, o_77_5, o_77_6, o_77_14, o_77_42, w35xm0_2, w35xm0_3, w35xm0_4, w35xm0_5, w35xm0_6, w35xm0_14, w35xm0_42] at c_30
            generalize x_32 : (f_m_who_262 b_ 10 0 (-1) 0 w35xm0 w35xm1 w35xm2) = z_33 at e
            obtain ⟨w262xl5, w262xl4, w262xl3, w262xm0, w262xm1, w262xm2⟩ := z_33
            replace e : ((w262xl4, w262xm0, w262xm1, w262xm2)) = (r, u, v, w) := e
            have p_34 := pl_who_262 10 0 (-1) 0 w35xm0 w35xm1 w35xm2 i_27 _ _ _ _ _ _ x_32
            have i_35 := p_34
            obtain ⟨w262xm0_2, w262xm0_3, w262xm0_4, w262xm0_5, w262xm0_6, w262xm0_14, w262xm0_42⟩ := QGs i_35
            cases e
            exact i_35
