/-! a quarrel, side by side -/
theorem i_div {a d : Int32} (h : 0 ≤ a.toInt) (hd : 0 < d.toInt) : (a / d).toInt = a.toInt / d.toInt := by
  have hne : d ≠ -1 := by
    intro q
    rw [q, i_m1] at hd
    omega
  rw [Int32.toInt_div_of_ne_right _ _ hne, Int.tdiv_eq_ediv_of_nonneg h]
theorem stamp_eq {G f10 : Nat → Int32} {c t g : Int32} (h7 : G 7 = 0 ∨ G 7 = 1) : f_e_stampOf_x9 g (f10 (5 * c + t).toNatClampNeg) (G 7) = f_m_stampOf G f10 c t g := by
  unfold f_e_stampOf_x9 f_m_stampOf
  have sw : ∀ X : Int32, (if X < g then X else g) = (if g ≤ X then g else X) := by
    intro X
    by_cases q : X < g
    · have : ¬ g ≤ X := by
        rw [i_lt] at q
        rw [i_le]
        omega
      rw [if_pos q, if_neg this]
    · have : g ≤ X := by
        rw [i_lt] at q
        rw [i_le]
        omega
      rw [if_neg q, if_pos this]
  rcases h7 with q | q
  · have n : ¬ G 7 = 1 := by rw [q]; decide
    rw [if_pos q, if_neg n, sw]
  · have n : ¬ G 7 = 0 := by rw [q]; decide
    rw [if_neg n, if_pos q, sw]
theorem stamp_b {G f10 : Nat → Int32} {c t g : Int32} (h0 : 0 ≤ g.toInt) (h1 : g.toInt ≤ 99) (f0 : 0 ≤ (f10 (5 * c + t).toNatClampNeg).toInt) (f9 : (f10 (5 * c + t).toNatClampNeg).toInt ≤ 9) : 0 ≤ (f_m_stampOf G f10 c t g).toInt ∧ (f_m_stampOf G f10 c t g).toInt ≤ g.toInt := by
  unfold f_m_stampOf
  generalize f10 (5 * c + t).toNatClampNeg = F at f0 f9
  have e1 : (g / 10).toInt = g.toInt / 10 := i_div h0 (by decide)
  have e2 : (F + g / 10).toInt = F.toInt + g.toInt / 10 := by rw [i_add (by omega) (by omega), e1]
  have e3 : ((F + g / 10) / 2).toInt = (F.toInt + g.toInt / 10) / 2 := by
    have := i_div (a := F + g / 10) (d := 2) (by omega) (by decide)
    rw [this, e2]
    rfl
  by_cases c1 : G 7 = 1
  · rw [if_pos c1]
    by_cases c2 : g ≤ (F + g / 10) / 2
    · rw [if_pos c2]
      omega
    · rw [if_neg c2]
      rw [i_le] at c2
      omega
  · rw [if_neg c1]
    by_cases c2 : g ≤ F + g / 10
    · rw [if_pos c2]
      omega
    · rw [if_neg c2]
      rw [i_le] at c2
      omega
theorem stampG {G H f10 : Nat → Int32} {c t g : Int32} (h : H 7 = G 7) : f_m_stampOf H f10 c t g = f_m_stampOf G f10 c t g := by
  unfold f_m_stampOf
  rw [h]
theorem run_loop {f10 : Nat → Int32} {c t g n1 n2 s : Int32} (g0 : 0 ≤ g.toInt) (g9 : g.toInt ≤ 99) (hs : s = 0 ∨ s = 1) (f0 : 0 ≤ (f10 (5 * c + t).toNatClampNeg).toInt) (f9 : (f10 (5 * c + t).toNatClampNeg).toInt ≤ 9) (hn : ∀ z : Int, 0 ≤ z → z ≤ 99 → (z < n1.toInt ↔ z < n2.toInt)) : ∀ (n m : Nat) (mi sum stamp : Int32) (G : Nat → Int32), G 7 = s → G 32 = mi → 0 ≤ (G 33).toInt → (G 33).toInt ≤ g.toInt → sum.toInt = g.toInt - (G 33).toInt → 0 ≤ mi.toInt → mi.toInt ≤ g.toInt - (G 33).toInt → ((G 33).toInt < g.toInt → 0 < mi.toInt) → stamp = f_m_stampOf G f10 c t (G 33) → (G 33).toInt < n → g.toInt - mi.toInt < m → ∃ (st sm j : Int32) (H : Nat → Int32), f_m_quarrels_25 f10 c t n2 n stamp sum G = (st, sm, H) ∧ (∀ k0 k1 k2 k3 k4 k1' k3' k4', f_e_run_x4_13 k0 k1 k2 k3 k4 g (f10 (5 * c + t).toNatClampNeg) s n1 m mi mi k1' (G 33) k3' k4' = (j, H 32, k1', H 33, k3', k4')) ∧ (∀ k, k ≠ 32 → k ≠ 33 → H k = G k) ∧ sm.toInt = g.toInt - (H 33).toInt ∧ 0 ≤ (H 33).toInt ∧ (H 33).toInt ≤ g.toInt ∧ 0 ≤ (H 32).toInt ∧ (H 32).toInt ≤ g.toInt - (H 33).toInt ∧ ((H 33).toInt < g.toInt → 0 < (H 32).toInt) := by
  intro n
  induction n with
  | zero => intro m mi sum stamp G h7 h32 h0; omega
  | succ n ih =>
    intro m mi sum stamp G h7 h32 h0 h1 h2 h3 h4 h5 h6 h8 h9
    have e7 : f_e_stampOf_x9 (G 33) (f10 (5 * c + t).toNatClampNeg) s = stamp := by
      rw [h6, ← h7]
      exact stamp_eq (by rw [h7]; exact hs)
    have sb := stamp_b (G := G) (f10 := f10) (c := c) (t := t) (g := G 33) h0 (by omega) f0 f9
    rw [← h6] at sb
    have eg := i_sub (a := g) (b := G 33) (by omega) (by omega)
    cases m with
    | zero => omega
    | succ m =>
      rw [f_m_quarrels_25_s]
      by_cases c1 : stamp ≤ 0
      · rw [if_pos c1]
        refine ⟨stamp, sum, mi, G, rfl, fun k0 k1 k2 k3 k4 k1' k3' k4' => ?_, fun k _ _ => rfl, h2, h0, h1, by rw [h32]; exact h3, by rw [h32]; exact h4, by rw [h32]; exact h5⟩
        rw [f_e_run_x4_13_s, h32]
        by_cases d1 : g ≤ mi
        · rw [if_pos d1]
        · rw [if_neg d1]
          by_cases d2 : n1 ≤ g - G 33
          · rw [if_pos d2]
          · rw [if_neg d2, e7, if_neg]
            rw [i_le, i_0] at c1
            rw [i_lt, i_0]
            omega
      · rw [if_neg c1]
        rw [i_le, i_0] at c1
        have hz := hn (g.toInt - (G 33).toInt) (by omega) (by omega)
        by_cases c2 : n2 ≤ sum
        · rw [if_pos c2]
          refine ⟨stamp, sum, mi, G, rfl, fun k0 k1 k2 k3 k4 k1' k3' k4' => ?_, fun k _ _ => rfl, h2, h0, h1, by rw [h32]; exact h3, by rw [h32]; exact h4, by rw [h32]; exact h5⟩
          rw [f_e_run_x4_13_s, h32]
          by_cases d1 : g ≤ mi
          · rw [if_pos d1]
          · have d2 : n1 ≤ g - G 33 := by
              rw [i_le] at c2 ⊢
              omega
            rw [if_neg d1, if_pos d2]
        · rw [if_neg c2]
          rw [i_le] at c2
          have d1 : ¬ g ≤ mi := by
            rw [i_le]
            omega
          have d2 : ¬ n1 ≤ g - G 33 := by
            rw [i_le]
            omega
          have d3 : 0 < stamp := by
            rw [i_lt, i_0]
            omega
          have el := i_sub (a := G 33) (b := stamp) (by omega) (by omega)
          have em := i_a1 (a := mi) (by omega) (by omega)
          have es := i_add (a := sum) (b := stamp) (by omega) (by omega)
          have u33 : (upd (upd G 32 (G 32 + 1)) 33 (G 33 - stamp)) 33 = G 33 - stamp := pk_us
          have u32 : (upd (upd G 32 (G 32 + 1)) 33 (G 33 - stamp)) 32 = mi + 1 := by rw [pk_un (by decide), pk_us, h32]
          have u7 : (upd (upd G 32 (G 32 + 1)) 33 (G 33 - stamp)) 7 = s := by rw [pk_un (by decide), pk_un (by decide)]; exact h7
          have uo : ∀ k, k ≠ 32 → k ≠ 33 → (upd (upd G 32 (G 32 + 1)) 33 (G 33 - stamp)) k = G k := fun k a b => by rw [pk_un b, pk_un a]
          generalize upd (upd G 32 (G 32 + 1)) 33 (G 33 - stamp) = U at u33 u32 u7 uo
          obtain ⟨st, sm, j, H, x1, x2, x3, x4, x5, x6, x7, x8, x9⟩ := ih m (mi + 1) (sum + stamp) (f_m_stampOf U f10 c t (G 33 - stamp)) U u7 u32 (by rw [u33]; omega) (by rw [u33]; omega) (by rw [u33]; omega) (by omega) (by rw [u33]; omega) (fun _ => by omega) (by rw [u33]) (by rw [u33]; omega) (by omega)
          refine ⟨st, sm, j, H, x1, fun k0 k1 k2 k3 k4 k1' k3' k4' => ?_, fun k a b => (x3 k a b).trans (uo k a b), x4, x5, x6, x7, x8, x9⟩
          have := x2 k0 k1 k2 k3 k4 k1' k3' k4'
          rw [u33] at this
          rw [f_e_run_x4_13_s, if_neg d1, if_neg d2, e7, if_pos d3, this]
/-- the class's quarrel (minutes, cost, left, opened, reconciled) and the reference's (fields 32, 33, 34) -/
theorem run_eq {G f10 : Nat → Int32} {c t g n1 n2 : Int32} (g0 : 0 ≤ g.toInt) (g9 : g.toInt ≤ 99) (h7 : G 7 = 0 ∨ G 7 = 1) (f0 : 0 ≤ (f10 (5 * c + t).toNatClampNeg).toInt) (f9 : (f10 (5 * c + t).toNatClampNeg).toInt ≤ 9) (hn : ∀ z : Int, 0 ≤ z → z ≤ 99 → (z < n1.toInt ↔ z < n2.toInt)) : ∃ (H : Nat → Int32) (re : Int32), f_m_quarrels G f10 c t g n2 = H ∧ (∀ k0 k1 k2 k3 k4, f_e_run_x4 k0 k1 k2 k3 k4 g (f10 (5 * c + t).toNatClampNeg) (G 7) n1 = (H 32, g - H 33, H 33, H 34, re)) ∧ (∀ k, k < 32 ∨ 35 ≤ k → H k = G k) ∧ (H 34 = 0 ∨ H 34 = 1) ∧ (re = 0 ∨ re = 1) ∧ (re ≠ 0 ↔ (H 33 = 0 ∧ 0 < (H 32).toInt)) ∧ 0 ≤ (H 33).toInt ∧ (H 33).toInt ≤ g.toInt ∧ 0 ≤ (H 32).toInt ∧ (H 32).toInt ≤ 99 ∧ ((H 34) ≠ 0 ↔ n2.toInt ≤ g.toInt - (H 33).toInt) := by
  have u33 : (upd (upd G 32 0) 33 g) 33 = g := pk_us
  have u32 : (upd (upd G 32 0) 33 g) 32 = 0 := by rw [pk_un (by decide), pk_us]
  have u7 : (upd (upd G 32 0) 33 g) 7 = G 7 := by rw [pk_un (by decide), pk_un (by decide)]
  have uo : ∀ k, k < 32 ∨ 35 ≤ k → (upd (upd G 32 0) 33 g) k = G k := fun k hk => by rw [pk_un (by omega), pk_un (by omega)]
  have hq : f_m_quarrels G f10 c t g n2 = (match (f_m_quarrels_25 f10 c t n2 (g.toInt.toNat + 2) (f_m_stampOf (upd (upd G 32 0) 33 g) f10 c t g) 0 (upd (upd G 32 0) 33 g)) with | (w_4l6, w_4l5, w_4m0) => (if w_4l5 < n2 then (upd w_4m0 34 0) else (upd w_4m0 34 1))) := rfl
  rw [hq]
  generalize upd (upd G 32 0) 33 g = U at u33 u32 u7 uo
  obtain ⟨st, sm, j, H, x1, x2, x3, x4, x5, x6, x7, x8, x9⟩ := run_loop (f10 := f10) (c := c) (t := t) (n1 := n1) (n2 := n2) g0 g9 h7 f0 f9 hn (g.toInt.toNat + 2) ((g.toInt - (0 : Int32).toInt).toNat + 1) 0 0 (f_m_stampOf U f10 c t g) U u7 u32 (by rw [u33]; exact g0) (by rw [u33]; exact Int.le_refl _) (by rw [u33, i_0]; omega) (by decide) (by rw [u33, i_0]; omega) (fun q => by rw [u33] at q; omega) (by rw [u33]) (by rw [u33]; omega) (by rw [i_0]; omega)
  have eg := i_sub (a := g) (b := H 33) (by omega) (by omega)
  have hz := hn (g.toInt - (H 33).toInt) (by omega) (by omega)
  rw [x1]
  dsimp (config := { etaStruct := .none }) only
  have he : ∀ k0 k1 k2 k3 k4, f_e_run_x4 k0 k1 k2 k3 k4 g (f10 (5 * c + t).toNatClampNeg) (G 7) n1 = (if (g - H 33) < n1 then (if (g - H 33) ≤ 0 then (H 32, (g - H 33), H 33, 0, 0) else (if H 33 = 0 then (H 32, (g - H 33), H 33, 0, 1) else (H 32, (g - H 33), H 33, 0, 0))) else (if (g - H 33) ≤ 0 then (H 32, (g - H 33), H 33, 1, 0) else (if H 33 = 0 then (H 32, (g - H 33), H 33, 1, 1) else (H 32, (g - H 33), H 33, 1, 0)))) := by
    intro k0 k1 k2 k3 k4
    unfold f_e_run_x4
    have := x2 k0 k1 k2 k3 k4 k1 k3 k4
    rw [u33] at this
    rw [this]
  have op : ∃ o : Int32, (if sm < n2 then (upd H 34 0) else (upd H 34 1)) = upd H 34 o ∧ ((o = 0 ∧ (g - H 33) < n1 ∧ ¬ n2.toInt ≤ g.toInt - (H 33).toInt) ∨ (o = 1 ∧ ¬ (g - H 33) < n1 ∧ n2.toInt ≤ g.toInt - (H 33).toInt)) := by
    by_cases q : sm < n2
    · rw [if_pos q]
      rw [i_lt, x4] at q
      exact ⟨0, rfl, Or.inl ⟨rfl, by rw [i_lt]; omega, by omega⟩⟩
    · rw [if_neg q]
      rw [i_lt, x4] at q
      exact ⟨1, rfl, Or.inr ⟨rfl, by rw [i_lt]; omega, by omega⟩⟩
  obtain ⟨o, o1, o2⟩ := op
  have rr : ∃ re : Int32, (∀ a : Int32, (if (g - H 33) ≤ 0 then (H 32, (g - H 33), H 33, a, (0 : Int32)) else (if H 33 = 0 then (H 32, (g - H 33), H 33, a, 1) else (H 32, (g - H 33), H 33, a, 0))) = (H 32, g - H 33, H 33, a, re)) ∧ (re = 0 ∨ re = 1) ∧ (re ≠ 0 ↔ (H 33 = 0 ∧ 0 < (H 32).toInt)) := by
    by_cases q : (g - H 33) ≤ 0
    · refine ⟨0, fun a => if_pos q, Or.inl rfl, ⟨fun z => absurd rfl z, fun z => ?_⟩⟩
      rw [i_le, i_0, eg] at q
      omega
    · have q' := q
      rw [i_le, i_0, eg] at q
      by_cases p : H 33 = 0
      · refine ⟨1, fun a => by rw [if_neg q', if_pos p], Or.inr rfl, ⟨fun _ => ⟨p, x9 (by omega)⟩, fun _ => by decide⟩⟩
      · exact ⟨0, fun a => by rw [if_neg q', if_neg p], Or.inl rfl, ⟨fun z => absurd rfl z, fun z => absurd z.1 p⟩⟩
  obtain ⟨re, r1, r2, r3⟩ := rr
  have v32 : (upd H 34 o) 32 = H 32 := pk_un (by decide)
  have v33 : (upd H 34 o) 33 = H 33 := pk_un (by decide)
  have v34 : (upd H 34 o) 34 = o := pk_us
  refine ⟨upd H 34 o, re, o1, fun k0 k1 k2 k3 k4 => ?_, fun k hk => ?_, ?_, r2, ?_, ?_, ?_, ?_, ?_, ?_⟩
  · rw [he, v32, v33, v34]
    rcases o2 with ⟨rfl, z, _⟩ | ⟨rfl, z, _⟩
    · rw [if_pos z, r1]
    · rw [if_neg z, r1]
  · rw [pk_un (by omega), x3 k (by omega) (by omega), uo k hk]
  · rw [v34]
    rcases o2 with ⟨z, _⟩ | ⟨z, _⟩
    · exact Or.inl z
    · exact Or.inr z
  · rw [v32, v33]
    exact r3
  · rw [v33]
    exact x5
  · rw [v33]
    exact x6
  · rw [v32]
    exact x7
  · rw [v32]
    omega
  · rw [v33, v34]
    rcases o2 with ⟨rfl, _, z⟩ | ⟨rfl, _, z⟩
    · exact ⟨fun q => absurd rfl q, fun q => absurd q z⟩
    · exact ⟨fun _ => z, fun _ => by decide⟩
