/-! single cells that change -/
theorem BI_p {G w : Nat → Int32} {c : Nat} {x : Int32} (h : BI G w 0) (hc : c < 6) (hg : (c : Int) < (G 5).toInt) (x0 : -1 ≤ x.toInt) (x1 : x.toInt < (G 3).toInt) (hu : ∀ d : Nat, d < 6 → d ≠ c → w (6 + d) = x → x = -1) : BI G (upd w (6 + c) x) 0 := by
  obtain ⟨b1, b2, b3, b4, b5, b6, b7, b8, b9⟩ := h
  simp only [Nat.zero_add] at b1 b2 b3 b4 b5 b6 b7 b8 b9
  unfold BI
  simp only [Nat.zero_add]
  refine ⟨fun d hd => ?_, fun d hd hg' => ?_, fun d hd => ?_, fun d d' hd hd' hn he => ?_, fun d hd => ?_, fun d h0 h1 hh => ?_, fun v hv hh => ?_, fun v hv hh => ?_, ?_⟩
  · rw [pk_un (by omega)]
    exact b1 d hd
  · rw [pk_un (by omega), pk_un (by omega)]
    exact b2 d hd hg'
  · by_cases q : d = c
    · subst q
      rw [pk_us]
      exact ⟨x0, x1⟩
    · rw [pk_un (by omega)]
      exact b3 d hd
  · by_cases q : d = c
    · subst q
      rw [pk_us] at he ⊢
      rw [pk_un (by omega)] at he
      exact hu d' hd' (fun z => hn z.symm) he.symm
    · rw [pk_un (by omega)] at he ⊢
      by_cases q' : d' = c
      · subst q'
        rw [pk_us] at he
        rw [he]
        exact hu d hd q he
      · rw [pk_un (by omega)] at he
        exact b4 d d' hd hd' hn he
  · rw [pk_un (by omega)]
    exact b5 d hd
  · have := clN (n := 6) h0 h1
    rw [pk_un (by omega)] at hh ⊢
    exact b6 d h0 h1 hh
  · rw [pk_un (by omega)] at hh
    rw [pk_un (by omega), pk_un (by omega)]
    exact b7 v hv hh
  · rw [pk_un (by omega)]
    exact b8 v hv hh
  · rw [pk_un (by omega)]
    exact b9
theorem BI_t {G w : Nat → Int32} {c : Nat} {x : Int32} (h : BI G w 0) (hc : c < 6) (x0 : 0 ≤ x.toInt) (x1 : x.toInt < (G 4).toInt) : BI G (upd w (12 + c) x) 0 := by
  obtain ⟨b1, b2, b3, b4, b5, b6, b7, b8, b9⟩ := h
  simp only [Nat.zero_add] at b1 b2 b3 b4 b5 b6 b7 b8 b9
  unfold BI
  simp only [Nat.zero_add]
  refine ⟨fun d hd => ?_, fun d hd hg' => ?_, fun d hd => ?_, fun d d' hd hd' hn he => ?_, fun d hd => ?_, fun d h0 h1 hh => ?_, fun v hv hh => ?_, fun v hv hh => ?_, ?_⟩
  · rw [pk_un (by omega)]
    exact b1 d hd
  · rw [pk_un (by omega), pk_un (by omega)]
    exact b2 d hd hg'
  · rw [pk_un (by omega)]
    exact b3 d hd
  · rw [pk_un (by omega), pk_un (by omega)] at he
    rw [pk_un (by omega)]
    exact b4 d d' hd hd' hn he
  · by_cases q : d = c
    · subst q
      rw [pk_us]
      exact ⟨x0, x1⟩
    · rw [pk_un (by omega)]
      exact b5 d hd
  · have := clN (n := 6) h0 h1
    rw [pk_un (by omega)] at hh ⊢
    exact b6 d h0 h1 hh
  · rw [pk_un (by omega)] at hh
    rw [pk_un (by omega), pk_un (by omega)]
    exact b7 v hv hh
  · rw [pk_un (by omega)]
    exact b8 v hv hh
  · rw [pk_un (by omega)]
    exact b9
theorem BI_g {G w : Nat → Int32} {c x : Int32} (h : BI G w 0) (c0 : 0 ≤ c.toInt) (c1 : c.toInt < 6) (hg : c.toInt < (G 5).toInt) (x0 : 0 ≤ x.toInt) (x1 : x.toInt ≤ 99) (hd : ¬ f_m_has (w 18) c = 0 → x = 0) : BI G (upd w c.toNatClampNeg x) 0 := by
  have hc := clN (n := 6) c0 c1
  have ec := clI c0
  obtain ⟨b1, b2, b3, b4, b5, b6, b7, b8, b9⟩ := h
  simp only [Nat.zero_add] at b1 b2 b3 b4 b5 b6 b7 b8 b9
  unfold BI
  simp only [Nat.zero_add]
  refine ⟨fun d hd => ?_, fun d hd hg' => ?_, fun d hd => ?_, fun d d' hd hd' hn he => ?_, fun d hd => ?_, fun d h0 h1 hh => ?_, fun v hv hh => ?_, fun v hv hh => ?_, ?_⟩
  · by_cases q : d = c.toNatClampNeg
    · rw [q, pk_us]
      exact ⟨x0, x1⟩
    · rw [pk_un q]
      exact b1 d hd
  · rw [pk_un (by omega), pk_un (by omega)]
    exact b2 d hd hg'
  · rw [pk_un (by omega)]
    exact b3 d hd
  · rw [pk_un (by omega), pk_un (by omega)] at he
    rw [pk_un (by omega)]
    exact b4 d d' hd hd' hn he
  · rw [pk_un (by omega)]
    exact b5 d hd
  · have := clN (n := 6) h0 h1
    rw [pk_un (by omega)] at hh
    by_cases q : d.toNatClampNeg = c.toNatClampNeg
    · rw [q, pk_us]
      rw [cl_inj h0 c0 q] at hh
      exact hd hh
    · rw [pk_un q]
      exact b6 d h0 h1 hh
  · rw [pk_un (by omega)] at hh
    rw [pk_un (by omega), pk_un (by omega)]
    exact b7 v hv hh
  · rw [pk_un (by omega)]
    exact b8 v hv hh
  · rw [pk_un (by omega)]
    exact b9
theorem BI_m {G w : Nat → Int32} {k : Nat} {x : Int32} (h : BI G w 0) (hk : k = 19 ∨ 41 ≤ k) : BI G (upd w k x) 0 := by
  obtain ⟨b1, b2, b3, b4, b5, b6, b7, b8, b9⟩ := h
  simp only [Nat.zero_add] at b1 b2 b3 b4 b5 b6 b7 b8 b9
  unfold BI
  simp only [Nat.zero_add]
  refine ⟨fun d hd => ?_, fun d hd hg' => ?_, fun d hd => ?_, fun d d' hd hd' hn he => ?_, fun d hd => ?_, fun d h0 h1 hh => ?_, fun v hv hh => ?_, fun v hv hh => ?_, ?_⟩
  · rw [pk_un (by omega)]
    exact b1 d hd
  · rw [pk_un (by omega), pk_un (by omega)]
    exact b2 d hd hg'
  · rw [pk_un (by omega)]
    exact b3 d hd
  · rw [pk_un (by omega), pk_un (by omega)] at he
    rw [pk_un (by omega)]
    exact b4 d d' hd hd' hn he
  · rw [pk_un (by omega)]
    exact b5 d hd
  · have := clN (n := 6) h0 h1
    rw [pk_un (by omega)] at hh ⊢
    exact b6 d h0 h1 hh
  · rw [pk_un (by omega)] at hh
    rw [pk_un (by omega), pk_un (by omega)]
    exact b7 v hv hh
  · rw [pk_un (by omega)]
    exact b8 v hv hh
  · rw [pk_un (by omega)]
    exact b9
theorem BI_d {G w : Nat → Int32} {c : Int32} (h : BI G w 0) (c0 : 0 ≤ c.toInt) (c1 : c.toInt < 6) (hz : w c.toNatClampNeg = 0) : BI G (upd w 18 (w 18 ||| (1 <<< (c &&& 31)))) 0 := by
  obtain ⟨b1, b2, b3, b4, b5, b6, b7, b8, b9⟩ := h
  simp only [Nat.zero_add] at b1 b2 b3 b4 b5 b6 b7 b8 b9
  unfold BI
  simp only [Nat.zero_add]
  refine ⟨fun d hd => ?_, fun d hd hg' => ?_, fun d hd => ?_, fun d d' hd hd' hn he => ?_, fun d hd => ?_, fun d h0 h1 hh => ?_, fun v hv hh => ?_, fun v hv hh => ?_, ?_⟩
  · rw [pk_un (by omega)]
    exact b1 d hd
  · rw [pk_un (by omega), pk_un (by omega)]
    exact b2 d hd hg'
  · rw [pk_un (by omega)]
    exact b3 d hd
  · rw [pk_un (by omega), pk_un (by omega)] at he
    rw [pk_un (by omega)]
    exact b4 d d' hd hd' hn he
  · rw [pk_un (by omega)]
    exact b5 d hd
  · have := clN (n := 6) h0 h1
    rw [pk_us] at hh
    rw [pk_un (by omega)]
    rcases (has_or b9.1 b9.2 c0 c1 h0 h1).1 hh with q | q
    · rw [q]
      exact hz
    · exact b6 d h0 h1 q
  · rw [pk_un (by omega)] at hh
    rw [pk_un (by omega), pk_un (by omega)]
    exact b7 v hv hh
  · rw [pk_un (by omega)]
    exact b8 v hv hh
  · rw [pk_us]
    exact (has_or b9.1 b9.2 c0 c1 c0 c1).2
/-- a barge that has come through, or lies -/
theorem BI_v {G w : Nat → Int32} {v : Nat} {x y z : Int32} (h : BI G w 0) (hv : v < 7) (hg : (v : Int) < (G 6).toInt) (hx : x ≠ 0) : BI G (upd (upd (upd w (27 + v) y) (20 + v) x) (34 + v) z) 0 := by
  obtain ⟨b1, b2, b3, b4, b5, b6, b7, b8, b9⟩ := h
  simp only [Nat.zero_add] at b1 b2 b3 b4 b5 b6 b7 b8 b9
  unfold BI
  simp only [Nat.zero_add]
  have o : ∀ k, k ≠ 27 + v → k ≠ 20 + v → k ≠ 34 + v → (upd (upd (upd w (27 + v) y) (20 + v) x) (34 + v) z) k = w k := fun k a b c => by rw [pk_un c, pk_un b, pk_un a]
  have o20 : (upd (upd (upd w (27 + v) y) (20 + v) x) (34 + v) z) (20 + v) = x := by rw [pk_un (by omega), pk_us]
  generalize upd (upd (upd w (27 + v) y) (20 + v) x) (34 + v) z = u at o o20
  refine ⟨fun d hd => ?_, fun d hd hg' => ?_, fun d hd => ?_, fun d d' hd hd' hn he => ?_, fun d hd => ?_, fun d h0 h1 hh => ?_, fun v' hv' hh => ?_, fun v' hv' hh => ?_, ?_⟩
  · rw [o _ (by omega) (by omega) (by omega)]
    exact b1 d hd
  · rw [o _ (by omega) (by omega) (by omega), o _ (by omega) (by omega) (by omega)]
    exact b2 d hd hg'
  · rw [o _ (by omega) (by omega) (by omega)]
    exact b3 d hd
  · rw [o _ (by omega) (by omega) (by omega), o (6 + d') (by omega) (by omega) (by omega)] at he
    rw [o _ (by omega) (by omega) (by omega)]
    exact b4 d d' hd hd' hn he
  · rw [o _ (by omega) (by omega) (by omega)]
    exact b5 d hd
  · have := clN (n := 6) h0 h1
    rw [o _ (by omega) (by omega) (by omega)] at hh ⊢
    exact b6 d h0 h1 hh
  · by_cases q : v' = v
    · rw [q, o20] at hh
      exact absurd hh hx
    · rw [o _ (by omega) (by omega) (by omega)] at hh
      rw [o _ (by omega) (by omega) (by omega), o _ (by omega) (by omega) (by omega)]
      exact b7 v' hv' hh
  · rw [o _ (by omega) (by omega) (by omega)]
    exact b8 v' hv' hh
  · rw [o _ (by omega) (by omega) (by omega)]
    exact b9
