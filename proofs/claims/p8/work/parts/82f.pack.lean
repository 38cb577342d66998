section
/-! the state of the class and the reference's, side by side: cells -/
/-- where a cell of the class's state lies in a block of the reference -/
def cx (i : Nat) : Nat := if i = 0 then 19 else if i = 1 then 18 else if i < 20 then i - 2 else i
theorem cx_lt {i : Nat} (h : i < 41) : cx i < 41 := by
  unfold cx
  (repeat' split) <;> omega
theorem cx_inj {i j : Nat} (h : cx i = cx j) : i = j := by
  unfold cx at h
  (repeat' split at h) <;> omega
theorem cx_g {n : Nat} (h : n < 6) : cx (2 + n) = n := by
  unfold cx
  (repeat' split) <;> omega
theorem cx_p {n : Nat} (h : n < 6) : cx (8 + n) = 6 + n := by
  unfold cx
  (repeat' split) <;> omega
theorem cx_t {n : Nat} (h : n < 6) : cx (14 + n) = 12 + n := by
  unfold cx
  (repeat' split) <;> omega
theorem cx_v {n : Nat} (h : 20 ≤ n) : cx n = n := by
  unfold cx
  (repeat' split) <;> omega
theorem ixn {a c : Int32} (ha : 0 ≤ a.toInt) (hc : 0 ≤ c.toInt) (h : a.toInt + c.toInt < 2147483648) : (a + c).toNatClampNeg = a.toNatClampNeg + c.toNatClampNeg := by
  rw [i_clamp, i_clamp, i_clamp, i_add (by omega) h]
  omega
theorem ix0 {c : Int32} : (0 + c).toNatClampNeg = c.toNatClampNeg := by rw [Int32.zero_add]
theorem clN {c : Int32} {n : Nat} (h0 : 0 ≤ c.toInt) (h : c.toInt < n) : c.toNatClampNeg < n := by
  rw [i_clamp]
  omega
theorem clI {c : Int32} (h0 : 0 ≤ c.toInt) : (c.toNatClampNeg : Int) = c.toInt := by
  rw [i_clamp]
  omega
theorem cl_inj {a b : Int32} (ha : 0 ≤ a.toInt) (hb : 0 ≤ b.toInt) (h : a.toNatClampNeg = b.toNatClampNeg) : a = b := by
  rw [i_clamp, i_clamp] at h
  rw [i_eq]
  omega
def ST (f w : Nat → Int32) (o h : Nat) : Prop := ∀ i, i < 41 → f (o + i) = w (h + cx i)
theorem ST_at {f w : Nat → Int32} (h : ST f w 0 0) {i : Int32} (h0 : 0 ≤ i.toInt) (h1 : i.toInt < 41) : atF 41 f i = w (cx i.toNatClampNeg) := by
  rw [at_in h0 h1]
  have := h i.toNatClampNeg (clN h0 h1)
  rw [Nat.zero_add, Nat.zero_add] at this
  exact this
theorem ST_put {f w : Nat → Int32} (h : ST f w 0 0) {i x : Int32} (h0 : 0 ≤ i.toInt) (h1 : i.toInt < 41) : ST (putF 41 f i x) (upd w (cx i.toNatClampNeg) x) 0 0 := by
  intro j hj
  have e := h j hj
  rw [put_in h0 h1]
  rw [Nat.zero_add, Nat.zero_add] at e ⊢
  by_cases c : j = i.toNatClampNeg
  · rw [c, pk_us, pk_us]
  · rw [pk_un c, pk_un (fun q => c (cx_inj q))]
    exact e
theorem ST_off {f w : Nat → Int32} (h : ST f w 0 0) {k : Nat} {x : Int32} (hk : 41 ≤ k) : ST f (upd w k x) 0 0 := by
  intro j hj
  have := cx_lt hj
  rw [pk_un (by omega)]
  exact h j hj
theorem ST_of {f w w' : Nat → Int32} {o h h' : Nat} (q : ST f w o h) (e : ∀ k, k < 41 → w' (h' + k) = w (h + k)) : ST f w' o h' := by
  intro i hi
  rw [q i hi, e (cx i) (cx_lt hi)]
theorem sm {a c : Int32} {x y : Int} (ha : a.toInt = x) (h0 : 0 ≤ c.toInt) (h1 : c.toInt < y) (hx : 0 ≤ x) (hxy : x + y ≤ 41) : 0 ≤ (a + c).toInt ∧ (a + c).toInt < 41 := by
  rw [i_add (by omega) (by omega)]
  omega
theorem sN {a c : Int32} {x : Nat} {y : Int} (ha : a.toInt = x) (h0 : 0 ≤ c.toInt) (h1 : c.toInt < y) (hxy : (x : Int) + y ≤ 41) : (a + c).toNatClampNeg = x + c.toNatClampNeg := by
  rw [ixn (by omega) h0 (by omega), i_clamp a, ha]
  rfl
theorem e_g {f w : Nat → Int32} (h : ST f w 0 0) {c : Int32} (h0 : 0 ≤ c.toInt) (h1 : c.toInt < 6) : f_e_grievanceOf f c = w c.toNatClampNeg := by
  unfold f_e_grievanceOf
  have b := sm (a := 2) (c := c) rfl h0 h1 (by decide) (by decide)
  rw [ST_at h b.1 b.2, sN (a := 2) (x := 2) rfl h0 h1 (by decide), cx_g (clN h0 h1)]
theorem e_p {f w : Nat → Int32} (h : ST f w 0 0) {c : Int32} (h0 : 0 ≤ c.toInt) (h1 : c.toInt < 6) : f_e_bridgeOf f c = w (6 + c.toNatClampNeg) := by
  unfold f_e_bridgeOf
  have b := sm (a := 8) (c := c) rfl h0 h1 (by decide) (by decide)
  rw [ST_at h b.1 b.2, sN (a := 8) (x := 8) rfl h0 h1 (by decide), cx_p (clN h0 h1)]
theorem e_t {f w : Nat → Int32} (h : ST f w 0 0) {c : Int32} (h0 : 0 ≤ c.toInt) (h1 : c.toInt < 6) : f_e_themeOf f c = w (12 + c.toNatClampNeg) := by
  unfold f_e_themeOf
  have b := sm (a := 14) (c := c) rfl h0 h1 (by decide) (by decide)
  rw [ST_at h b.1 b.2, sN (a := 14) (x := 14) rfl h0 h1 (by decide), cx_t (clN h0 h1)]
theorem e_fate {f w : Nat → Int32} (h : ST f w 0 0) {c : Int32} (h0 : 0 ≤ c.toInt) (h1 : c.toInt < 7) : f_e_fateOf f c = w (20 + c.toNatClampNeg) := by
  unfold f_e_fateOf
  have b := sm (a := 20) (c := c) rfl h0 h1 (by decide) (by decide)
  rw [ST_at h b.1 b.2, sN (a := 20) (x := 20) rfl h0 h1 (by decide), cx_v (by omega)]
theorem e_lying {f w : Nat → Int32} (h : ST f w 0 0) {c : Int32} (h0 : 0 ≤ c.toInt) (h1 : c.toInt < 7) : f_e_lyingAt f c = w (27 + c.toNatClampNeg) := by
  unfold f_e_lyingAt
  have b := sm (a := 27) (c := c) rfl h0 h1 (by decide) (by decide)
  rw [ST_at h b.1 b.2, sN (a := 27) (x := 27) rfl h0 h1 (by decide), cx_v (by omega)]
theorem e_passed {f w : Nat → Int32} (h : ST f w 0 0) {c : Int32} (h0 : 0 ≤ c.toInt) (h1 : c.toInt < 7) : f_e_passedAt f c = w (34 + c.toNatClampNeg) := by
  unfold f_e_passedAt
  have b := sm (a := 34) (c := c) rfl h0 h1 (by decide) (by decide)
  rw [ST_at h b.1 b.2, sN (a := 34) (x := 34) rfl h0 h1 (by decide), cx_v (by omega)]
theorem e_min {f w : Nat → Int32} (h : ST f w 0 0) : f_e_minutes f = w 19 := by
  unfold f_e_minutes
  rw [ST_at h (by decide) (by decide)]
  rfl
theorem e_rec {f w : Nat → Int32} (h : ST f w 0 0) : f_e_reconciledSet f = w 18 := by
  unfold f_e_reconciledSet
  rw [ST_at h (by decide) (by decide)]
  rfl
theorem w_g {f w : Nat → Int32} (h : ST f w 0 0) {c x : Int32} (h0 : 0 ≤ c.toInt) (h1 : c.toInt < 6) : ST (f_e_leave f c x) (upd w c.toNatClampNeg x) 0 0 := by
  unfold f_e_leave
  have b := sm (a := 2) (c := c) rfl h0 h1 (by decide) (by decide)
  have := ST_put h (x := x) b.1 b.2
  rw [sN (a := 2) (x := 2) rfl h0 h1 (by decide), cx_g (clN h0 h1)] at this
  exact this
theorem w_p {f w : Nat → Int32} (h : ST f w 0 0) {c x : Int32} (h0 : 0 ≤ c.toInt) (h1 : c.toInt < 6) : ST (f_e_place f c x) (upd w (6 + c.toNatClampNeg) x) 0 0 := by
  unfold f_e_place
  have b := sm (a := 8) (c := c) rfl h0 h1 (by decide) (by decide)
  have := ST_put h (x := x) b.1 b.2
  rw [sN (a := 8) (x := 8) rfl h0 h1 (by decide), cx_p (clN h0 h1)] at this
  exact this
theorem w_t {f w : Nat → Int32} (h : ST f w 0 0) {c x : Int32} (h0 : 0 ≤ c.toInt) (h1 : c.toInt < 6) : ST (f_e_turnTo f c x) (upd w (12 + c.toNatClampNeg) x) 0 0 := by
  unfold f_e_turnTo
  have b := sm (a := 14) (c := c) rfl h0 h1 (by decide) (by decide)
  have := ST_put h (x := x) b.1 b.2
  rw [sN (a := 14) (x := 14) rfl h0 h1 (by decide), cx_t (clN h0 h1)] at this
  exact this
theorem w_fate {f w : Nat → Int32} (h : ST f w 0 0) {c x : Int32} (h0 : 0 ≤ c.toInt) (h1 : c.toInt < 7) : ST (putF 41 f (20 + c) x) (upd w (20 + c.toNatClampNeg) x) 0 0 := by
  have b := sm (a := 20) (c := c) rfl h0 h1 (by decide) (by decide)
  have := ST_put h (x := x) b.1 b.2
  rw [sN (a := 20) (x := 20) rfl h0 h1 (by decide), cx_v (by omega)] at this
  exact this
theorem w_berth {f w : Nat → Int32} (h : ST f w 0 0) {c x : Int32} (h0 : 0 ≤ c.toInt) (h1 : c.toInt < 7) : ST (putF 41 f (27 + c) x) (upd w (27 + c.toNatClampNeg) x) 0 0 := by
  have b := sm (a := 27) (c := c) rfl h0 h1 (by decide) (by decide)
  have := ST_put h (x := x) b.1 b.2
  rw [sN (a := 27) (x := 27) rfl h0 h1 (by decide), cx_v (by omega)] at this
  exact this
theorem w_when {f w : Nat → Int32} (h : ST f w 0 0) {c x : Int32} (h0 : 0 ≤ c.toInt) (h1 : c.toInt < 7) : ST (putF 41 f (34 + c) x) (upd w (34 + c.toNatClampNeg) x) 0 0 := by
  have b := sm (a := 34) (c := c) rfl h0 h1 (by decide) (by decide)
  have := ST_put h (x := x) b.1 b.2
  rw [sN (a := 34) (x := 34) rfl h0 h1 (by decide), cx_v (by omega)] at this
  exact this
theorem w_min {f w : Nat → Int32} (h : ST f w 0 0) {v : Int32} : ST (f_e_spendMinutes f v) (upd w 19 (w 19 + v)) 0 0 := by
  unfold f_e_spendMinutes
  have := ST_put h (i := 0) (x := w 19 + v) (by decide) (by decide)
  rw [e_min h]
  exact this
theorem w_rec {f w : Nat → Int32} (h : ST f w 0 0) {x : Int32} : ST (putF 41 f 1 x) (upd w 18 x) 0 0 := ST_put h (i := 1) (x := x) (by decide) (by decide)
theorem and1 (v : Int32) : v &&& 1 = 0 ∨ v &&& 1 = 1 := by
  have h : (v.toBitVec &&& 1#32).toNat ≤ 1 := by
    rw [BitVec.toNat_and]
    exact Nat.and_le_right
  have e : ∀ n : Nat, (v.toBitVec &&& 1#32).toNat = n → v &&& 1 = Int32.ofNat n := by
    intro n hn
    apply Int32.toBitVec_inj.mp
    show v.toBitVec &&& 1#32 = (Int32.ofNat n).toBitVec
    rw [Int32.toBitVec_ofNat', ← hn, BitVec.ofNat_toNat, BitVec.setWidth_eq]
  rcases (show (v.toBitVec &&& 1#32).toNat = 0 ∨ (v.toBitVec &&& 1#32).toNat = 1 by omega) with q | q
  · exact Or.inl (e 0 q)
  · exact Or.inr (e 1 q)
theorem e_isRec (f : Nat → Int32) (c : Int32) : f_e_isReconciled f c = f_m_has (f_e_reconciledSet f) c := by
  unfold f_e_isReconciled f_m_has
  rcases and1 (f_e_reconciledSet f >>> (c &&& 31)) with q | q
  · rw [if_pos q, if_neg (by rw [q]; decide)]
  · rw [if_neg (by rw [q]; decide), if_pos q]
theorem e_done {f w : Nat → Int32} (h : ST f w 0 0) (c : Int32) : f_e_isReconciled f c = f_m_isDone w c := by
  rw [e_isRec, e_rec h]
  rfl
theorem has01 (s k : Int32) : f_m_has s k = 0 ∨ f_m_has s k = 1 := by
  unfold f_m_has
  by_cases c : (s >>> (k &&& 31)) &&& 1 = 1
  · exact Or.inr (if_pos c)
  · exact Or.inl (if_neg c)
theorem e_has {t b : Int32} : (if b < 0 then (0 : Int32) else (if t ≤ b then 0 else 1)) = 0 ↔ ¬ (0 ≤ b.toInt ∧ b.toInt < t.toInt) := by
  by_cases c1 : b < 0
  · rw [if_pos c1]
    rw [i_lt, i_0] at c1
    exact ⟨fun _ => by omega, fun _ => rfl⟩
  · rw [if_neg c1]
    rw [i_lt, i_0] at c1
    by_cases c2 : t ≤ b
    · rw [if_pos c2]
      rw [i_le] at c2
      exact ⟨fun _ => by omega, fun _ => rfl⟩
    · rw [if_neg c2]
      rw [i_le] at c2
      exact ⟨fun q => absurd q (by decide), fun q => absurd ⟨by omega, by omega⟩ q⟩
theorem m_lt {g v : Int32} (h0 : 0 ≤ g.toInt) : ¬ (0 ≤ v.toInt ∧ v.toInt ≤ (g - 1).toInt) ↔ ¬ (0 ≤ v.toInt ∧ v.toInt < g.toInt) := by
  have := Int32.toInt_lt g
  rw [i_sub (by rw [i_1]; omega) (by rw [i_1]; omega), i_1]
  omega
theorem q_couple {G : Nat → Int32} (hG : GI G) (t0 t1 t3 t4 v : Int32) : f_e_hasCouple t0 t1 (G 5) t3 t4 v = 0 ↔ f_m_isCouple G v = 0 := by
  rw [i_isCouple, m_lt hG.2.2.2.1.1]
  exact e_has
theorem q_bridge {G : Nat → Int32} (hG : GI G) (t1 t2 t3 t4 v : Int32) : f_e_hasBridge (G 3) t1 t2 t3 t4 v = 0 ↔ f_m_isBridge G v = 0 := by
  rw [i_isBridge, m_lt hG.2.1.1]
  exact e_has
theorem q_theme {G : Nat → Int32} (hG : GI G) (t0 t2 t3 t4 v : Int32) : f_e_hasTheme t0 (G 4) t2 t3 t4 v = 0 ↔ f_m_isTheme G v = 0 := by
  rw [i_isTheme, m_lt hG.2.2.1.1]
  exact e_has
theorem q_barge {G : Nat → Int32} (hG : GI G) (t0 t1 t2 t4 v : Int32) : f_e_hasBarge t0 t1 t2 (G 6) t4 v = 0 ↔ f_m_isBarge G v = 0 := by
  rw [i_isBarge, m_lt hG.2.2.2.2.1.1]
  exact e_has
theorem l_couple {G : Nat → Int32} (hG : GI G) {v : Int32} (h : ¬ f_m_isCouple G v = 0) : 0 ≤ v.toInt ∧ v.toInt < (G 5).toInt ∧ v.toInt < 6 := by
  rw [i_isCouple, m_lt hG.2.2.2.1.1] at h
  have := hG.2.2.2.1.2
  omega
theorem l_bridge {G : Nat → Int32} (hG : GI G) {v : Int32} (h : ¬ f_m_isBridge G v = 0) : 0 ≤ v.toInt ∧ v.toInt < (G 3).toInt ∧ v.toInt < 6 := by
  rw [i_isBridge, m_lt hG.2.1.1] at h
  have := hG.2.1.2
  omega
theorem l_theme {G : Nat → Int32} (hG : GI G) {v : Int32} (h : ¬ f_m_isTheme G v = 0) : 0 ≤ v.toInt ∧ v.toInt < (G 4).toInt ∧ v.toInt < 5 := by
  rw [i_isTheme, m_lt hG.2.2.1.1] at h
  have := hG.2.2.1.2
  omega
theorem l_barge {G : Nat → Int32} (hG : GI G) {v : Int32} (h : ¬ f_m_isBarge G v = 0) : 0 ≤ v.toInt ∧ v.toInt < (G 6).toInt ∧ v.toInt < 7 := by
  rw [i_isBarge, m_lt hG.2.2.2.2.1.1] at h
  have := hG.2.2.2.2.1.2
  omega
/-- what holds in a block that may come to be the state -/
def BI (G w : Nat → Int32) (h : Nat) : Prop := (∀ c : Nat, c < 6 → 0 ≤ (w (h + c)).toInt ∧ (w (h + c)).toInt ≤ 99) ∧ (∀ c : Nat, c < 6 → (G 5).toInt ≤ c → w (h + c) = 0 ∧ w (h + (6 + c)) = -1) ∧ (∀ c : Nat, c < 6 → -1 ≤ (w (h + (6 + c))).toInt ∧ (w (h + (6 + c))).toInt < (G 3).toInt) ∧ (∀ c d : Nat, c < 6 → d < 6 → c ≠ d → w (h + (6 + c)) = w (h + (6 + d)) → w (h + (6 + c)) = -1) ∧ (∀ c : Nat, c < 6 → 0 ≤ (w (h + (12 + c))).toInt ∧ (w (h + (12 + c))).toInt < (G 4).toInt) ∧ (∀ c : Int32, 0 ≤ c.toInt → c.toInt < 6 → ¬ f_m_has (w (h + 18)) c = 0 → w (h + c.toNatClampNeg) = 0) ∧ (∀ v : Nat, v < 7 → w (h + (20 + v)) = 0 → w (h + (27 + v)) = -1 ∧ w (h + (34 + v)) = -1) ∧ (∀ v : Nat, v < 7 → (G 6).toInt ≤ v → w (h + (20 + v)) = 0) ∧ (0 ≤ (w (h + 18)).toInt ∧ (w (h + 18)).toInt < 64)
theorem BI_of {G G' w w' : Nat → Int32} {h h' : Nat} (q : BI G w h) (e : ∀ k, k < 41 → w' (h' + k) = w (h + k)) (e3 : G' 3 = G 3) (e4 : G' 4 = G 4) (e5 : G' 5 = G 5) (e6 : G' 6 = G 6) : BI G' w' h' := by
  obtain ⟨b1, b2, b3, b4, b5, b6, b7, b8, b9⟩ := q
  refine ⟨fun c hc => ?_, fun c hc hg => ?_, fun c hc => ?_, fun c d hc hd hn => ?_, fun c hc => ?_, fun c h0 h1 => ?_, fun v hv => ?_, fun v hv => ?_, by rw [e 18 (by omega)]; exact b9⟩
  · rw [e c (by omega)]
    exact b1 c hc
  · rw [e c (by omega), e (6 + c) (by omega)]
    rw [e5] at hg
    exact b2 c hc hg
  · rw [e (6 + c) (by omega), e3]
    exact b3 c hc
  · rw [e (6 + c) (by omega), e (6 + d) (by omega)]
    exact b4 c d hc hd hn
  · rw [e (12 + c) (by omega), e4]
    exact b5 c hc
  · have := clN (n := 6) h0 h1
    rw [e 18 (by omega), e c.toNatClampNeg (by omega)]
    exact b6 c h0 h1
  · rw [e (20 + v) (by omega), e (27 + v) (by omega), e (34 + v) (by omega)]
    exact b7 v hv
  · rw [e (20 + v) (by omega), e6]
    exact b8 v hv
theorem who_loop {G w : Nat → Int32} {b : Int32} (h6 : (G 5).toInt ≤ 6) : ∀ (n : Nat) (i found : Int32), 0 ≤ i.toInt → i.toInt ≤ (G 5).toInt → (G 5).toInt - i.toInt < n → ((found = -1 ∧ ∀ c : Nat, (c : Int) < i.toInt → w (6 + c) ≠ b) ∨ (0 ≤ found.toInt ∧ found.toInt < (G 5).toInt ∧ w (6 + found.toNatClampNeg) = b)) → ∃ (j r : Int32), f_m_whoIsAt_5 G w 0 b n i found = (j, r) ∧ ((r = -1 ∧ ∀ c : Nat, (c : Int) < (G 5).toInt → w (6 + c) ≠ b) ∨ (0 ≤ r.toInt ∧ r.toInt < (G 5).toInt ∧ w (6 + r.toNatClampNeg) = b)) := by
  intro n
  induction n with
  | zero => intro i found h0 h1 h2; omega
  | succ n ih =>
    intro i found h0 h1 h2 h3
    rw [f_m_whoIsAt_5_s]
    by_cases c : G 5 ≤ i
    · rw [if_pos c]
      rw [i_le] at c
      refine ⟨i, found, rfl, ?_⟩
      rcases h3 with ⟨q1, q2⟩ | q
      · exact Or.inl ⟨q1, fun c hc => q2 c (by omega)⟩
      · exact Or.inr q
    · rw [if_neg c]
      rw [i_le] at c
      have e := i_a1 (a := i) (by omega) (by omega)
      have ex : ((0 + 6) + i : Int32).toNatClampNeg = 6 + i.toNatClampNeg := by
        have e6 : (0 + 6 : Int32) = 6 := rfl
        rw [e6]
        exact sN (a := 6) (x := 6) (y := 7) rfl h0 (by omega) (by decide)
      rw [ex]
      by_cases d : w (6 + i.toNatClampNeg) = b
      · rw [if_pos d]
        exact ih (i + 1) i (by omega) (by omega) (by omega) (Or.inr ⟨h0, by omega, d⟩)
      · rw [if_neg d]
        refine ih (i + 1) found (by omega) (by omega) (by omega) ?_
        rcases h3 with ⟨q1, q2⟩ | q
        · refine Or.inl ⟨q1, fun c hc => ?_⟩
          by_cases z : (c : Int) < i.toInt
          · exact q2 c z
          · have : c = i.toNatClampNeg := by
              rw [i_clamp]
              omega
            rw [this]
            exact d
        · exact Or.inr q
theorem who_spec {G w : Nat → Int32} {b : Int32} (hG : GI G) : (f_m_whoIsAt G w 0 b = -1 ∧ ∀ c : Nat, (c : Int) < (G 5).toInt → w (6 + c) ≠ b) ∨ (0 ≤ (f_m_whoIsAt G w 0 b).toInt ∧ (f_m_whoIsAt G w 0 b).toInt < (G 5).toInt ∧ w (6 + (f_m_whoIsAt G w 0 b).toNatClampNeg) = b) := by
  have g0 := hG.2.2.2.1.1
  have g6 := hG.2.2.2.1.2
  obtain ⟨j, r, e, h⟩ := who_loop (G := G) (w := w) (b := b) g6 (((G 5).toInt - (0 : Int32).toInt).toNat + 1) 0 (-1) (by decide) (by rw [i_0]; exact g0) (by rw [i_0]; omega) (Or.inl ⟨rfl, fun c hc => absurd hc (by rw [i_0]; omega)⟩)
  have : f_m_whoIsAt G w 0 b = r := by
    unfold f_m_whoIsAt
    rw [e]
  rw [this]
  exact h
theorem at_loop {f w : Nat → Int32} {b : Int32} (h : ST f w 0 0) : ∀ (n : Nat) (i : Int32), 0 ≤ i.toInt → i.toInt ≤ 6 → 6 - i.toInt < n → (∀ c : Nat, (c : Int) < i.toInt → w (6 + c) ≠ b) → (∃ j, f_e_coupleAt_2 f b n i = Sum.inl j ∧ ∀ c : Nat, c < 6 → w (6 + c) ≠ b) ∨ (∃ r : Int32, f_e_coupleAt_2 f b n i = Sum.inr r ∧ 0 ≤ r.toInt ∧ r.toInt < 6 ∧ w (6 + r.toNatClampNeg) = b) := by
  intro n
  induction n with
  | zero => intro i h0 h1 h2; omega
  | succ n ih =>
    intro i h0 h1 h2 h3
    rw [f_e_coupleAt_2_s]
    by_cases c : 6 ≤ i
    · rw [if_pos c]
      rw [i_le] at c
      simp only [Int32.reduceToInt] at c
      exact Or.inl ⟨i, rfl, fun c hc => h3 c (by omega)⟩
    · rw [if_neg c]
      rw [i_le] at c
      simp only [Int32.reduceToInt] at c
      have e := i_a1 (a := i) (by omega) (by omega)
      rw [e_p h h0 (by omega)]
      by_cases d : w (6 + i.toNatClampNeg) = b
      · rw [if_pos d]
        exact Or.inr ⟨i, rfl, h0, by omega, d⟩
      · rw [if_neg d]
        refine ih (i + 1) (by omega) (by omega) (by omega) (fun c hc => ?_)
        by_cases z : (c : Int) < i.toInt
        · exact h3 c z
        · have : c = i.toNatClampNeg := by
            rw [i_clamp]
            omega
          rw [this]
          exact d
theorem at_eq {G f w : Nat → Int32} {b : Int32} (h : ST f w 0 0) (hG : GI G) (hB : BI G w 0) (hb : 0 ≤ b.toInt) : f_e_coupleAt f b = f_m_whoIsAt G w 0 b := by
  obtain ⟨b1, b2, b3, b4, b5, b6, b7, b8, b9⟩ := hB
  have g6 := hG.2.2.2.1.2
  have hm : b ≠ -1 := by
    intro q
    rw [q, i_m1] at hb
    omega
  have key := at_loop (b := b) h 7 0 (by decide) (by decide) (by decide) (fun c hc => absurd hc (by rw [i_0]; omega))
  have e : ((6 : Int32).toInt - (0 : Int32).toInt).toNat + 1 = 7 := rfl
  unfold f_e_coupleAt
  rw [e]
  rcases key with ⟨j, e1, e2⟩ | ⟨r, e1, r0, r1, r2⟩
  · rw [e1]
    rcases who_spec (w := w) (b := b) hG with ⟨q1, q2⟩ | ⟨q0, q1, q2⟩
    · exact q1.symm
    · exact absurd q2 (e2 _ (clN q0 (by omega)))
  · rw [e1]
    show r = f_m_whoIsAt G w 0 b
    have rn := clN (n := 6) r0 r1
    rcases who_spec (w := w) (b := b) hG with ⟨q1, q2⟩ | ⟨q0, q1, q2⟩
    · by_cases z : r.toInt < (G 5).toInt
      · exact absurd r2 (q2 r.toNatClampNeg (by rw [clI r0]; exact z))
      · have := (b2 r.toNatClampNeg rn (by rw [clI r0]; omega)).2
        rw [Nat.zero_add, r2] at this
        exact absurd this hm
    · by_cases z : r.toNatClampNeg = (f_m_whoIsAt G w 0 b).toNatClampNeg
      · exact cl_inj r0 q0 z
      · have := b4 r.toNatClampNeg _ rn (clN q0 (by omega)) z (by rw [Nat.zero_add, Nat.zero_add, r2, q2])
        rw [Nat.zero_add, r2] at this
        exact absurd this hm
end
section
/-! a quarrel, side by side -/
theorem i_div {a d : Int32} (h : 0 ≤ a.toInt) (hd : 0 < d.toInt) : (a / d).toInt = a.toInt / d.toInt := by
  have hne : d ≠ -1 := by
    intro q
    rw [q, i_m1] at hd
    omega
  rw [Int32.toInt_div_of_ne_right _ _ hne, Int.tdiv_eq_ediv_of_nonneg h]
theorem stamp_eq {G f10 : Nat → Int32} {c t g : Int32} (h7 : G 7 = 0 ∨ G 7 = 1) : f_e_stampOf_x9 g (f10 (5 * c + t).toNatClampNeg) (G 7) = f_m_stampOf G f10 c t g := by
  unfold f_e_stampOf_x9 f_m_stampOf
  have sw : ∀ X : Int32, (if X < g then X else g) = (if g ≤ X then g else X) := by
    intro X
    by_cases q : X < g
    · have : ¬ g ≤ X := by
        rw [i_lt] at q
        rw [i_le]
        omega
      rw [if_pos q, if_neg this]
    · have : g ≤ X := by
        rw [i_lt] at q
        rw [i_le]
        omega
      rw [if_neg q, if_pos this]
  rcases h7 with q | q
  · have n : ¬ G 7 = 1 := by rw [q]; decide
    rw [if_pos q, if_neg n, sw]
  · have n : ¬ G 7 = 0 := by rw [q]; decide
    rw [if_neg n, if_pos q, sw]
theorem stamp_b {G f10 : Nat → Int32} {c t g : Int32} (h0 : 0 ≤ g.toInt) (h1 : g.toInt ≤ 99) (f0 : 0 ≤ (f10 (5 * c + t).toNatClampNeg).toInt) (f9 : (f10 (5 * c + t).toNatClampNeg).toInt ≤ 9) : 0 ≤ (f_m_stampOf G f10 c t g).toInt ∧ (f_m_stampOf G f10 c t g).toInt ≤ g.toInt := by
  unfold f_m_stampOf
  generalize f10 (5 * c + t).toNatClampNeg = F at f0 f9
  have e1 : (g / 10).toInt = g.toInt / 10 := i_div h0 (by decide)
  have e2 : (F + g / 10).toInt = F.toInt + g.toInt / 10 := by rw [i_add (by omega) (by omega), e1]
  have e3 : ((F + g / 10) / 2).toInt = (F.toInt + g.toInt / 10) / 2 := by
    have := i_div (a := F + g / 10) (d := 2) (by omega) (by decide)
    rw [this, e2]
    rfl
  by_cases c1 : G 7 = 1
  · rw [if_pos c1]
    by_cases c2 : g ≤ (F + g / 10) / 2
    · rw [if_pos c2]
      omega
    · rw [if_neg c2]
      rw [i_le] at c2
      omega
  · rw [if_neg c1]
    by_cases c2 : g ≤ F + g / 10
    · rw [if_pos c2]
      omega
    · rw [if_neg c2]
      rw [i_le] at c2
      omega
theorem stampG {G H f10 : Nat → Int32} {c t g : Int32} (h : H 7 = G 7) : f_m_stampOf H f10 c t g = f_m_stampOf G f10 c t g := by
  unfold f_m_stampOf
  rw [h]
theorem run_loop {f10 : Nat → Int32} {c t g n1 n2 s : Int32} (g0 : 0 ≤ g.toInt) (g9 : g.toInt ≤ 99) (hs : s = 0 ∨ s = 1) (f0 : 0 ≤ (f10 (5 * c + t).toNatClampNeg).toInt) (f9 : (f10 (5 * c + t).toNatClampNeg).toInt ≤ 9) (hn : ∀ z : Int, 0 ≤ z → z ≤ 99 → (z < n1.toInt ↔ z < n2.toInt)) : ∀ (n m : Nat) (mi sum stamp : Int32) (G : Nat → Int32), G 7 = s → G 32 = mi → 0 ≤ (G 33).toInt → (G 33).toInt ≤ g.toInt → sum.toInt = g.toInt - (G 33).toInt → 0 ≤ mi.toInt → mi.toInt ≤ g.toInt - (G 33).toInt → ((G 33).toInt < g.toInt → 0 < mi.toInt) → stamp = f_m_stampOf G f10 c t (G 33) → (G 33).toInt < n → g.toInt - mi.toInt < m → ∃ (st sm j : Int32) (H : Nat → Int32), f_m_quarrels_25 f10 c t n2 n stamp sum G = (st, sm, H) ∧ (∀ k0 k1 k2 k3 k4 k1' k3' k4', f_e_run_x4_13 k0 k1 k2 k3 k4 g (f10 (5 * c + t).toNatClampNeg) s n1 m mi mi k1' (G 33) k3' k4' = (j, H 32, k1', H 33, k3', k4')) ∧ (∀ k, k ≠ 32 → k ≠ 33 → H k = G k) ∧ sm.toInt = g.toInt - (H 33).toInt ∧ 0 ≤ (H 33).toInt ∧ (H 33).toInt ≤ g.toInt ∧ 0 ≤ (H 32).toInt ∧ (H 32).toInt ≤ g.toInt - (H 33).toInt ∧ ((H 33).toInt < g.toInt → 0 < (H 32).toInt) := by
  intro n
  induction n with
  | zero => intro m mi sum stamp G h7 h32 h0; omega
  | succ n ih =>
    intro m mi sum stamp G h7 h32 h0 h1 h2 h3 h4 h5 h6 h8 h9
    have e7 : f_e_stampOf_x9 (G 33) (f10 (5 * c + t).toNatClampNeg) s = stamp := by
      rw [h6, ← h7]
      exact stamp_eq (by rw [h7]; exact hs)
    have sb := stamp_b (G := G) (f10 := f10) (c := c) (t := t) (g := G 33) h0 (by omega) f0 f9
    rw [← h6] at sb
    have eg := i_sub (a := g) (b := G 33) (by omega) (by omega)
    cases m with
    | zero => omega
    | succ m =>
      rw [f_m_quarrels_25_s]
      by_cases c1 : stamp ≤ 0
      · rw [if_pos c1]
        refine ⟨stamp, sum, mi, G, rfl, fun k0 k1 k2 k3 k4 k1' k3' k4' => ?_, fun k _ _ => rfl, h2, h0, h1, by rw [h32]; exact h3, by rw [h32]; exact h4, by rw [h32]; exact h5⟩
        rw [f_e_run_x4_13_s, h32]
        by_cases d1 : g ≤ mi
        · rw [if_pos d1]
        · rw [if_neg d1]
          by_cases d2 : n1 ≤ g - G 33
          · rw [if_pos d2]
          · rw [if_neg d2, e7, if_neg]
            rw [i_le, i_0] at c1
            rw [i_lt, i_0]
            omega
      · rw [if_neg c1]
        rw [i_le, i_0] at c1
        have hz := hn (g.toInt - (G 33).toInt) (by omega) (by omega)
        by_cases c2 : n2 ≤ sum
        · rw [if_pos c2]
          refine ⟨stamp, sum, mi, G, rfl, fun k0 k1 k2 k3 k4 k1' k3' k4' => ?_, fun k _ _ => rfl, h2, h0, h1, by rw [h32]; exact h3, by rw [h32]; exact h4, by rw [h32]; exact h5⟩
          rw [f_e_run_x4_13_s, h32]
          by_cases d1 : g ≤ mi
          · rw [if_pos d1]
          · have d2 : n1 ≤ g - G 33 := by
              rw [i_le] at c2 ⊢
              omega
            rw [if_neg d1, if_pos d2]
        · rw [if_neg c2]
          rw [i_le] at c2
          have d1 : ¬ g ≤ mi := by
            rw [i_le]
            omega
          have d2 : ¬ n1 ≤ g - G 33 := by
            rw [i_le]
            omega
          have d3 : 0 < stamp := by
            rw [i_lt, i_0]
            omega
          have el := i_sub (a := G 33) (b := stamp) (by omega) (by omega)
          have em := i_a1 (a := mi) (by omega) (by omega)
          have es := i_add (a := sum) (b := stamp) (by omega) (by omega)
          have u33 : (upd (upd G 32 (G 32 + 1)) 33 (G 33 - stamp)) 33 = G 33 - stamp := pk_us
          have u32 : (upd (upd G 32 (G 32 + 1)) 33 (G 33 - stamp)) 32 = mi + 1 := by rw [pk_un (by decide), pk_us, h32]
          have u7 : (upd (upd G 32 (G 32 + 1)) 33 (G 33 - stamp)) 7 = s := by rw [pk_un (by decide), pk_un (by decide)]; exact h7
          have uo : ∀ k, k ≠ 32 → k ≠ 33 → (upd (upd G 32 (G 32 + 1)) 33 (G 33 - stamp)) k = G k := fun k a b => by rw [pk_un b, pk_un a]
          generalize upd (upd G 32 (G 32 + 1)) 33 (G 33 - stamp) = U at u33 u32 u7 uo
          obtain ⟨st, sm, j, H, x1, x2, x3, x4, x5, x6, x7, x8, x9⟩ := ih m (mi + 1) (sum + stamp) (f_m_stampOf U f10 c t (G 33 - stamp)) U u7 u32 (by rw [u33]; omega) (by rw [u33]; omega) (by rw [u33]; omega) (by omega) (by rw [u33]; omega) (fun _ => by omega) (by rw [u33]) (by rw [u33]; omega) (by omega)
          refine ⟨st, sm, j, H, x1, fun k0 k1 k2 k3 k4 k1' k3' k4' => ?_, fun k a b => (x3 k a b).trans (uo k a b), x4, x5, x6, x7, x8, x9⟩
          have := x2 k0 k1 k2 k3 k4 k1' k3' k4'
          rw [u33] at this
          rw [f_e_run_x4_13_s, if_neg d1, if_neg d2, e7, if_pos d3, this]
/-- the class's quarrel (minutes, cost, left, opened, reconciled) and the reference's (fields 32, 33, 34) -/
theorem run_eq {G f10 : Nat → Int32} {c t g n1 n2 : Int32} (g0 : 0 ≤ g.toInt) (g9 : g.toInt ≤ 99) (h7 : G 7 = 0 ∨ G 7 = 1) (f0 : 0 ≤ (f10 (5 * c + t).toNatClampNeg).toInt) (f9 : (f10 (5 * c + t).toNatClampNeg).toInt ≤ 9) (hn : ∀ z : Int, 0 ≤ z → z ≤ 99 → (z < n1.toInt ↔ z < n2.toInt)) : ∃ (H : Nat → Int32) (re : Int32), f_m_quarrels G f10 c t g n2 = H ∧ (∀ k0 k1 k2 k3 k4, f_e_run_x4 k0 k1 k2 k3 k4 g (f10 (5 * c + t).toNatClampNeg) (G 7) n1 = (H 32, g - H 33, H 33, H 34, re)) ∧ (∀ k, k < 32 ∨ 35 ≤ k → H k = G k) ∧ (H 34 = 0 ∨ H 34 = 1) ∧ (re = 0 ∨ re = 1) ∧ (re ≠ 0 ↔ (H 33 = 0 ∧ 0 < (H 32).toInt)) ∧ 0 ≤ (H 33).toInt ∧ (H 33).toInt ≤ g.toInt ∧ 0 ≤ (H 32).toInt ∧ (H 32).toInt ≤ 99 ∧ ((H 34) ≠ 0 ↔ n2.toInt ≤ g.toInt - (H 33).toInt) := by
  have u33 : (upd (upd G 32 0) 33 g) 33 = g := pk_us
  have u32 : (upd (upd G 32 0) 33 g) 32 = 0 := by rw [pk_un (by decide), pk_us]
  have u7 : (upd (upd G 32 0) 33 g) 7 = G 7 := by rw [pk_un (by decide), pk_un (by decide)]
  have uo : ∀ k, k < 32 ∨ 35 ≤ k → (upd (upd G 32 0) 33 g) k = G k := fun k hk => by rw [pk_un (by omega), pk_un (by omega)]
  have hq : f_m_quarrels G f10 c t g n2 = (match (f_m_quarrels_25 f10 c t n2 (g.toInt.toNat + 2) (f_m_stampOf (upd (upd G 32 0) 33 g) f10 c t g) 0 (upd (upd G 32 0) 33 g)) with | (w_4l6, w_4l5, w_4m0) => (if w_4l5 < n2 then (upd w_4m0 34 0) else (upd w_4m0 34 1))) := rfl
  rw [hq]
  generalize upd (upd G 32 0) 33 g = U at u33 u32 u7 uo
  obtain ⟨st, sm, j, H, x1, x2, x3, x4, x5, x6, x7, x8, x9⟩ := run_loop (f10 := f10) (c := c) (t := t) (n1 := n1) (n2 := n2) g0 g9 h7 f0 f9 hn (g.toInt.toNat + 2) ((g.toInt - (0 : Int32).toInt).toNat + 1) 0 0 (f_m_stampOf U f10 c t g) U u7 u32 (by rw [u33]; exact g0) (by rw [u33]; exact Int.le_refl _) (by rw [u33, i_0]; omega) (by decide) (by rw [u33, i_0]; omega) (fun q => by rw [u33] at q; omega) (by rw [u33]) (by rw [u33]; omega) (by rw [i_0]; omega)
  have eg := i_sub (a := g) (b := H 33) (by omega) (by omega)
  have hz := hn (g.toInt - (H 33).toInt) (by omega) (by omega)
  rw [x1]
  dsimp (config := { etaStruct := .none }) only
  have he : ∀ k0 k1 k2 k3 k4, f_e_run_x4 k0 k1 k2 k3 k4 g (f10 (5 * c + t).toNatClampNeg) (G 7) n1 = (if (g - H 33) < n1 then (if (g - H 33) ≤ 0 then (H 32, (g - H 33), H 33, 0, 0) else (if H 33 = 0 then (H 32, (g - H 33), H 33, 0, 1) else (H 32, (g - H 33), H 33, 0, 0))) else (if (g - H 33) ≤ 0 then (H 32, (g - H 33), H 33, 1, 0) else (if H 33 = 0 then (H 32, (g - H 33), H 33, 1, 1) else (H 32, (g - H 33), H 33, 1, 0)))) := by
    intro k0 k1 k2 k3 k4
    unfold f_e_run_x4
    have := x2 k0 k1 k2 k3 k4 k1 k3 k4
    rw [u33] at this
    rw [this]
  have op : ∃ o : Int32, (if sm < n2 then (upd H 34 0) else (upd H 34 1)) = upd H 34 o ∧ ((o = 0 ∧ (g - H 33) < n1 ∧ ¬ n2.toInt ≤ g.toInt - (H 33).toInt) ∨ (o = 1 ∧ ¬ (g - H 33) < n1 ∧ n2.toInt ≤ g.toInt - (H 33).toInt)) := by
    by_cases q : sm < n2
    · rw [if_pos q]
      rw [i_lt, x4] at q
      exact ⟨0, rfl, Or.inl ⟨rfl, by rw [i_lt]; omega, by omega⟩⟩
    · rw [if_neg q]
      rw [i_lt, x4] at q
      exact ⟨1, rfl, Or.inr ⟨rfl, by rw [i_lt]; omega, by omega⟩⟩
  obtain ⟨o, o1, o2⟩ := op
  have rr : ∃ re : Int32, (∀ a : Int32, (if (g - H 33) ≤ 0 then (H 32, (g - H 33), H 33, a, (0 : Int32)) else (if H 33 = 0 then (H 32, (g - H 33), H 33, a, 1) else (H 32, (g - H 33), H 33, a, 0))) = (H 32, g - H 33, H 33, a, re)) ∧ (re = 0 ∨ re = 1) ∧ (re ≠ 0 ↔ (H 33 = 0 ∧ 0 < (H 32).toInt)) := by
    by_cases q : (g - H 33) ≤ 0
    · refine ⟨0, fun a => if_pos q, Or.inl rfl, ⟨fun z => absurd rfl z, fun z => ?_⟩⟩
      rw [i_le, i_0, eg] at q
      omega
    · have q' := q
      rw [i_le, i_0, eg] at q
      by_cases p : H 33 = 0
      · refine ⟨1, fun a => by rw [if_neg q', if_pos p], Or.inr rfl, ⟨fun _ => ⟨p, x9 (by omega)⟩, fun _ => by decide⟩⟩
      · exact ⟨0, fun a => by rw [if_neg q', if_neg p], Or.inl rfl, ⟨fun z => absurd rfl z, fun z => absurd z.1 p⟩⟩
  obtain ⟨re, r1, r2, r3⟩ := rr
  have v32 : (upd H 34 o) 32 = H 32 := pk_un (by decide)
  have v33 : (upd H 34 o) 33 = H 33 := pk_un (by decide)
  have v34 : (upd H 34 o) 34 = o := pk_us
  refine ⟨upd H 34 o, re, o1, fun k0 k1 k2 k3 k4 => ?_, fun k hk => ?_, ?_, r2, ?_, ?_, ?_, ?_, ?_, ?_⟩
  · rw [he, v32, v33, v34]
    rcases o2 with ⟨rfl, z, _⟩ | ⟨rfl, z, _⟩
    · rw [if_pos z, r1]
    · rw [if_neg z, r1]
  · rw [pk_un (by omega), x3 k (by omega) (by omega), uo k hk]
  · rw [v34]
    rcases o2 with ⟨z, _⟩ | ⟨z, _⟩
    · exact Or.inl z
    · exact Or.inr z
  · rw [v32, v33]
    exact r3
  · rw [v33]
    exact x5
  · rw [v33]
    exact x6
  · rw [v32]
    exact x7
  · rw [v32]
    omega
  · rw [v33, v34]
    rcases o2 with ⟨rfl, _, z⟩ | ⟨rfl, _, z⟩
    · exact ⟨fun q => absurd rfl q, fun q => absurd q z⟩
    · exact ⟨fun _ => z, fun _ => by decide⟩
end
section
/-! blocks that are kept and brought back, side by side -/
theorem i_mulc {a b : Int32} {k : Int} (ha : a.toInt = k) (h1 : -2147483648 ≤ k * b.toInt) (h2 : k * b.toInt < 2147483648) : (a * b).toInt = k * b.toInt := by
  rw [i_mul (by rw [ha]; exact h1) (by rw [ha]; exact h2), ha]
theorem i_mulr {a b : Int32} {k : Int} (hb : b.toInt = k) (h1 : -2147483648 ≤ a.toInt * k) (h2 : a.toInt * k < 2147483648) : (a * b).toInt = a.toInt * k := by
  rw [i_mul (by rw [hb]; exact h1) (by rw [hb]; exact h2), hb]
theorem copy_loop {fr to : Int32} (a0 : 0 ≤ fr.toInt) (a1 : fr.toInt ≤ 1260) (b0 : 0 ≤ to.toInt) (b1 : to.toInt ≤ 1260) (hd : fr.toInt + 42 ≤ to.toInt ∨ to.toInt + 42 ≤ fr.toInt) : ∀ (n : Nat) (i : Int32) (w : Nat → Int32), 0 ≤ i.toInt → i.toInt ≤ 42 → 42 - i.toInt < n → ∃ (j : Int32) (u : Nat → Int32), f_m_copy_2 fr to n i w = (j, u) ∧ (∀ k : Nat, i.toInt ≤ k → k < 42 → u (to.toNatClampNeg + k) = w (fr.toNatClampNeg + k)) ∧ (∀ x : Nat, ¬ (to.toInt + i.toInt ≤ x ∧ (x : Int) < to.toInt + 42) → u x = w x) := by
  have ef := clI a0
  have et := clI b0
  intro n
  induction n with
  | zero => intro i w h0 h1 h2; omega
  | succ n ih =>
    intro i w h0 h1 h2
    rw [f_m_copy_2_s]
    by_cases c : 42 ≤ i
    · rw [if_pos c]
      rw [i_le] at c
      simp only [Int32.reduceToInt] at c
      exact ⟨i, w, rfl, fun k hk hl => by omega, fun x _ => rfl⟩
    · rw [if_neg c]
      rw [i_le] at c
      simp only [Int32.reduceToInt] at c
      have e := i_a1 (a := i) (by omega) (by omega)
      have ei := clI h0
      rw [ixn b0 h0 (by omega), ixn a0 h0 (by omega)]
      obtain ⟨j, u, x1, x2, x3⟩ := ih (i + 1) (upd w (to.toNatClampNeg + i.toNatClampNeg) (w (fr.toNatClampNeg + i.toNatClampNeg))) (by omega) (by omega) (by omega)
      refine ⟨j, u, x1, fun k hk hl => ?_, fun x hx => ?_⟩
      · by_cases q : k = i.toNatClampNeg
        · subst q
          rw [x3 _ (by omega), pk_us]
        · rw [x2 k (by omega) hl, pk_un (by omega)]
      · rw [x3 x (by omega), pk_un (by omega)]
theorem copy_spec {fr to : Int32} (w : Nat → Int32) (a0 : 0 ≤ fr.toInt) (a1 : fr.toInt ≤ 1260) (b0 : 0 ≤ to.toInt) (b1 : to.toInt ≤ 1260) (hd : fr.toInt + 42 ≤ to.toInt ∨ to.toInt + 42 ≤ fr.toInt) : (∀ k : Nat, k < 42 → f_m_copy w fr to (to.toNatClampNeg + k) = w (fr.toNatClampNeg + k)) ∧ (∀ x : Nat, ¬ (to.toInt ≤ x ∧ (x : Int) < to.toInt + 42) → f_m_copy w fr to x = w x) := by
  obtain ⟨j, u, x1, x2, x3⟩ := copy_loop a0 a1 b0 b1 hd 43 0 w (by decide) (by decide) (by decide)
  have e : f_m_copy w fr to = u := by
    unfold f_m_copy
    have e43 : ((42 : Int32).toInt - (0 : Int32).toInt).toNat + 1 = 43 := rfl
    rw [e43, x1]
  rw [e]
  rw [i_0] at x2 x3
  exact ⟨fun k hk => x2 k (by omega) hk, fun x hx => x3 x (by omega)⟩
theorem shift_loop {G : Nat → Int32} : ∀ (n : Nat) (i : Int32) (w : Nat → Int32), 0 ≤ i.toInt → i.toInt ≤ 798 → 798 - i.toInt < n → ∃ (j : Int32) (u : Nat → Int32), f_m_minds_11 n i G w = (j, G, u) ∧ (∀ k : Nat, i.toInt ≤ k → k < 798 → u (462 + k) = w (462 + k + 42)) ∧ (∀ x : Nat, ¬ (462 + i.toInt ≤ x ∧ x < 1260) → u x = w x) := by
  intro n
  induction n with
  | zero => intro i w h0 h1 h2; omega
  | succ n ih =>
    intro i w h0 h1 h2
    rw [f_m_minds_11_s]
    by_cases c : 798 ≤ i
    · rw [if_pos c]
      rw [i_le] at c
      simp only [Int32.reduceToInt] at c
      exact ⟨i, w, rfl, fun k hk hl => by omega, fun x _ => rfl⟩
    · rw [if_neg c]
      rw [i_le] at c
      simp only [Int32.reduceToInt] at c
      have e := i_a1 (a := i) (by omega) (by omega)
      have ei := clI h0
      have x462 : (462 : Int32).toInt = 462 := rfl
      have x42 : (42 : Int32).toInt = 42 := rfl
      have ea := i_add (a := 462) (b := i) (by omega) (by omega)
      have e1 : (462 + i).toNatClampNeg = 462 + i.toNatClampNeg := by
        rw [ixn (by decide) h0 (by omega)]
        rfl
      have e2 : (462 + i + 42).toNatClampNeg = 462 + i.toNatClampNeg + 42 := by
        rw [ixn (by omega) (by decide) (by omega), e1]
        rfl
      rw [e1, e2]
      obtain ⟨j, u, x1, x2, x3⟩ := ih (i + 1) (upd w (462 + i.toNatClampNeg) (w (462 + i.toNatClampNeg + 42))) (by omega) (by omega) (by omega)
      refine ⟨j, u, x1, fun k hk hl => ?_, fun x hx => ?_⟩
      · by_cases q : k = i.toNatClampNeg
        · subst q
          rw [x3 _ (by omega), pk_us]
        · rw [x2 k (by omega) hl, pk_un (by omega)]
      · rw [x3 x (by omega), pk_un (by omega)]
theorem minds_spec {G w : Nat → Int32} (hG : GI G) : ∃ (H u : Nat → Int32), f_m_minds G w = (H, u) ∧ (∀ k, k ≠ 2 → H k = G k) ∧ (∀ x, x < 462 → u x = w x) ∧ ((G 2 = 20 ∧ H 2 = 20 ∧ (∀ i k : Nat, i < 19 → k < 42 → u (462 + 42 * i + k) = w (462 + 42 * (i + 1) + k)) ∧ (∀ k : Nat, k < 42 → u (1260 + k) = w k)) ∨ ((G 2).toInt < 20 ∧ H 2 = G 2 + 1 ∧ (∀ x : Nat, x < 462 + 42 * (G 2).toNatClampNeg → u x = w x) ∧ (∀ k : Nat, k < 42 → u (462 + 42 * (G 2).toNatClampNeg + k) = w k))) := by
  obtain ⟨⟨g0, g20⟩, _⟩ := hG
  unfold f_m_minds
  by_cases c : G 2 = 20
  · obtain ⟨j, u, x1, x2, x3⟩ := shift_loop (G := G) 799 0 w (by decide) (by decide) (by decide)
    rw [i_0] at x2 x3
    have e : ((798 : Int32).toInt - (0 : Int32).toInt).toNat + 1 = 799 := rfl
    have cs := copy_spec (fr := 0) (to := 1260) u (by decide) (by decide) (by decide) (by decide) (by decide)
    have et : (462 + 42 * (G 2 - 1) : Int32) = 1260 := by rw [c]; rfl
    have n1260 : (1260 : Int32).toNatClampNeg = 1260 := rfl
    have i1260 : (1260 : Int32).toInt = 1260 := rfl
    rw [n1260, i1260] at cs
    have n0 : (0 : Int32).toNatClampNeg = 0 := rfl
    rw [n0] at cs
    rw [if_pos c, e, x1]
    dsimp (config := { etaStruct := .none }) only
    rw [et]
    refine ⟨_, _, rfl, fun k hk => by rw [pk_un hk, pk_un hk], fun x hx => ?_, Or.inl ⟨c, ?_, fun i k hi hk => ?_, fun k hk => ?_⟩⟩
    · rw [cs.2 x (by omega), x3 x (by omega)]
    · rw [pk_us, pk_us, c]
      rfl
    · rw [cs.2 _ (by omega)]
      have := x2 (42 * i + k) (by omega) (by omega)
      rw [show 462 + 42 * i + k = 462 + (42 * i + k) by omega, this]
      exact congrArg w (by omega)
    · rw [cs.1 k hk, Nat.zero_add, x3 k (by omega)]
  · have g19 : (G 2).toInt < 20 := by
      rw [i_eq] at c
      simp only [Int32.reduceToInt] at c
      omega
    have x42 : (42 : Int32).toInt = 42 := rfl
    have x462 : (462 : Int32).toInt = 462 := rfl
    have em := i_mulc (a := 42) (k := 42) (b := G 2) rfl (by omega) (by omega)
    have ea := i_add (a := 462) (b := 42 * G 2) (by omega) (by omega)
    rw [em, x462] at ea
    have eN : (462 + 42 * G 2 : Int32).toNatClampNeg = 462 + 42 * (G 2).toNatClampNeg := by
      rw [i_clamp, i_clamp, ea]
      omega
    have eC := clI g0
    have cs := copy_spec (fr := 0) (to := 462 + 42 * G 2) w (by decide) (by decide) (by omega) (by omega) (by rw [i_0, ea]; omega)
    rw [eN, ea] at cs
    have n0 : (0 : Int32).toNatClampNeg = 0 := rfl
    rw [n0] at cs
    rw [if_neg c]
    refine ⟨_, _, rfl, fun k hk => pk_un hk, fun x hx => ?_, Or.inr ⟨g19, pk_us, fun x hx => ?_, fun k hk => ?_⟩⟩
    · rw [cs.2 x (by omega)]
    · rw [cs.2 x (by omega)]
    · rw [cs.1 k hk, Nat.zero_add]
theorem mod20 {x : Int32} (h0 : 0 ≤ x.toInt) (h1 : x.toInt < 1000) : (x - x / 20 * 20).toInt = x.toInt % 20 := by
  have x20 : (20 : Int32).toInt = 20 := rfl
  have e1 := i_div (a := x) (d := 20) h0 (by decide)
  rw [x20] at e1
  have e2 := i_mul (a := x / 20) (b := 20) (by rw [e1, x20]; omega) (by rw [e1, x20]; omega)
  rw [e1, x20] at e2
  rw [i_sub (by rw [e2]; omega) (by rw [e2]; omega), e2]
  omega
theorem store_spec {fsh fn : Nat → Int32} {i : Int32} (h0 : 0 ≤ i.toInt) (h1 : i.toInt < 20) : (∀ k : Nat, k < 41 → f_e_store20 fsh fn i (i.toNatClampNeg * 41 + k) = fn k) ∧ (∀ s k : Nat, s ≠ i.toNatClampNeg → k < 41 → f_e_store20 fsh fn i (s * 41 + k) = fsh (s * 41 + k)) := by
  have em := i_mulr (a := i) (b := 41) (k := 41) rfl (by omega) (by omega)
  have eN : (i * 41).toNatClampNeg = i.toNatClampNeg * 41 := by
    rw [i_clamp, i_clamp, em]
    omega
  have n0 : (0 : Int32).toNatClampNeg = 0 := rfl
  have n41 : (41 : Int32).toNatClampNeg = 41 := rfl
  have e : f_e_store20 fsh fn i = va_cpy fn fsh 0 (i.toNatClampNeg * 41) 41 := by
    unfold f_e_store20
    rw [if_neg (by rw [i_lt, i_0]; omega), if_neg (by rw [i_le]; simp only [Int32.reduceToInt]; omega), eN, n0, n41]
  rw [e]
  unfold va_cpy
  refine ⟨fun k hk => ?_, fun s k hs hk => ?_⟩
  · rw [if_pos (by omega)]
    exact congrArg fn (by omega)
  · rw [if_neg]
    omega
theorem fetch_spec {fsh fn : Nat → Int32} {i : Int32} (h0 : 0 ≤ i.toInt) (h1 : i.toInt < 20) : ∀ k : Nat, k < 41 → f_e_fetch20 fsh fn i k = fsh (i.toNatClampNeg * 41 + k) := by
  have em := i_mulr (a := i) (b := 41) (k := 41) rfl (by omega) (by omega)
  have eN : (i * 41).toNatClampNeg = i.toNatClampNeg * 41 := by
    rw [i_clamp, i_clamp, em]
    omega
  have n0 : (0 : Int32).toNatClampNeg = 0 := rfl
  have n41 : (41 : Int32).toNatClampNeg = 41 := rfl
  have e : f_e_fetch20 fsh fn i = va_cpy fsh fn (i.toNatClampNeg * 41) 0 41 := by
    unfold f_e_fetch20
    rw [if_neg (by rw [i_lt, i_0]; omega), if_neg (by rw [i_le]; simp only [Int32.reduceToInt]; omega), eN, n0, n41]
  intro k hk
  rw [e]
  unfold va_cpy
  rw [if_pos (by omega)]
  exact congrArg fsh (by omega)
theorem store2_spec {fsh fn : Nat → Int32} {i : Int32} (h0 : 0 ≤ i.toInt) (h1 : i.toInt < 2) : (∀ k : Nat, k < 41 → f_e_store2 fsh fn i (i.toNatClampNeg * 41 + k) = fn k) ∧ (∀ s k : Nat, s ≠ i.toNatClampNeg → k < 41 → f_e_store2 fsh fn i (s * 41 + k) = fsh (s * 41 + k)) := by
  have em := i_mulr (a := i) (b := 41) (k := 41) rfl (by omega) (by omega)
  have eN : (i * 41).toNatClampNeg = i.toNatClampNeg * 41 := by
    rw [i_clamp, i_clamp, em]
    omega
  have n0 : (0 : Int32).toNatClampNeg = 0 := rfl
  have n41 : (41 : Int32).toNatClampNeg = 41 := rfl
  have e : f_e_store2 fsh fn i = va_cpy fn fsh 0 (i.toNatClampNeg * 41) 41 := by
    unfold f_e_store2
    rw [if_neg (by rw [i_lt, i_0]; omega), if_neg (by rw [i_le]; simp only [Int32.reduceToInt]; omega), eN, n0, n41]
  rw [e]
  unfold va_cpy
  refine ⟨fun k hk => ?_, fun s k hs hk => ?_⟩
  · rw [if_pos (by omega)]
    exact congrArg fn (by omega)
  · rw [if_neg]
    omega
theorem fetch2_spec {fsh fn : Nat → Int32} {i : Int32} (h0 : 0 ≤ i.toInt) (h1 : i.toInt < 2) : ∀ k : Nat, k < 41 → f_e_fetch2 fsh fn i k = fsh (i.toNatClampNeg * 41 + k) := by
  have em := i_mulr (a := i) (b := 41) (k := 41) rfl (by omega) (by omega)
  have eN : (i * 41).toNatClampNeg = i.toNatClampNeg * 41 := by
    rw [i_clamp, i_clamp, em]
    omega
  have n0 : (0 : Int32).toNatClampNeg = 0 := rfl
  have n41 : (41 : Int32).toNatClampNeg = 41 := rfl
  have e : f_e_fetch2 fsh fn i = va_cpy fsh fn (i.toNatClampNeg * 41) 0 41 := by
    unfold f_e_fetch2
    rw [if_neg (by rw [i_lt, i_0]; omega), if_neg (by rw [i_le]; simp only [Int32.reduceToInt]; omega), eN, n0, n41]
  intro k hk
  rw [e]
  unfold va_cpy
  rw [if_pos (by omega)]
  exact congrArg fsh (by omega)
/-- what can be undone -/
def UR (G : Nat → Int32) (p1 p2 : Int32) (fsh w : Nat → Int32) : Prop := p2 = G 2 ∧ 0 ≤ p1.toInt ∧ p1.toInt < 20 ∧ ∀ i : Nat, (i : Int) < (G 2).toInt → ST fsh w (((p1.toNatClampNeg + i) % 20) * 41) (462 + 42 * i) ∧ BI G w (462 + 42 * i)
theorem UR_of {G H w u fsh : Nat → Int32} {p1 p2 : Int32} (h : UR G p1 p2 fsh w) (hG : GI G) (e : ∀ x, 462 ≤ x → x < 1302 → u x = w x) (e2 : H 2 = G 2) (e3 : H 3 = G 3) (e4 : H 4 = G 4) (e5 : H 5 = G 5) (e6 : H 6 = G 6) : UR H p1 p2 fsh u := by
  obtain ⟨u1, u2, u3, u4⟩ := h
  have g20 := hG.1.2
  refine ⟨by rw [e2]; exact u1, u2, u3, fun i hi => ?_⟩
  rw [e2] at hi
  have q := u4 i hi
  have ee : ∀ k, k < 41 → u (462 + 42 * i + k) = w (462 + 42 * i + k) := fun k hk => e _ (by omega) (by omega)
  exact ⟨ST_of q.1 ee, BI_of q.2 ee e3 e4 e5 e6⟩
theorem UR_nil {G H w fsh : Nat → Int32} {p1 : Int32} (h1 : 0 ≤ p1.toInt) (h2 : p1.toInt < 20) (e : H 2 = 0) : UR H p1 0 fsh w := ⟨e.symm, h1, h2, fun i hi => absurd hi (by rw [e, i_0]; omega)⟩
theorem remember_eq {G w fn fsh : Nat → Int32} {p1 p2 : Int32} (hG : GI G) (hU : UR G p1 p2 fsh w) (hS : ST fn w 0 0) (hB : BI G w 0) : ∃ (q1 q2 : Int32) (gsh H u : Nat → Int32), f_e_remember_x2 p1 p2 fsh fn = (q1, q2, gsh) ∧ f_m_minds G w = (H, u) ∧ UR H q1 q2 gsh u ∧ (∀ k, k ≠ 2 → H k = G k) ∧ (∀ x, x < 462 → u x = w x) := by
  obtain ⟨u1, u2, u3, u4⟩ := hU
  obtain ⟨H, u, m1, m2, m3, m4⟩ := minds_spec (w := w) hG
  have e3 := m2 3 (by decide)
  have e4 := m2 4 (by decide)
  have e5 := m2 5 (by decide)
  have e6 := m2 6 (by decide)
  have ep := clI u2
  have g0 := hG.1.1
  subst u1
  rcases m4 with ⟨c, h2, y1, y2⟩ | ⟨c, h2, y1, y2⟩
  · have a1 := i_a1 (a := p1) (by omega) (by omega)
    have s1 := mod20 (x := p1 + 1) (by omega) (by omega)
    generalize hq : (p1 + 1) - (p1 + 1) / 20 * 20 = q1 at s1
    have x19 : (G 2 - 1 : Int32) = 19 := by rw [c]; rfl
    have i19 : (19 : Int32).toInt = 19 := rfl
    have a2 := i_add (a := q1) (b := 19) (by omega) (by omega)
    have s2 := mod20 (x := q1 + 19) (by omega) (by omega)
    generalize hs : (q1 + 19) - (q1 + 19) / 20 * 20 = sl at s2
    have eq := clI (c := q1) (by omega)
    have es := clI (c := sl) (by omega)
    have st := store_spec (fsh := fsh) (fn := fn) (i := sl) (by omega) (by omega)
    refine ⟨q1, 20, f_e_store20 fsh fn sl, H, u, ?_, m1, ⟨h2.symm, by omega, by omega, fun i hi => ?_⟩, m2, m3⟩
    · unfold f_e_remember_x2
      rw [if_pos c, hq, x19, hs]
      rfl
    · rw [h2] at hi
      have i20 : (20 : Int32).toInt = 20 := rfl
      rw [i20] at hi
      by_cases q : i = 19
      · subst q
        have hsl : (q1.toNatClampNeg + 19) % 20 = sl.toNatClampNeg := by omega
        rw [hsl]
        refine ⟨fun k hk => ?_, BI_of hB (fun k hk => ?_) e3 e4 e5 e6⟩
        · have := cx_lt hk
          rw [st.1 k hk]
          have h0 := hS k hk
          rw [Nat.zero_add, Nat.zero_add] at h0
          rw [h0, show 462 + 42 * 19 + cx k = 1260 + cx k by omega, y2 _ (by omega)]
        · rw [show 462 + 42 * 19 + k = 1260 + k by omega, y2 _ (by omega), Nat.zero_add]
      · obtain ⟨z1, z2⟩ := u4 (i + 1) (by rw [c, i20]; omega)
        have hsl : (q1.toNatClampNeg + i) % 20 = (p1.toNatClampNeg + (i + 1)) % 20 := by omega
        have hne : (p1.toNatClampNeg + (i + 1)) % 20 ≠ sl.toNatClampNeg := by omega
        rw [hsl]
        refine ⟨fun k hk => ?_, BI_of z2 (fun k hk => y1 i k (by omega) (by omega)) e3 e4 e5 e6⟩
        have := cx_lt hk
        rw [st.2 _ k hne hk, z1 k hk, y1 i (cx k) (by omega) (by omega)]
  · have a2 := i_add (a := p1) (b := G 2) (by omega) (by omega)
    have s2 := mod20 (x := p1 + G 2) (by omega) (by omega)
    generalize hs : (p1 + G 2) - (p1 + G 2) / 20 * 20 = sl at s2
    have eg := clI g0
    have es := clI (c := sl) (by omega)
    have st := store_spec (fsh := fsh) (fn := fn) (i := sl) (by omega) (by omega)
    have cne : ¬ G 2 = 20 := by
      intro q
      rw [q] at c
      exact absurd c (by decide)
    have ea := i_a1 (a := G 2) (by omega) (by omega)
    refine ⟨p1, G 2 + 1, f_e_store20 fsh fn sl, H, u, ?_, m1, ⟨h2.symm, u2, u3, fun i hi => ?_⟩, m2, m3⟩
    · unfold f_e_remember_x2
      rw [if_neg cne, hs]
    · rw [h2, ea] at hi
      by_cases q : i = (G 2).toNatClampNeg
      · subst q
        have hsl : (p1.toNatClampNeg + (G 2).toNatClampNeg) % 20 = sl.toNatClampNeg := by omega
        rw [hsl]
        refine ⟨fun k hk => ?_, BI_of hB (fun k hk => ?_) e3 e4 e5 e6⟩
        · have := cx_lt hk
          rw [st.1 k hk]
          have h0 := hS k hk
          rw [Nat.zero_add, Nat.zero_add] at h0
          rw [h0, y2 _ (by omega)]
        · rw [y2 _ (by omega), Nat.zero_add]
      · obtain ⟨z1, z2⟩ := u4 i (by omega)
        have hne : (p1.toNatClampNeg + i) % 20 ≠ sl.toNatClampNeg := by omega
        refine ⟨fun k hk => ?_, BI_of z2 (fun k hk => y1 _ (by omega)) e3 e4 e5 e6⟩
        have := cx_lt hk
        rw [st.2 _ k hne hk, z1 k hk, y1 _ (by omega)]
/-- the images -/
def IR (G : Nat → Int32) (q10 : Int32) (fim fis f1 w : Nat → Int32) : Prop := (q10 = 0 ∨ q10 = 1 ∨ q10 = 2 ∨ q10 = 3) ∧ ∀ i : Int32, i = 0 ∨ i = 1 → ((q10 >>> (i &&& 31)) &&& 1 = 0 ↔ f1 i.toNatClampNeg = 0) ∧ (¬ f1 i.toNatClampNeg = 0 → ST fim w (i.toNatClampNeg * 41) (378 + 42 * i.toNatClampNeg) ∧ fis i.toNatClampNeg = w (378 + 42 * i.toNatClampNeg + 41) ∧ BI G w (378 + 42 * i.toNatClampNeg))
theorem IR_of {G H w u fim fis f1 : Nat → Int32} {q10 : Int32} (h : IR G q10 fim fis f1 w) (e : ∀ x, 378 ≤ x → x < 462 → u x = w x) (e3 : H 3 = G 3) (e4 : H 4 = G 4) (e5 : H 5 = G 5) (e6 : H 6 = G 6) : IR H q10 fim fis f1 u := by
  obtain ⟨h1, h2⟩ := h
  refine ⟨h1, fun i hi => ⟨(h2 i hi).1, fun hk => ?_⟩⟩
  have hn : i.toNatClampNeg < 2 := by
    rcases hi with rfl | rfl
    · decide
    · decide
  obtain ⟨a, b, c⟩ := (h2 i hi).2 hk
  exact ⟨ST_of a (fun k hk => e _ (by omega) (by omega)), by rw [e _ (by omega) (by omega)]; exact b, BI_of c (fun k hk => e _ (by omega) (by omega)) e3 e4 e5 e6⟩
theorem IR_nil {G w fim fis : Nat → Int32} : IR G 0 fim fis (fun _ => 0) w := ⟨Or.inl rfl, fun i hi => ⟨⟨fun _ => rfl, fun _ => by rcases hi with rfl | rfl <;> decide⟩, fun hk => absurd rfl hk⟩⟩
theorem bit_or (q i j : Int32) (hq : q = 0 ∨ q = 1 ∨ q = 2 ∨ q = 3) (hi : i = 0 ∨ i = 1) (hj : j = 0 ∨ j = 1) : ((q ||| (1 <<< (i &&& 31))) = 0 ∨ (q ||| (1 <<< (i &&& 31))) = 1 ∨ (q ||| (1 <<< (i &&& 31))) = 2 ∨ (q ||| (1 <<< (i &&& 31))) = 3) ∧ (((q ||| (1 <<< (i &&& 31))) >>> (j &&& 31)) &&& 1 = 0 ↔ (j ≠ i ∧ (q >>> (j &&& 31)) &&& 1 = 0)) := by
  rcases hq with rfl | rfl | rfl | rfl <;> rcases hi with rfl | rfl <;> rcases hj with rfl | rfl <;> decide
end
section
/-! a town's beginning, side by side -/
theorem six {c : Int32} (h0 : 0 ≤ c.toInt) (h1 : c.toInt < 6) : c = 0 ∨ c = 1 ∨ c = 2 ∨ c = 3 ∨ c = 4 ∨ c = 5 := by
  simp only [i_eq, Int32.reduceToInt]
  omega
theorem has_zero {c : Int32} (h0 : 0 ≤ c.toInt) (h1 : c.toInt < 6) : f_m_has 0 c = 0 := by
  rcases six h0 h1 with rfl | rfl | rfl | rfl | rfl | rfl <;> rfl
theorem fz (f : Nat → Int32) (k : Nat) : ∀ n : Nat, n < 2147483648 → fillZ f n k = if k < n then 0 else f k := by
  intro n
  induction n with
  | zero => intro _; rfl
  | succ n ih =>
    intro hn
    show upd (fillZ f n) (nI n).toNatClampNeg 0 k = _
    rw [nI_clamp (by omega)]
    replace ih := ih (by omega)
    by_cases c : k = n
    · subst c
      rw [pk_us, if_pos (by omega)]
    · rw [pk_un c, ih]
      by_cases d : k < n
      · rw [if_pos d, if_pos (by omega)]
      · rw [if_neg d, if_neg (by omega)]
theorem bg10 : ∀ (n : Nat) (i : Int32) (w : Nat → Int32), 0 ≤ i.toInt → i.toInt ≤ 42 → 42 - i.toInt < n → (∀ k : Nat, (k : Int) < i.toInt → w k = 0) → ∃ (j : Int32) (u : Nat → Int32), f_m_begins_10 n i w = (j, u) ∧ (∀ k : Nat, k < 42 → u k = 0) ∧ (∀ x : Nat, 42 ≤ x → u x = w x) := by
  intro n
  induction n with
  | zero => intro i w h0 h1 h2; omega
  | succ n ih =>
    intro i w h0 h1 h2 h3
    rw [f_m_begins_10_s]
    by_cases c : 42 ≤ i
    · rw [if_pos c]
      rw [i_le] at c
      simp only [Int32.reduceToInt] at c
      exact ⟨i, w, rfl, fun k hk => h3 k (by omega), fun x _ => rfl⟩
    · rw [if_neg c]
      rw [i_le] at c
      simp only [Int32.reduceToInt] at c
      have e := i_a1 (a := i) (by omega) (by omega)
      have ei := clI h0
      obtain ⟨j, u, x1, x2, x3⟩ := ih (i + 1) (upd w i.toNatClampNeg 0) (by omega) (by omega) (by omega) (fun k hk => by
        by_cases q : k = i.toNatClampNeg
        · subst q
          rw [pk_us]
        · rw [pk_un q]
          exact h3 k (by omega))
      exact ⟨j, u, x1, x2, fun x hx => by rw [x3 x hx, pk_un (by omega)]⟩
theorem bg31 {G fn ftb f9 : Nat → Int32} {t0 t1 t3 t4 : Int32} (h6 : (G 5).toInt ≤ 6) (hA : AG ftb f9 (G 5).toInt 0 99) : ∀ (n : Nat) (i : Int32) (f w : Nat → Int32), 0 ≤ i.toInt → i.toInt ≤ 6 → 6 - i.toInt < n → ST f w 0 0 → ∃ (j j' : Int32) (g u : Nat → Int32), f_e_begin_x7_10 fn t0 t1 (G 5) t3 t4 ftb n i f = (j, g) ∧ f_m_begins_31 G f9 n i w = (j', u) ∧ ST g u 0 0 ∧ (∀ c : Nat, i.toInt ≤ c → c < 6 → u c = (if (c : Int) < (G 5).toInt then f9 c else 0) ∧ u (6 + c) = -1) ∧ (∀ x : Nat, ¬ (i.toInt ≤ x ∧ x < 6) → ¬ (6 + i.toInt ≤ x ∧ x < 12) → u x = w x) := by
  intro n
  induction n with
  | zero => intro i f w h0 h1 h2; omega
  | succ n ih =>
    intro i f w h0 h1 h2 hS
    rw [f_e_begin_x7_10_s, f_m_begins_31_s]
    by_cases c : 6 ≤ i
    · rw [if_pos c, if_pos c]
      rw [i_le] at c
      simp only [Int32.reduceToInt] at c
      exact ⟨i, i, f, w, rfl, rfl, hS, fun c hc hl => by omega, fun x _ _ => rfl⟩
    · rw [if_neg c, if_neg c]
      rw [i_le] at c
      simp only [Int32.reduceToInt] at c
      have e := i_a1 (a := i) (by omega) (by omega)
      have ei := clI h0
      have i6 : i.toInt < 6 := by omega
      have x6 : (6 + i : Int32).toNatClampNeg = 6 + i.toNatClampNeg := sN (a := 6) (x := 6) (y := 6) rfl h0 i6 (by decide)
      rw [ix0, x6]
      have key : ∀ v : Int32, v = (if i.toInt < (G 5).toInt then f9 i.toNatClampNeg else 0) → ∃ (j j' : Int32) (g u : Nat → Int32), f_e_begin_x7_10 fn t0 t1 (G 5) t3 t4 ftb n (i + 1) (putF 41 (putF 41 f (2 + i) v) (8 + i) (-1)) = (j, g) ∧ f_m_begins_31 G f9 n (i + 1) (upd (upd w i.toNatClampNeg v) (6 + i.toNatClampNeg) (-1)) = (j', u) ∧ ST g u 0 0 ∧ (∀ c : Nat, i.toInt ≤ c → c < 6 → u c = (if (c : Int) < (G 5).toInt then f9 c else 0) ∧ u (6 + c) = -1) ∧ (∀ x : Nat, ¬ (i.toInt ≤ x ∧ x < 6) → ¬ (6 + i.toInt ≤ x ∧ x < 12) → u x = w x) := by
        intro v hv
        have s1 : ST (putF 41 f (2 + i) v) (upd w i.toNatClampNeg v) 0 0 := w_g hS h0 i6
        have s2 : ST (putF 41 (putF 41 f (2 + i) v) (8 + i) (-1)) (upd (upd w i.toNatClampNeg v) (6 + i.toNatClampNeg) (-1)) 0 0 := w_p s1 h0 i6
        obtain ⟨j, j', g, u, x1, x2, x3, x4, x5⟩ := ih (i + 1) _ _ (by omega) (by omega) (by omega) s2
        refine ⟨j, j', g, u, x1, x2, x3, fun c hc hl => ?_, fun x hx hy => ?_⟩
        · by_cases q : c = i.toNatClampNeg
          · subst q
            rw [x5 _ (by omega) (by omega), x5 _ (by omega) (by omega), pk_us, pk_un (by omega), pk_us, ei]
            exact ⟨hv, rfl⟩
          · exact x4 c (by omega) hl
        · rw [x5 x (by omega) (by omega), pk_un (by omega), pk_un (by omega)]
      by_cases d : G 5 ≤ i
      · rw [if_pos d, if_pos d]
        rw [i_le] at d
        exact key 0 (by rw [if_neg (by omega)])
      · rw [if_neg d, if_neg d]
        rw [i_le] at d
        have ev : atF 6 ftb i = f9 i.toNatClampNeg := by
          rw [at_in h0 i6]
          exact (hA i.toNatClampNeg (by omega)).1
        rw [ev]
        exact key _ (by rw [if_pos (by omega)])
theorem bg81 {fn ftb : Nat → Int32} {t0 t1 t2 t3 t4 : Int32} : ∀ (n : Nat) (i : Int32) (f w : Nat → Int32), 0 ≤ i.toInt → i.toInt ≤ 7 → 7 - i.toInt < n → ST f w 0 0 → ∃ (j j' : Int32) (g u : Nat → Int32), f_e_begin_x7_66 fn t0 t1 t2 t3 t4 ftb n i f = (j, g) ∧ f_m_begins_81 n i w = (j', u) ∧ ST g u 0 0 ∧ (∀ v : Nat, i.toInt ≤ v → v < 7 → u (27 + v) = -1 ∧ u (34 + v) = -1) ∧ (∀ x : Nat, ¬ (27 + i.toInt ≤ x ∧ x < 34) → ¬ (34 + i.toInt ≤ x ∧ x < 41) → u x = w x) := by
  intro n
  induction n with
  | zero => intro i f w h0 h1 h2; omega
  | succ n ih =>
    intro i f w h0 h1 h2 hS
    rw [f_e_begin_x7_66_s, f_m_begins_81_s]
    by_cases c : 7 ≤ i
    · rw [if_pos c, if_pos c]
      rw [i_le] at c
      simp only [Int32.reduceToInt] at c
      exact ⟨i, i, f, w, rfl, rfl, hS, fun c hc hl => by omega, fun x _ _ => rfl⟩
    · rw [if_neg c, if_neg c]
      rw [i_le] at c
      simp only [Int32.reduceToInt] at c
      have e := i_a1 (a := i) (by omega) (by omega)
      have ei := clI h0
      have i7 : i.toInt < 7 := by omega
      have x27 : (27 + i : Int32).toNatClampNeg = 27 + i.toNatClampNeg := sN (a := 27) (x := 27) (y := 7) rfl h0 i7 (by decide)
      have x34 : (34 + i : Int32).toNatClampNeg = 34 + i.toNatClampNeg := sN (a := 34) (x := 34) (y := 7) rfl h0 i7 (by decide)
      rw [x27, x34]
      have s2 : ST (putF 41 (putF 41 f (27 + i) (-1)) (34 + i) (-1)) (upd (upd w (27 + i.toNatClampNeg) (-1)) (34 + i.toNatClampNeg) (-1)) 0 0 := w_when (w_berth hS h0 i7) h0 i7
      obtain ⟨j, j', g, u, x1, x2, x3, x4, x5⟩ := ih (i + 1) _ _ (by omega) (by omega) (by omega) s2
      refine ⟨j, j', g, u, x1, x2, x3, fun c hc hl => ?_, fun x hx hy => ?_⟩
      · by_cases q : c = i.toNatClampNeg
        · subst q
          rw [x5 _ (by omega) (by omega), x5 _ (by omega) (by omega), pk_us, pk_un (by omega), pk_us]
          exact ⟨rfl, rfl⟩
        · exact x4 c (by omega) hl
      · rw [x5 x (by omega) (by omega), pk_un (by omega), pk_un (by omega)]
theorem begin_eq {G fn w ftb f9 : Nat → Int32} {t0 t1 t3 t4 : Int32} (hG : GI G) (h4 : 1 ≤ (G 4).toInt) (hA : AG ftb f9 (G 5).toInt 0 99) : ST (f_e_begin_x7 fn t0 t1 (G 5) t3 t4 ftb) (f_m_begins G w f9) 0 0 ∧ BI G (f_m_begins G w f9) 0 ∧ f_m_begins G w f9 41 = w 41 ∧ (∀ x : Nat, 42 ≤ x → f_m_begins G w f9 x = w x) := by
  have g0 := hG.2.2.2.1.1
  have g6 := hG.2.2.2.1.2
  have g3 := hG.2.1.1
  obtain ⟨j, u, x1, x2, x3⟩ := bg10 43 0 w (by decide) (by decide) (by decide) (fun k hk => absurd hk (by rw [i_0]; omega))
  have s0 : ST (fillZ fn 41) u 0 0 := by
    intro k hk
    have := cx_lt hk
    rw [Nat.zero_add, Nat.zero_add, fz _ _ 41 (by decide), if_pos hk, x2 _ (by omega)]
  obtain ⟨j1, j2, f1, w1, a1, a2, a3, a4, a5⟩ := bg31 (fn := fn) (t0 := t0) (t1 := t1) (t3 := t3) (t4 := t4) g6 hA 7 0 (fillZ fn 41) u (by decide) (by decide) (by decide) s0
  obtain ⟨j3, j4, f2, w2, b1, b2, b3, b4, b5⟩ := bg81 (fn := fn) (ftb := ftb) (t0 := t0) (t1 := t1) (t2 := G 5) (t3 := t3) (t4 := t4) 8 0 f1 w1 (by decide) (by decide) (by decide) a3
  rw [i_0] at a4 a5 b4 b5
  have he : f_e_begin_x7 fn t0 t1 (G 5) t3 t4 ftb = f2 := by
    unfold f_e_begin_x7
    have e7 : ((6 : Int32).toInt - (0 : Int32).toInt).toNat + 1 = 7 := rfl
    have e8 : ((7 : Int32).toInt - (0 : Int32).toInt).toNat + 1 = 8 := rfl
    rw [e7, a1]
    dsimp (config := { etaStruct := .none }) only
    rw [e8, b1]
  have hm : f_m_begins G w f9 = upd w2 41 (w 41) := by
    unfold f_m_begins
    have e43 : ((42 : Int32).toInt - (0 : Int32).toInt).toNat + 1 = 43 := rfl
    have e7 : ((6 : Int32).toInt - (0 : Int32).toInt).toNat + 1 = 7 := rfl
    have e8 : ((7 : Int32).toInt - (0 : Int32).toInt).toNat + 1 = 8 := rfl
    rw [e43, x1]
    dsimp (config := { etaStruct := .none }) only
    rw [e7, a2]
    dsimp (config := { etaStruct := .none }) only
    rw [e8, b2]
    rfl
  rw [he, hm]
  have v : ∀ x, x ≠ 41 → (upd w2 41 (w 41)) x = w2 x := fun x hx => pk_un hx
  have low : ∀ c : Nat, c < 6 → w2 c = (if (c : Int) < (G 5).toInt then f9 c else 0) ∧ w2 (6 + c) = -1 := by
    intro c hc
    rw [b5 c (by omega) (by omega), b5 (6 + c) (by omega) (by omega)]
    exact a4 c (by omega) hc
  have mid : ∀ x : Nat, 12 ≤ x → x < 27 → w2 x = 0 := by
    intro x h1 h2
    rw [b5 x (by omega) (by omega), a5 x (by omega) (by omega), x2 x (by omega)]
  refine ⟨ST_off b3 (by decide), ⟨fun c hc => ?_, fun c hc hg => ?_, fun c hc => ?_, fun c d hc hd _ _ => ?_, fun c hc => ?_, fun c h0 h1 hh => ?_, fun v' hv _ => ?_, fun v' hv _ => ?_, by rw [v _ (by decide), mid 18 (by decide) (by decide)]; decide⟩, pk_us, fun x hx => ?_⟩
  · rw [Nat.zero_add, v _ (by omega), (low c hc).1]
    by_cases q : (c : Int) < (G 5).toInt
    · rw [if_pos q]
      exact (hA c q).2
    · rw [if_neg q]
      decide
  · rw [Nat.zero_add, Nat.zero_add, v _ (by omega), v _ (by omega), (low c hc).1, (low c hc).2, if_neg (by omega)]
    exact ⟨rfl, rfl⟩
  · rw [Nat.zero_add, v _ (by omega), (low c hc).2, i_m1]
    omega
  · rw [Nat.zero_add, v _ (by omega), (low c hc).2]
  · rw [Nat.zero_add, v _ (by omega), mid _ (by omega) (by omega), i_0]
    omega
  · rw [Nat.zero_add, v _ (by omega), mid 18 (by omega) (by omega), has_zero h0 h1] at hh
    exact absurd rfl hh
  · rw [Nat.zero_add, Nat.zero_add, v _ (by omega), v _ (by omega)]
    exact b4 v' (by omega) hv
  · rw [Nat.zero_add, v _ (by omega), mid _ (by omega) (by omega)]
  · rw [v _ (by omega), b5 x (by omega) (by omega), a5 x (by omega) (by omega), x3 x hx]
end
section
/-! what the calls leave alike -/
theorem nI_cl {x : Int32} (h : 0 ≤ x.toInt) : nI x.toNatClampNeg = x := by
  have h2 := Int32.toInt_lt x
  rw [i_eq, i_clamp, nI_toInt (by omega)]
  omega
theorem has_or_all : ∀ (n : Fin 64) (a b : Fin 6), f_m_has (nI n.val ||| (1 <<< (nI a.val &&& 31))) (nI b.val) = (if b = a then 1 else f_m_has (nI n.val) (nI b.val)) ∧ 0 ≤ (nI n.val ||| (1 <<< (nI a.val &&& 31))).toInt ∧ (nI n.val ||| (1 <<< (nI a.val &&& 31))).toInt < 64 := by decide +kernel
theorem has_or {s c d : Int32} (s0 : 0 ≤ s.toInt) (s1 : s.toInt < 64) (c0 : 0 ≤ c.toInt) (c1 : c.toInt < 6) (d0 : 0 ≤ d.toInt) (d1 : d.toInt < 6) : (¬ f_m_has (s ||| (1 <<< (c &&& 31))) d = 0 → d = c ∨ ¬ f_m_has s d = 0) ∧ 0 ≤ (s ||| (1 <<< (c &&& 31))).toInt ∧ (s ||| (1 <<< (c &&& 31))).toInt < 64 := by
  have k := has_or_all ⟨s.toNatClampNeg, clN s0 s1⟩ ⟨c.toNatClampNeg, clN c0 c1⟩ ⟨d.toNatClampNeg, clN d0 d1⟩
  dsimp only at k
  rw [nI_cl s0, nI_cl c0, nI_cl d0] at k
  refine ⟨fun h => ?_, k.2⟩
  by_cases q : d.toNatClampNeg = c.toNatClampNeg
  · exact Or.inl (cl_inj d0 c0 q)
  · refine Or.inr ?_
    rw [k.1, if_neg (fun z => q (congrArg Fin.val z))] at h
    exact h
def TX (q1 q2 : Int32) (ftx G f13 : Nat → Int32) : Prop := q1 = G 14 ∧ ftx = f13 ∧ q2 = G 19
def TN (t0 t1 t2 t3 t4 : Int32) (fta ftb ftc ftd fte G f8 f9 f10 f11 f12 : Nat → Int32) : Prop := t0 = G 3 ∧ t1 = G 4 ∧ t2 = G 5 ∧ t3 = G 6 ∧ t4 = G 7 ∧ 1 ≤ (G 4).toInt ∧ (G 7 = 0 ∨ G 7 = 1) ∧ AG fta f8 (G 3).toInt 1 60 ∧ AG ftb f9 (G 5).toInt 0 99 ∧ AF ftc f10 (G 5).toInt (G 4).toInt ∧ AG ftd f11 (G 6).toInt 0 ((G 3).toInt - 1) ∧ AG fte f12 (G 6).toInt 1 300
def SN (q12 : Int32) (fn G w : Nat → Int32) : Prop := ST fn w 0 0 ∧ BI G w 0 ∧ q12 = w 41
def BK (b0 : Int32) (fba fbb G f43 f44 : Nat → Int32) : Prop := b0 = G 42 ∧ fba = f43 ∧ fbb = f44
theorem TX_of {q1 q2 : Int32} {ftx G H f13 : Nat → Int32} (h : TX q1 q2 ftx G f13) (e1 : H 14 = G 14) (e2 : H 19 = G 19) : TX q1 q2 ftx H f13 := by
  unfold TX
  rw [e1, e2]
  exact h
theorem TN_of {t0 t1 t2 t3 t4 : Int32} {fta ftb ftc ftd fte G H f8 f9 f10 f11 f12 : Nat → Int32} (h : TN t0 t1 t2 t3 t4 fta ftb ftc ftd fte G f8 f9 f10 f11 f12) (e : ∀ k, 3 ≤ k → k ≤ 7 → H k = G k) : TN t0 t1 t2 t3 t4 fta ftb ftc ftd fte H f8 f9 f10 f11 f12 := by
  unfold TN
  rw [e 3 (by decide) (by decide), e 4 (by decide) (by decide), e 5 (by decide) (by decide), e 6 (by decide) (by decide), e 7 (by decide) (by decide)]
  exact h
theorem BK_of {b0 : Int32} {fba fbb G H f43 f44 : Nat → Int32} (h : BK b0 fba fbb G f43 f44) (e : H 42 = G 42) : BK b0 fba fbb H f43 f44 := by
  unfold BK
  rw [e]
  exact h
theorem SN_of {q12 : Int32} {fn G H w u : Nat → Int32} (h : SN q12 fn G w) (e : ∀ x, x < 42 → u x = w x) (e3 : H 3 = G 3) (e4 : H 4 = G 4) (e5 : H 5 = G 5) (e6 : H 6 = G 6) : SN q12 fn H u := by
  refine ⟨ST_of h.1 (fun k hk => ?_), BI_of h.2.1 (fun k hk => ?_) e3 e4 e5 e6, by rw [e 41 (by decide)]; exact h.2.2⟩
  · rw [Nat.zero_add]
    exact e k (by omega)
  · rw [Nat.zero_add]
    exact e k (by omega)
/-- all that is alike but for the state, what can be undone and the images -/
def RS (q1 q2 : Int32) (ftx f13 : Nat → Int32) (t0 t1 t2 t3 t4 : Int32) (fta ftb ftc ftd fte f8 f9 f10 f11 f12 : Nat → Int32) (b0 : Int32) (fba fbb f43 f44 G : Nat → Int32) : Prop := TX q1 q2 ftx G f13 ∧ TN t0 t1 t2 t3 t4 fta ftb ftc ftd fte G f8 f9 f10 f11 f12 ∧ BK b0 fba fbb G f43 f44
theorem RS_of {q1 q2 : Int32} {ftx f13 : Nat → Int32} {t0 t1 t2 t3 t4 : Int32} {fta ftb ftc ftd fte f8 f9 f10 f11 f12 : Nat → Int32} {b0 : Int32} {fba fbb f43 f44 G H : Nat → Int32} (h : RS q1 q2 ftx f13 t0 t1 t2 t3 t4 fta ftb ftc ftd fte f8 f9 f10 f11 f12 b0 fba fbb f43 f44 G) (e : ∀ k, 3 ≤ k → k < 32 ∨ k = 42 → H k = G k) : RS q1 q2 ftx f13 t0 t1 t2 t3 t4 fta ftb ftc ftd fte f8 f9 f10 f11 f12 b0 fba fbb f43 f44 H :=
  ⟨TX_of h.1 (e 14 (by decide) (by decide)) (e 19 (by decide) (by decide)), TN_of h.2.1 (fun k a b => e k a (by omega)), BK_of h.2.2 (e 42 (by decide) (by decide))⟩
/-- the state, what can be undone, the images -/
def DY (q10 q12 p1 p2 : Int32) (fn fsh fim fis f1 G w : Nat → Int32) : Prop := SN q12 fn G w ∧ UR G p1 p2 fsh w ∧ IR G q10 fim fis f1 w
theorem DY_of {q10 q12 p1 p2 : Int32} {fn fsh fim fis f1 G H w u : Nat → Int32} (h : DY q10 q12 p1 p2 fn fsh fim fis f1 G w) (hG : GI G) (e : ∀ x, x < 42 ∨ 378 ≤ x → u x = w x) (eG : ∀ k, 2 ≤ k → k ≤ 6 → H k = G k) : DY q10 q12 p1 p2 fn fsh fim fis f1 H u := by
  have e2 := eG 2 (by decide) (by decide)
  have e3 := eG 3 (by decide) (by decide)
  have e4 := eG 4 (by decide) (by decide)
  have e5 := eG 5 (by decide) (by decide)
  have e6 := eG 6 (by decide) (by decide)
  exact ⟨SN_of h.1 (fun x hx => e x (by omega)) e3 e4 e5 e6, UR_of h.2.1 hG (fun x hx _ => e x (by omega)) e2 e3 e4 e5 e6, IR_of h.2.2 (fun x hx _ => e x (by omega)) e3 e4 e5 e6⟩
/-- a call that is remembered, then changes the state alone -/
theorem DY_go {q10 q12 q12' p1 p2 : Int32} {fn fn' fsh fim fis f1 G w : Nat → Int32} (h : DY q10 q12 p1 p2 fn fsh fim fis f1 G w) (hG : GI G) : ∃ (q1 q2 : Int32) (gsh H u : Nat → Int32), f_e_remember_x2 p1 p2 fsh fn = (q1, q2, gsh) ∧ f_m_minds G w = (H, u) ∧ (∀ k, k ≠ 2 → H k = G k) ∧ (∀ x, x < 462 → u x = w x) ∧ GI H ∧ SN q12 fn H u ∧ ∀ v : Nat → Int32, (∀ x, 42 ≤ x → v x = u x) → SN q12' fn' H v → DY q10 q12' q1 q2 fn' gsh fim fis f1 H v := by
  obtain ⟨⟨hS, hB, hq⟩, hU, hI⟩ := h
  obtain ⟨q1, q2, gsh, H, u, a1, a2, a3, a4, a5⟩ := remember_eq hG hU hS hB
  have e3 := a4 3 (by decide)
  have e4 := a4 4 (by decide)
  have e5 := a4 5 (by decide)
  have e6 := a4 6 (by decide)
  have gH : GI H := by
    obtain ⟨_, _, hh, _, _, m4⟩ := minds_spec (w := w) hG
    rw [hh] at a2
    obtain ⟨g1, g2⟩ := hG
    have q20 : (20 : Int32).toInt = 20 := rfl
    cases a2
    refine ⟨?_, by rw [e3, e4, e5, e6, a4 14 (by decide), a4 42 (by decide)]; exact g2⟩
    rcases m4 with ⟨_, z, _⟩ | ⟨z1, z, _⟩
    · rw [z, q20]
      omega
    · rw [z, i_a1 (by omega) (by omega)]
      omega
  refine ⟨q1, q2, gsh, H, u, a1, a2, a4, a5, gH, SN_of ⟨hS, hB, hq⟩ (fun x hx => a5 x (by omega)) e3 e4 e5 e6, fun v hv hs => ⟨hs, UR_of a3 gH (fun x hx _ => hv x (by omega)) rfl rfl rfl rfl rfl, IR_of hI (fun x h1 h2 => ?_) e3 e4 e5 e6⟩⟩
  rw [hv x (by omega), a5 x (by omega)]
end
section
/-! single cells that change -/
theorem BI_p {G w : Nat → Int32} {c : Nat} {x : Int32} (h : BI G w 0) (hc : c < 6) (hg : (c : Int) < (G 5).toInt) (x0 : -1 ≤ x.toInt) (x1 : x.toInt < (G 3).toInt) (hu : ∀ d : Nat, d < 6 → d ≠ c → w (6 + d) = x → x = -1) : BI G (upd w (6 + c) x) 0 := by
  obtain ⟨b1, b2, b3, b4, b5, b6, b7, b8, b9⟩ := h
  simp only [Nat.zero_add] at b1 b2 b3 b4 b5 b6 b7 b8 b9
  unfold BI
  simp only [Nat.zero_add]
  refine ⟨fun d hd => ?_, fun d hd hg' => ?_, fun d hd => ?_, fun d d' hd hd' hn he => ?_, fun d hd => ?_, fun d h0 h1 hh => ?_, fun v hv hh => ?_, fun v hv hh => ?_, ?_⟩
  · rw [pk_un (by omega)]
    exact b1 d hd
  · rw [pk_un (by omega), pk_un (by omega)]
    exact b2 d hd hg'
  · by_cases q : d = c
    · subst q
      rw [pk_us]
      exact ⟨x0, x1⟩
    · rw [pk_un (by omega)]
      exact b3 d hd
  · by_cases q : d = c
    · subst q
      rw [pk_us] at he ⊢
      rw [pk_un (by omega)] at he
      exact hu d' hd' (fun z => hn z.symm) he.symm
    · rw [pk_un (by omega)] at he ⊢
      by_cases q' : d' = c
      · subst q'
        rw [pk_us] at he
        rw [he]
        exact hu d hd q he
      · rw [pk_un (by omega)] at he
        exact b4 d d' hd hd' hn he
  · rw [pk_un (by omega)]
    exact b5 d hd
  · have := clN (n := 6) h0 h1
    rw [pk_un (by omega)] at hh ⊢
    exact b6 d h0 h1 hh
  · rw [pk_un (by omega)] at hh
    rw [pk_un (by omega), pk_un (by omega)]
    exact b7 v hv hh
  · rw [pk_un (by omega)]
    exact b8 v hv hh
  · rw [pk_un (by omega)]
    exact b9
theorem BI_t {G w : Nat → Int32} {c : Nat} {x : Int32} (h : BI G w 0) (hc : c < 6) (x0 : 0 ≤ x.toInt) (x1 : x.toInt < (G 4).toInt) : BI G (upd w (12 + c) x) 0 := by
  obtain ⟨b1, b2, b3, b4, b5, b6, b7, b8, b9⟩ := h
  simp only [Nat.zero_add] at b1 b2 b3 b4 b5 b6 b7 b8 b9
  unfold BI
  simp only [Nat.zero_add]
  refine ⟨fun d hd => ?_, fun d hd hg' => ?_, fun d hd => ?_, fun d d' hd hd' hn he => ?_, fun d hd => ?_, fun d h0 h1 hh => ?_, fun v hv hh => ?_, fun v hv hh => ?_, ?_⟩
  · rw [pk_un (by omega)]
    exact b1 d hd
  · rw [pk_un (by omega), pk_un (by omega)]
    exact b2 d hd hg'
  · rw [pk_un (by omega)]
    exact b3 d hd
  · rw [pk_un (by omega), pk_un (by omega)] at he
    rw [pk_un (by omega)]
    exact b4 d d' hd hd' hn he
  · by_cases q : d = c
    · subst q
      rw [pk_us]
      exact ⟨x0, x1⟩
    · rw [pk_un (by omega)]
      exact b5 d hd
  · have := clN (n := 6) h0 h1
    rw [pk_un (by omega)] at hh ⊢
    exact b6 d h0 h1 hh
  · rw [pk_un (by omega)] at hh
    rw [pk_un (by omega), pk_un (by omega)]
    exact b7 v hv hh
  · rw [pk_un (by omega)]
    exact b8 v hv hh
  · rw [pk_un (by omega)]
    exact b9
theorem BI_g {G w : Nat → Int32} {c x : Int32} (h : BI G w 0) (c0 : 0 ≤ c.toInt) (c1 : c.toInt < 6) (hg : c.toInt < (G 5).toInt) (x0 : 0 ≤ x.toInt) (x1 : x.toInt ≤ 99) (hd : ¬ f_m_has (w 18) c = 0 → x = 0) : BI G (upd w c.toNatClampNeg x) 0 := by
  have hc := clN (n := 6) c0 c1
  have ec := clI c0
  obtain ⟨b1, b2, b3, b4, b5, b6, b7, b8, b9⟩ := h
  simp only [Nat.zero_add] at b1 b2 b3 b4 b5 b6 b7 b8 b9
  unfold BI
  simp only [Nat.zero_add]
  refine ⟨fun d hd => ?_, fun d hd hg' => ?_, fun d hd => ?_, fun d d' hd hd' hn he => ?_, fun d hd => ?_, fun d h0 h1 hh => ?_, fun v hv hh => ?_, fun v hv hh => ?_, ?_⟩
  · by_cases q : d = c.toNatClampNeg
    · rw [q, pk_us]
      exact ⟨x0, x1⟩
    · rw [pk_un q]
      exact b1 d hd
  · rw [pk_un (by omega), pk_un (by omega)]
    exact b2 d hd hg'
  · rw [pk_un (by omega)]
    exact b3 d hd
  · rw [pk_un (by omega), pk_un (by omega)] at he
    rw [pk_un (by omega)]
    exact b4 d d' hd hd' hn he
  · rw [pk_un (by omega)]
    exact b5 d hd
  · have := clN (n := 6) h0 h1
    rw [pk_un (by omega)] at hh
    by_cases q : d.toNatClampNeg = c.toNatClampNeg
    · rw [q, pk_us]
      rw [cl_inj h0 c0 q] at hh
      exact hd hh
    · rw [pk_un q]
      exact b6 d h0 h1 hh
  · rw [pk_un (by omega)] at hh
    rw [pk_un (by omega), pk_un (by omega)]
    exact b7 v hv hh
  · rw [pk_un (by omega)]
    exact b8 v hv hh
  · rw [pk_un (by omega)]
    exact b9
theorem BI_m {G w : Nat → Int32} {k : Nat} {x : Int32} (h : BI G w 0) (hk : k = 19 ∨ 41 ≤ k) : BI G (upd w k x) 0 := by
  obtain ⟨b1, b2, b3, b4, b5, b6, b7, b8, b9⟩ := h
  simp only [Nat.zero_add] at b1 b2 b3 b4 b5 b6 b7 b8 b9
  unfold BI
  simp only [Nat.zero_add]
  refine ⟨fun d hd => ?_, fun d hd hg' => ?_, fun d hd => ?_, fun d d' hd hd' hn he => ?_, fun d hd => ?_, fun d h0 h1 hh => ?_, fun v hv hh => ?_, fun v hv hh => ?_, ?_⟩
  · rw [pk_un (by omega)]
    exact b1 d hd
  · rw [pk_un (by omega), pk_un (by omega)]
    exact b2 d hd hg'
  · rw [pk_un (by omega)]
    exact b3 d hd
  · rw [pk_un (by omega), pk_un (by omega)] at he
    rw [pk_un (by omega)]
    exact b4 d d' hd hd' hn he
  · rw [pk_un (by omega)]
    exact b5 d hd
  · have := clN (n := 6) h0 h1
    rw [pk_un (by omega)] at hh ⊢
    exact b6 d h0 h1 hh
  · rw [pk_un (by omega)] at hh
    rw [pk_un (by omega), pk_un (by omega)]
    exact b7 v hv hh
  · rw [pk_un (by omega)]
    exact b8 v hv hh
  · rw [pk_un (by omega)]
    exact b9
theorem BI_d {G w : Nat → Int32} {c : Int32} (h : BI G w 0) (c0 : 0 ≤ c.toInt) (c1 : c.toInt < 6) (hz : w c.toNatClampNeg = 0) : BI G (upd w 18 (w 18 ||| (1 <<< (c &&& 31)))) 0 := by
  obtain ⟨b1, b2, b3, b4, b5, b6, b7, b8, b9⟩ := h
  simp only [Nat.zero_add] at b1 b2 b3 b4 b5 b6 b7 b8 b9
  unfold BI
  simp only [Nat.zero_add]
  refine ⟨fun d hd => ?_, fun d hd hg' => ?_, fun d hd => ?_, fun d d' hd hd' hn he => ?_, fun d hd => ?_, fun d h0 h1 hh => ?_, fun v hv hh => ?_, fun v hv hh => ?_, ?_⟩
  · rw [pk_un (by omega)]
    exact b1 d hd
  · rw [pk_un (by omega), pk_un (by omega)]
    exact b2 d hd hg'
  · rw [pk_un (by omega)]
    exact b3 d hd
  · rw [pk_un (by omega), pk_un (by omega)] at he
    rw [pk_un (by omega)]
    exact b4 d d' hd hd' hn he
  · rw [pk_un (by omega)]
    exact b5 d hd
  · have := clN (n := 6) h0 h1
    rw [pk_us] at hh
    rw [pk_un (by omega)]
    rcases (has_or b9.1 b9.2 c0 c1 h0 h1).1 hh with q | q
    · rw [q]
      exact hz
    · exact b6 d h0 h1 q
  · rw [pk_un (by omega)] at hh
    rw [pk_un (by omega), pk_un (by omega)]
    exact b7 v hv hh
  · rw [pk_un (by omega)]
    exact b8 v hv hh
  · rw [pk_us]
    exact (has_or b9.1 b9.2 c0 c1 c0 c1).2
/-- a barge that has come through, or lies -/
theorem BI_v {G w : Nat → Int32} {v : Nat} {x y z : Int32} (h : BI G w 0) (hv : v < 7) (hg : (v : Int) < (G 6).toInt) (hx : x ≠ 0) : BI G (upd (upd (upd w (27 + v) y) (20 + v) x) (34 + v) z) 0 := by
  obtain ⟨b1, b2, b3, b4, b5, b6, b7, b8, b9⟩ := h
  simp only [Nat.zero_add] at b1 b2 b3 b4 b5 b6 b7 b8 b9
  unfold BI
  simp only [Nat.zero_add]
  have o : ∀ k, k ≠ 27 + v → k ≠ 20 + v → k ≠ 34 + v → (upd (upd (upd w (27 + v) y) (20 + v) x) (34 + v) z) k = w k := fun k a b c => by rw [pk_un c, pk_un b, pk_un a]
  have o20 : (upd (upd (upd w (27 + v) y) (20 + v) x) (34 + v) z) (20 + v) = x := by rw [pk_un (by omega), pk_us]
  generalize upd (upd (upd w (27 + v) y) (20 + v) x) (34 + v) z = u at o o20
  refine ⟨fun d hd => ?_, fun d hd hg' => ?_, fun d hd => ?_, fun d d' hd hd' hn he => ?_, fun d hd => ?_, fun d h0 h1 hh => ?_, fun v' hv' hh => ?_, fun v' hv' hh => ?_, ?_⟩
  · rw [o _ (by omega) (by omega) (by omega)]
    exact b1 d hd
  · rw [o _ (by omega) (by omega) (by omega), o _ (by omega) (by omega) (by omega)]
    exact b2 d hd hg'
  · rw [o _ (by omega) (by omega) (by omega)]
    exact b3 d hd
  · rw [o _ (by omega) (by omega) (by omega), o (6 + d') (by omega) (by omega) (by omega)] at he
    rw [o _ (by omega) (by omega) (by omega)]
    exact b4 d d' hd hd' hn he
  · rw [o _ (by omega) (by omega) (by omega)]
    exact b5 d hd
  · have := clN (n := 6) h0 h1
    rw [o _ (by omega) (by omega) (by omega)] at hh ⊢
    exact b6 d h0 h1 hh
  · by_cases q : v' = v
    · rw [q, o20] at hh
      exact absurd hh hx
    · rw [o _ (by omega) (by omega) (by omega)] at hh
      rw [o _ (by omega) (by omega) (by omega), o _ (by omega) (by omega) (by omega)]
      exact b7 v' hv' hh
  · rw [o _ (by omega) (by omega) (by omega)]
    exact b8 v' hv' hh
  · rw [o _ (by omega) (by omega) (by omega)]
    exact b9
end
