/-! the state of the class and the reference's, side by side: cells -/
/-- where a cell of the class's state lies in a block of the reference -/
def cx (i : Nat) : Nat := if i = 0 then 19 else if i = 1 then 18 else if i < 20 then i - 2 else i
theorem cx_lt {i : Nat} (h : i < 41) : cx i < 41 := by
  unfold cx
  (repeat' split) <;> omega
theorem cx_inj {i j : Nat} (h : cx i = cx j) : i = j := by
  unfold cx at h
  (repeat' split at h) <;> omega
theorem cx_g {n : Nat} (h : n < 6) : cx (2 + n) = n := by
  unfold cx
  (repeat' split) <;> omega
theorem cx_p {n : Nat} (h : n < 6) : cx (8 + n) = 6 + n := by
  unfold cx
  (repeat' split) <;> omega
theorem cx_t {n : Nat} (h : n < 6) : cx (14 + n) = 12 + n := by
  unfold cx
  (repeat' split) <;> omega
theorem cx_v {n : Nat} (h : 20 ≤ n) : cx n = n := by
  unfold cx
  (repeat' split) <;> omega
theorem ixn {a c : Int32} (ha : 0 ≤ a.toInt) (hc : 0 ≤ c.toInt) (h : a.toInt + c.toInt < 2147483648) : (a + c).toNatClampNeg = a.toNatClampNeg + c.toNatClampNeg := by
  rw [i_clamp, i_clamp, i_clamp, i_add (by omega) h]
  omega
theorem ix0 {c : Int32} : (0 + c).toNatClampNeg = c.toNatClampNeg := by rw [Int32.zero_add]
theorem clN {c : Int32} {n : Nat} (h0 : 0 ≤ c.toInt) (h : c.toInt < n) : c.toNatClampNeg < n := by
  rw [i_clamp]
  omega
theorem clI {c : Int32} (h0 : 0 ≤ c.toInt) : (c.toNatClampNeg : Int) = c.toInt := by
  rw [i_clamp]
  omega
theorem cl_inj {a b : Int32} (ha : 0 ≤ a.toInt) (hb : 0 ≤ b.toInt) (h : a.toNatClampNeg = b.toNatClampNeg) : a = b := by
  rw [i_clamp, i_clamp] at h
  rw [i_eq]
  omega
def ST (f w : Nat → Int32) (o h : Nat) : Prop := ∀ i, i < 41 → f (o + i) = w (h + cx i)
theorem ST_at {f w : Nat → Int32} (h : ST f w 0 0) {i : Int32} (h0 : 0 ≤ i.toInt) (h1 : i.toInt < 41) : atF 41 f i = w (cx i.toNatClampNeg) := by
  rw [at_in h0 h1]
  have := h i.toNatClampNeg (clN h0 h1)
  rw [Nat.zero_add, Nat.zero_add] at this
  exact this
theorem ST_put {f w : Nat → Int32} (h : ST f w 0 0) {i x : Int32} (h0 : 0 ≤ i.toInt) (h1 : i.toInt < 41) : ST (putF 41 f i x) (upd w (cx i.toNatClampNeg) x) 0 0 := by
  intro j hj
  have e := h j hj
  rw [put_in h0 h1]
  rw [Nat.zero_add, Nat.zero_add] at e ⊢
  by_cases c : j = i.toNatClampNeg
  · rw [c, pk_us, pk_us]
  · rw [pk_un c, pk_un (fun q => c (cx_inj q))]
    exact e
theorem ST_off {f w : Nat → Int32} (h : ST f w 0 0) {k : Nat} {x : Int32} (hk : 41 ≤ k) : ST f (upd w k x) 0 0 := by
  intro j hj
  have := cx_lt hj
  rw [pk_un (by omega)]
  exact h j hj
theorem ST_of {f w w' : Nat → Int32} {o h h' : Nat} (q : ST f w o h) (e : ∀ k, k < 41 → w' (h' + k) = w (h + k)) : ST f w' o h' := by
  intro i hi
  rw [q i hi, e (cx i) (cx_lt hi)]
theorem sm {a c : Int32} {x y : Int} (ha : a.toInt = x) (h0 : 0 ≤ c.toInt) (h1 : c.toInt < y) (hx : 0 ≤ x) (hxy : x + y ≤ 41) : 0 ≤ (a + c).toInt ∧ (a + c).toInt < 41 := by
  rw [i_add (by omega) (by omega)]
  omega
theorem sN {a c : Int32} {x : Nat} {y : Int} (ha : a.toInt = x) (h0 : 0 ≤ c.toInt) (h1 : c.toInt < y) (hxy : (x : Int) + y ≤ 41) : (a + c).toNatClampNeg = x + c.toNatClampNeg := by
  rw [ixn (by omega) h0 (by omega), i_clamp a, ha]
  rfl
theorem e_g {f w : Nat → Int32} (h : ST f w 0 0) {c : Int32} (h0 : 0 ≤ c.toInt) (h1 : c.toInt < 6) : f_e_grievanceOf f c = w c.toNatClampNeg := by
  unfold f_e_grievanceOf
  have b := sm (a := 2) (c := c) rfl h0 h1 (by decide) (by decide)
  rw [ST_at h b.1 b.2, sN (a := 2) (x := 2) rfl h0 h1 (by decide), cx_g (clN h0 h1)]
theorem e_p {f w : Nat → Int32} (h : ST f w 0 0) {c : Int32} (h0 : 0 ≤ c.toInt) (h1 : c.toInt < 6) : f_e_bridgeOf f c = w (6 + c.toNatClampNeg) := by
  unfold f_e_bridgeOf
  have b := sm (a := 8) (c := c) rfl h0 h1 (by decide) (by decide)
  rw [ST_at h b.1 b.2, sN (a := 8) (x := 8) rfl h0 h1 (by decide), cx_p (clN h0 h1)]
theorem e_t {f w : Nat → Int32} (h : ST f w 0 0) {c : Int32} (h0 : 0 ≤ c.toInt) (h1 : c.toInt < 6) : f_e_themeOf f c = w (12 + c.toNatClampNeg) := by
  unfold f_e_themeOf
  have b := sm (a := 14) (c := c) rfl h0 h1 (by decide) (by decide)
  rw [ST_at h b.1 b.2, sN (a := 14) (x := 14) rfl h0 h1 (by decide), cx_t (clN h0 h1)]
theorem e_fate {f w : Nat → Int32} (h : ST f w 0 0) {c : Int32} (h0 : 0 ≤ c.toInt) (h1 : c.toInt < 7) : f_e_fateOf f c = w (20 + c.toNatClampNeg) := by
  unfold f_e_fateOf
  have b := sm (a := 20) (c := c) rfl h0 h1 (by decide) (by decide)
  rw [ST_at h b.1 b.2, sN (a := 20) (x := 20) rfl h0 h1 (by decide), cx_v (by omega)]
theorem e_lying {f w : Nat → Int32} (h : ST f w 0 0) {c : Int32} (h0 : 0 ≤ c.toInt) (h1 : c.toInt < 7) : f_e_lyingAt f c = w (27 + c.toNatClampNeg) := by
  unfold f_e_lyingAt
  have b := sm (a := 27) (c := c) rfl h0 h1 (by decide) (by decide)
  rw [ST_at h b.1 b.2, sN (a := 27) (x := 27) rfl h0 h1 (by decide), cx_v (by omega)]
theorem e_passed {f w : Nat → Int32} (h : ST f w 0 0) {c : Int32} (h0 : 0 ≤ c.toInt) (h1 : c.toInt < 7) : f_e_passedAt f c = w (34 + c.toNatClampNeg) := by
  unfold f_e_passedAt
  have b := sm (a := 34) (c := c) rfl h0 h1 (by decide) (by decide)
  rw [ST_at h b.1 b.2, sN (a := 34) (x := 34) rfl h0 h1 (by decide), cx_v (by omega)]
theorem e_min {f w : Nat → Int32} (h : ST f w 0 0) : f_e_minutes f = w 19 := by
  unfold f_e_minutes
  rw [ST_at h (by decide) (by decide)]
  rfl
theorem e_rec {f w : Nat → Int32} (h : ST f w 0 0) : f_e_reconciledSet f = w 18 := by
  unfold f_e_reconciledSet
  rw [ST_at h (by decide) (by decide)]
  rfl
theorem w_g {f w : Nat → Int32} (h : ST f w 0 0) {c x : Int32} (h0 : 0 ≤ c.toInt) (h1 : c.toInt < 6) : ST (f_e_leave f c x) (upd w c.toNatClampNeg x) 0 0 := by
  unfold f_e_leave
  have b := sm (a := 2) (c := c) rfl h0 h1 (by decide) (by decide)
  have := ST_put h (x := x) b.1 b.2
  rw [sN (a := 2) (x := 2) rfl h0 h1 (by decide), cx_g (clN h0 h1)] at this
  exact this
theorem w_p {f w : Nat → Int32} (h : ST f w 0 0) {c x : Int32} (h0 : 0 ≤ c.toInt) (h1 : c.toInt < 6) : ST (f_e_place f c x) (upd w (6 + c.toNatClampNeg) x) 0 0 := by
  unfold f_e_place
  have b := sm (a := 8) (c := c) rfl h0 h1 (by decide) (by decide)
  have := ST_put h (x := x) b.1 b.2
  rw [sN (a := 8) (x := 8) rfl h0 h1 (by decide), cx_p (clN h0 h1)] at this
  exact this
theorem w_t {f w : Nat → Int32} (h : ST f w 0 0) {c x : Int32} (h0 : 0 ≤ c.toInt) (h1 : c.toInt < 6) : ST (f_e_turnTo f c x) (upd w (12 + c.toNatClampNeg) x) 0 0 := by
  unfold f_e_turnTo
  have b := sm (a := 14) (c := c) rfl h0 h1 (by decide) (by decide)
  have := ST_put h (x := x) b.1 b.2
  rw [sN (a := 14) (x := 14) rfl h0 h1 (by decide), cx_t (clN h0 h1)] at this
  exact this
theorem w_fate {f w : Nat → Int32} (h : ST f w 0 0) {c x : Int32} (h0 : 0 ≤ c.toInt) (h1 : c.toInt < 7) : ST (putF 41 f (20 + c) x) (upd w (20 + c.toNatClampNeg) x) 0 0 := by
  have b := sm (a := 20) (c := c) rfl h0 h1 (by decide) (by decide)
  have := ST_put h (x := x) b.1 b.2
  rw [sN (a := 20) (x := 20) rfl h0 h1 (by decide), cx_v (by omega)] at this
  exact this
theorem w_berth {f w : Nat → Int32} (h : ST f w 0 0) {c x : Int32} (h0 : 0 ≤ c.toInt) (h1 : c.toInt < 7) : ST (putF 41 f (27 + c) x) (upd w (27 + c.toNatClampNeg) x) 0 0 := by
  have b := sm (a := 27) (c := c) rfl h0 h1 (by decide) (by decide)
  have := ST_put h (x := x) b.1 b.2
  rw [sN (a := 27) (x := 27) rfl h0 h1 (by decide), cx_v (by omega)] at this
  exact this
theorem w_when {f w : Nat → Int32} (h : ST f w 0 0) {c x : Int32} (h0 : 0 ≤ c.toInt) (h1 : c.toInt < 7) : ST (putF 41 f (34 + c) x) (upd w (34 + c.toNatClampNeg) x) 0 0 := by
  have b := sm (a := 34) (c := c) rfl h0 h1 (by decide) (by decide)
  have := ST_put h (x := x) b.1 b.2
  rw [sN (a := 34) (x := 34) rfl h0 h1 (by decide), cx_v (by omega)] at this
  exact this
theorem w_min {f w : Nat → Int32} (h : ST f w 0 0) {v : Int32} : ST (f_e_spendMinutes f v) (upd w 19 (w 19 + v)) 0 0 := by
  unfold f_e_spendMinutes
  have := ST_put h (i := 0) (x := w 19 + v) (by decide) (by decide)
  rw [e_min h]
  exact this
theorem w_rec {f w : Nat → Int32} (h : ST f w 0 0) {x : Int32} : ST (putF 41 f 1 x) (upd w 18 x) 0 0 := ST_put h (i := 1) (x := x) (by decide) (by decide)
theorem and1 (v : Int32) : v &&& 1 = 0 ∨ v &&& 1 = 1 := by
  have h : (v.toBitVec &&& 1#32).toNat ≤ 1 := by
    rw [BitVec.toNat_and]
    exact Nat.and_le_right
  have e : ∀ n : Nat, (v.toBitVec &&& 1#32).toNat = n → v &&& 1 = Int32.ofNat n := by
    intro n hn
    apply Int32.toBitVec_inj.mp
    show v.toBitVec &&& 1#32 = (Int32.ofNat n).toBitVec
    rw [Int32.toBitVec_ofNat', ← hn, BitVec.ofNat_toNat, BitVec.setWidth_eq]
  rcases (show (v.toBitVec &&& 1#32).toNat = 0 ∨ (v.toBitVec &&& 1#32).toNat = 1 by omega) with q | q
  · exact Or.inl (e 0 q)
  · exact Or.inr (e 1 q)
theorem e_isRec (f : Nat → Int32) (c : Int32) : f_e_isReconciled f c = f_m_has (f_e_reconciledSet f) c := by
  unfold f_e_isReconciled f_m_has
  rcases and1 (f_e_reconciledSet f >>> (c &&& 31)) with q | q
  · rw [if_pos q, if_neg (by rw [q]; decide)]
  · rw [if_neg (by rw [q]; decide), if_pos q]
theorem e_done {f w : Nat → Int32} (h : ST f w 0 0) (c : Int32) : f_e_isReconciled f c = f_m_isDone w c := by
  rw [e_isRec, e_rec h]
  rfl
theorem has01 (s k : Int32) : f_m_has s k = 0 ∨ f_m_has s k = 1 := by
  unfold f_m_has
  by_cases c : (s >>> (k &&& 31)) &&& 1 = 1
  · exact Or.inr (if_pos c)
  · exact Or.inl (if_neg c)
theorem e_has {t b : Int32} : (if b < 0 then (0 : Int32) else (if t ≤ b then 0 else 1)) = 0 ↔ ¬ (0 ≤ b.toInt ∧ b.toInt < t.toInt) := by
  by_cases c1 : b < 0
  · rw [if_pos c1]
    rw [i_lt, i_0] at c1
    exact ⟨fun _ => by omega, fun _ => rfl⟩
  · rw [if_neg c1]
    rw [i_lt, i_0] at c1
    by_cases c2 : t ≤ b
    · rw [if_pos c2]
      rw [i_le] at c2
      exact ⟨fun _ => by omega, fun _ => rfl⟩
    · rw [if_neg c2]
      rw [i_le] at c2
      exact ⟨fun q => absurd q (by decide), fun q => absurd ⟨by omega, by omega⟩ q⟩
theorem m_lt {g v : Int32} (h0 : 0 ≤ g.toInt) : ¬ (0 ≤ v.toInt ∧ v.toInt ≤ (g - 1).toInt) ↔ ¬ (0 ≤ v.toInt ∧ v.toInt < g.toInt) := by
  have := Int32.toInt_lt g
  rw [i_sub (by rw [i_1]; omega) (by rw [i_1]; omega), i_1]
  omega
theorem q_couple {G : Nat → Int32} (hG : GI G) (t0 t1 t3 t4 v : Int32) : f_e_hasCouple t0 t1 (G 5) t3 t4 v = 0 ↔ f_m_isCouple G v = 0 := by
  rw [i_isCouple, m_lt hG.2.2.2.1.1]
  exact e_has
theorem q_bridge {G : Nat → Int32} (hG : GI G) (t1 t2 t3 t4 v : Int32) : f_e_hasBridge (G 3) t1 t2 t3 t4 v = 0 ↔ f_m_isBridge G v = 0 := by
  rw [i_isBridge, m_lt hG.2.1.1]
  exact e_has
theorem q_theme {G : Nat → Int32} (hG : GI G) (t0 t2 t3 t4 v : Int32) : f_e_hasTheme t0 (G 4) t2 t3 t4 v = 0 ↔ f_m_isTheme G v = 0 := by
  rw [i_isTheme, m_lt hG.2.2.1.1]
  exact e_has
theorem q_barge {G : Nat → Int32} (hG : GI G) (t0 t1 t2 t4 v : Int32) : f_e_hasBarge t0 t1 t2 (G 6) t4 v = 0 ↔ f_m_isBarge G v = 0 := by
  rw [i_isBarge, m_lt hG.2.2.2.2.1.1]
  exact e_has
theorem l_couple {G : Nat → Int32} (hG : GI G) {v : Int32} (h : ¬ f_m_isCouple G v = 0) : 0 ≤ v.toInt ∧ v.toInt < (G 5).toInt ∧ v.toInt < 6 := by
  rw [i_isCouple, m_lt hG.2.2.2.1.1] at h
  have := hG.2.2.2.1.2
  omega
theorem l_bridge {G : Nat → Int32} (hG : GI G) {v : Int32} (h : ¬ f_m_isBridge G v = 0) : 0 ≤ v.toInt ∧ v.toInt < (G 3).toInt ∧ v.toInt < 6 := by
  rw [i_isBridge, m_lt hG.2.1.1] at h
  have := hG.2.1.2
  omega
theorem l_theme {G : Nat → Int32} (hG : GI G) {v : Int32} (h : ¬ f_m_isTheme G v = 0) : 0 ≤ v.toInt ∧ v.toInt < (G 4).toInt ∧ v.toInt < 5 := by
  rw [i_isTheme, m_lt hG.2.2.1.1] at h
  have := hG.2.2.1.2
  omega
theorem l_barge {G : Nat → Int32} (hG : GI G) {v : Int32} (h : ¬ f_m_isBarge G v = 0) : 0 ≤ v.toInt ∧ v.toInt < (G 6).toInt ∧ v.toInt < 7 := by
  rw [i_isBarge, m_lt hG.2.2.2.2.1.1] at h
  have := hG.2.2.2.2.1.2
  omega
/-- what holds in a block that may come to be the state -/
def BI (G w : Nat → Int32) (h : Nat) : Prop := (∀ c : Nat, c < 6 → 0 ≤ (w (h + c)).toInt ∧ (w (h + c)).toInt ≤ 99) ∧ (∀ c : Nat, c < 6 → (G 5).toInt ≤ c → w (h + c) = 0 ∧ w (h + (6 + c)) = -1) ∧ (∀ c : Nat, c < 6 → -1 ≤ (w (h + (6 + c))).toInt ∧ (w (h + (6 + c))).toInt < (G 3).toInt) ∧ (∀ c d : Nat, c < 6 → d < 6 → c ≠ d → w (h + (6 + c)) = w (h + (6 + d)) → w (h + (6 + c)) = -1) ∧ (∀ c : Nat, c < 6 → 0 ≤ (w (h + (12 + c))).toInt ∧ (w (h + (12 + c))).toInt < (G 4).toInt) ∧ (∀ c : Int32, 0 ≤ c.toInt → c.toInt < 6 → ¬ f_m_has (w (h + 18)) c = 0 → w (h + c.toNatClampNeg) = 0) ∧ (∀ v : Nat, v < 7 → w (h + (20 + v)) = 0 → w (h + (27 + v)) = -1 ∧ w (h + (34 + v)) = -1) ∧ (∀ v : Nat, v < 7 → (G 6).toInt ≤ v → w (h + (20 + v)) = 0) ∧ (0 ≤ (w (h + 18)).toInt ∧ (w (h + 18)).toInt < 64)
theorem BI_of {G G' w w' : Nat → Int32} {h h' : Nat} (q : BI G w h) (e : ∀ k, k < 41 → w' (h' + k) = w (h + k)) (e3 : G' 3 = G 3) (e4 : G' 4 = G 4) (e5 : G' 5 = G 5) (e6 : G' 6 = G 6) : BI G' w' h' := by
  obtain ⟨b1, b2, b3, b4, b5, b6, b7, b8, b9⟩ := q
  refine ⟨fun c hc => ?_, fun c hc hg => ?_, fun c hc => ?_, fun c d hc hd hn => ?_, fun c hc => ?_, fun c h0 h1 => ?_, fun v hv => ?_, fun v hv => ?_, by rw [e 18 (by omega)]; exact b9⟩
  · rw [e c (by omega)]
    exact b1 c hc
  · rw [e c (by omega), e (6 + c) (by omega)]
    rw [e5] at hg
    exact b2 c hc hg
  · rw [e (6 + c) (by omega), e3]
    exact b3 c hc
  · rw [e (6 + c) (by omega), e (6 + d) (by omega)]
    exact b4 c d hc hd hn
  · rw [e (12 + c) (by omega), e4]
    exact b5 c hc
  · have := clN (n := 6) h0 h1
    rw [e 18 (by omega), e c.toNatClampNeg (by omega)]
    exact b6 c h0 h1
  · rw [e (20 + v) (by omega), e (27 + v) (by omega), e (34 + v) (by omega)]
    exact b7 v hv
  · rw [e (20 + v) (by omega), e6]
    exact b8 v hv
theorem who_loop {G w : Nat → Int32} {b : Int32} (h6 : (G 5).toInt ≤ 6) : ∀ (n : Nat) (i found : Int32), 0 ≤ i.toInt → i.toInt ≤ (G 5).toInt → (G 5).toInt - i.toInt < n → ((found = -1 ∧ ∀ c : Nat, (c : Int) < i.toInt → w (6 + c) ≠ b) ∨ (0 ≤ found.toInt ∧ found.toInt < (G 5).toInt ∧ w (6 + found.toNatClampNeg) = b)) → ∃ (j r : Int32), f_m_whoIsAt_5 G w 0 b n i found = (j, r) ∧ ((r = -1 ∧ ∀ c : Nat, (c : Int) < (G 5).toInt → w (6 + c) ≠ b) ∨ (0 ≤ r.toInt ∧ r.toInt < (G 5).toInt ∧ w (6 + r.toNatClampNeg) = b)) := by
  intro n
  induction n with
  | zero => intro i found h0 h1 h2; omega
  | succ n ih =>
    intro i found h0 h1 h2 h3
    rw [f_m_whoIsAt_5_s]
    by_cases c : G 5 ≤ i
    · rw [if_pos c]
      rw [i_le] at c
      refine ⟨i, found, rfl, ?_⟩
      rcases h3 with ⟨q1, q2⟩ | q
      · exact Or.inl ⟨q1, fun c hc => q2 c (by omega)⟩
      · exact Or.inr q
    · rw [if_neg c]
      rw [i_le] at c
      have e := i_a1 (a := i) (by omega) (by omega)
      have ex : ((0 + 6) + i : Int32).toNatClampNeg = 6 + i.toNatClampNeg := by
        have e6 : (0 + 6 : Int32) = 6 := rfl
        rw [e6]
        exact sN (a := 6) (x := 6) (y := 7) rfl h0 (by omega) (by decide)
      rw [ex]
      by_cases d : w (6 + i.toNatClampNeg) = b
      · rw [if_pos d]
        exact ih (i + 1) i (by omega) (by omega) (by omega) (Or.inr ⟨h0, by omega, d⟩)
      · rw [if_neg d]
        refine ih (i + 1) found (by omega) (by omega) (by omega) ?_
        rcases h3 with ⟨q1, q2⟩ | q
        · refine Or.inl ⟨q1, fun c hc => ?_⟩
          by_cases z : (c : Int) < i.toInt
          · exact q2 c z
          · have : c = i.toNatClampNeg := by
              rw [i_clamp]
              omega
            rw [this]
            exact d
        · exact Or.inr q
theorem who_spec {G w : Nat → Int32} {b : Int32} (hG : GI G) : (f_m_whoIsAt G w 0 b = -1 ∧ ∀ c : Nat, (c : Int) < (G 5).toInt → w (6 + c) ≠ b) ∨ (0 ≤ (f_m_whoIsAt G w 0 b).toInt ∧ (f_m_whoIsAt G w 0 b).toInt < (G 5).toInt ∧ w (6 + (f_m_whoIsAt G w 0 b).toNatClampNeg) = b) := by
  have g0 := hG.2.2.2.1.1
  have g6 := hG.2.2.2.1.2
  obtain ⟨j, r, e, h⟩ := who_loop (G := G) (w := w) (b := b) g6 (((G 5).toInt - (0 : Int32).toInt).toNat + 1) 0 (-1) (by decide) (by rw [i_0]; exact g0) (by rw [i_0]; omega) (Or.inl ⟨rfl, fun c hc => absurd hc (by rw [i_0]; omega)⟩)
  have : f_m_whoIsAt G w 0 b = r := by
    unfold f_m_whoIsAt
    rw [e]
  rw [this]
  exact h
theorem at_loop {f w : Nat → Int32} {b : Int32} (h : ST f w 0 0) : ∀ (n : Nat) (i : Int32), 0 ≤ i.toInt → i.toInt ≤ 6 → 6 - i.toInt < n → (∀ c : Nat, (c : Int) < i.toInt → w (6 + c) ≠ b) → (∃ j, f_e_coupleAt_2 f b n i = Sum.inl j ∧ ∀ c : Nat, c < 6 → w (6 + c) ≠ b) ∨ (∃ r : Int32, f_e_coupleAt_2 f b n i = Sum.inr r ∧ 0 ≤ r.toInt ∧ r.toInt < 6 ∧ w (6 + r.toNatClampNeg) = b) := by
  intro n
  induction n with
  | zero => intro i h0 h1 h2; omega
  | succ n ih =>
    intro i h0 h1 h2 h3
    rw [f_e_coupleAt_2_s]
    by_cases c : 6 ≤ i
    · rw [if_pos c]
      rw [i_le] at c
      simp only [Int32.reduceToInt] at c
      exact Or.inl ⟨i, rfl, fun c hc => h3 c (by omega)⟩
    · rw [if_neg c]
      rw [i_le] at c
      simp only [Int32.reduceToInt] at c
      have e := i_a1 (a := i) (by omega) (by omega)
      rw [e_p h h0 (by omega)]
      by_cases d : w (6 + i.toNatClampNeg) = b
      · rw [if_pos d]
        exact Or.inr ⟨i, rfl, h0, by omega, d⟩
      · rw [if_neg d]
        refine ih (i + 1) (by omega) (by omega) (by omega) (fun c hc => ?_)
        by_cases z : (c : Int) < i.toInt
        · exact h3 c z
        · have : c = i.toNatClampNeg := by
            rw [i_clamp]
            omega
          rw [this]
          exact d
theorem at_eq {G f w : Nat → Int32} {b : Int32} (h : ST f w 0 0) (hG : GI G) (hB : BI G w 0) (hb : 0 ≤ b.toInt) : f_e_coupleAt f b = f_m_whoIsAt G w 0 b := by
  obtain ⟨b1, b2, b3, b4, b5, b6, b7, b8, b9⟩ := hB
  have g6 := hG.2.2.2.1.2
  have hm : b ≠ -1 := by
    intro q
    rw [q, i_m1] at hb
    omega
  have key := at_loop (b := b) h 7 0 (by decide) (by decide) (by decide) (fun c hc => absurd hc (by rw [i_0]; omega))
  have e : ((6 : Int32).toInt - (0 : Int32).toInt).toNat + 1 = 7 := rfl
  unfold f_e_coupleAt
  rw [e]
  rcases key with ⟨j, e1, e2⟩ | ⟨r, e1, r0, r1, r2⟩
  · rw [e1]
    rcases who_spec (w := w) (b := b) hG with ⟨q1, q2⟩ | ⟨q0, q1, q2⟩
    · exact q1.symm
    · exact absurd q2 (e2 _ (clN q0 (by omega)))
  · rw [e1]
    show r = f_m_whoIsAt G w 0 b
    have rn := clN (n := 6) r0 r1
    rcases who_spec (w := w) (b := b) hG with ⟨q1, q2⟩ | ⟨q0, q1, q2⟩
    · by_cases z : r.toInt < (G 5).toInt
      · exact absurd r2 (q2 r.toNatClampNeg (by rw [clI r0]; exact z))
      · have := (b2 r.toNatClampNeg rn (by rw [clI r0]; omega)).2
        rw [Nat.zero_add, r2] at this
        exact absurd this hm
    · by_cases z : r.toNatClampNeg = (f_m_whoIsAt G w 0 b).toNatClampNeg
      · exact cl_inj r0 q0 z
      · have := b4 r.toNatClampNeg _ rn (clN q0 (by omega)) z (by rw [Nat.zero_add, Nat.zero_add, r2, q2])
        rw [Nat.zero_add, r2] at this
        exact absurd this hm
