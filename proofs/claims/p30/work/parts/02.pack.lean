def fq_rd (c : ByteArray) (p v : Nat) : Prop := (Reader.u1 : Decoder Nat) c p = .ok (v, p + 1)
theorem fq_rd_in {c : ByteArray} {p v : Nat} (h : (c.data.toList[p]?).map UInt8.toNat = some v) : fq_rd c p v := by
  have hp : p < c.size := by
    rcases Nat.lt_or_ge p c.data.toList.length with hh | hh
    · exact hh
    · rw [List.getElem?_eq_none hh] at h; cases h
  have hv : (c[p]'hp).toNat = v := by
    rw [List.getElem?_eq_getElem (show p < c.data.toList.length from hp)] at h
    exact Option.some.inj h
  show (dite (p < c.size) _ _ : Decoder Nat) c p = _
  rw [dif_pos hp, ← hv]; rfl
theorem fq_step {α : Type} {r : Decoder Nat} {k : Nat → Decoder α} {c : ByteArray} {p v q : Nat} (h : r c p = .ok (v, q)) : (r >>= k) c p = k v c q := by
  show Except.bind (r c p) _ = _
  rw [h]; rfl
theorem fq_stepI {α : Type} {r : Decoder Int} {k : Int → Decoder α} {c : ByteArray} {p q : Nat} {v : Int} (h : r c p = .ok (v, q)) : (r >>= k) c p = k v c q := by
  show Except.bind (r c p) _ = _
  rw [h]; rfl
theorem fq_mapI {r : Decoder Nat} {f : Nat → Int} {c : ByteArray} {p v q : Nat} (h : r c p = .ok (v, q)) : (f <$> r : Decoder Int) c p = .ok (f v, q) := by
  show Except.map _ (r c p) = _
  rw [h]; rfl
theorem fq_u2 {c : ByteArray} {p a b : Nat} (h1 : fq_rd c p a) (h2 : fq_rd c (p + 1) b) : (Reader.u2 : Decoder Nat) c p = .ok (a * 256 + b, p + 1 + 1) :=
  (fq_step h1).trans (fq_step h2)
theorem fq_s1 {c : ByteArray} {p a : Nat} (h1 : fq_rd c p a) : (Reader.s1 : Decoder Int) c p = .ok (Reader.signed 8 a, p + 1) := fq_mapI h1
theorem fq_s2 {c : ByteArray} {p a b : Nat} (h1 : fq_rd c p a) (h2 : fq_rd c (p + 1) b) : (Reader.s2 : Decoder Int) c p = .ok (Reader.signed 16 (a * 256 + b), p + 1 + 1) := fq_mapI (fq_u2 h1 h2)
theorem fq_dec {c : ByteArray} {p q n : Nat} {i : Instr} (h : Decoder.instr p c p = .ok (i, q)) (hq : q - p = n) : decode c p = .ok (i, n) := by
  show Except.bind (Decoder.instr p c p) _ = _
  rw [h, ← hq]; rfl
def fq_ck (c : ByteArray) (s : Nat) (L : List Nat) : Prop := ((c.data.toList.drop s).take 18).map UInt8.toNat = L
theorem fq_at {c : ByteArray} {s : Nat} {L : List Nat} (h : fq_ck c s L) {o v : Nat} (hv : L[o]? = some v) : fq_rd c (s + o) v := by
  refine fq_rd_in ?_
  rw [← h, List.getElem?_map, List.getElem?_take] at hv
  split at hv
  · rw [List.getElem?_drop] at hv; exact hv
  · cases hv
def fq_wins : Nat → List UInt8 → List (List Nat)
  | 0, _ => []
  | n + 1, l => (l.take 18).map UInt8.toNat :: fq_wins n (l.drop 16)
theorem fq_win {n : Nat} : ∀ {l : List UInt8} {j : Nat} {L : List Nat}, (fq_wins n l)[j]? = some L → ((l.drop (16 * j)).take 18).map UInt8.toNat = L := by
  induction n with
  | zero => intro l j L h; cases h
  | succ n ih =>
    intro l j L h
    cases j with
    | zero => exact Option.some.inj h
    | succ j =>
      have h2 := ih (l := l.drop 16) (j := j) (L := L) h
      rw [List.drop_drop] at h2
      rw [show 16 * (j + 1) = 16 + 16 * j by omega]
      exact h2
theorem fq_of {c : ByteArray} {n : Nat} {W : List (List Nat)} (h : fq_wins n c.data.toList = W) (j : Nat) {L : List Nat} {s : Nat} (hL : W[j]? = some L) (hs : 16 * j = s) : fq_ck c s L := by
  subst hs; subst h; exact fq_win hL
theorem fq_1 {c : ByteArray} {s : Nat} {L : List Nat} {p : Nat} (h : fq_ck c s L) (o : Nat) (hp : s + o = p) (h0 : L[o]? = some 1) : decode c p = .ok (.aconst_null, 1) := by
  subst hp
  exact fq_dec (fq_step (fq_at h h0)) (by omega)
theorem fq_2 {c : ByteArray} {s : Nat} {L : List Nat} {p : Nat} (h : fq_ck c s L) (o : Nat) (hp : s + o = p) (h0 : L[o]? = some 2) : decode c p = .ok (.iconst (-1), 1) := by
  subst hp
  exact fq_dec (fq_step (fq_at h h0)) (by omega)
theorem fq_3 {c : ByteArray} {s : Nat} {L : List Nat} {p : Nat} (h : fq_ck c s L) (o : Nat) (hp : s + o = p) (h0 : L[o]? = some 3) : decode c p = .ok (.iconst 0, 1) := by
  subst hp
  exact fq_dec (fq_step (fq_at h h0)) (by omega)
theorem fq_4 {c : ByteArray} {s : Nat} {L : List Nat} {p : Nat} (h : fq_ck c s L) (o : Nat) (hp : s + o = p) (h0 : L[o]? = some 4) : decode c p = .ok (.iconst 1, 1) := by
  subst hp
  exact fq_dec (fq_step (fq_at h h0)) (by omega)
theorem fq_5 {c : ByteArray} {s : Nat} {L : List Nat} {p : Nat} (h : fq_ck c s L) (o : Nat) (hp : s + o = p) (h0 : L[o]? = some 5) : decode c p = .ok (.iconst 2, 1) := by
  subst hp
  exact fq_dec (fq_step (fq_at h h0)) (by omega)
theorem fq_6 {c : ByteArray} {s : Nat} {L : List Nat} {p : Nat} (h : fq_ck c s L) (o : Nat) (hp : s + o = p) (h0 : L[o]? = some 6) : decode c p = .ok (.iconst 3, 1) := by
  subst hp
  exact fq_dec (fq_step (fq_at h h0)) (by omega)
theorem fq_7 {c : ByteArray} {s : Nat} {L : List Nat} {p : Nat} (h : fq_ck c s L) (o : Nat) (hp : s + o = p) (h0 : L[o]? = some 7) : decode c p = .ok (.iconst 4, 1) := by
  subst hp
  exact fq_dec (fq_step (fq_at h h0)) (by omega)
theorem fq_8 {c : ByteArray} {s : Nat} {L : List Nat} {p : Nat} (h : fq_ck c s L) (o : Nat) (hp : s + o = p) (h0 : L[o]? = some 8) : decode c p = .ok (.iconst 5, 1) := by
  subst hp
  exact fq_dec (fq_step (fq_at h h0)) (by omega)
theorem fq_9 {c : ByteArray} {s : Nat} {L : List Nat} {p : Nat} (h : fq_ck c s L) (o : Nat) (hp : s + o = p) (h0 : L[o]? = some 9) : decode c p = .ok (.lconst 0, 1) := by
  subst hp
  exact fq_dec (fq_step (fq_at h h0)) (by omega)
theorem fq_10 {c : ByteArray} {s : Nat} {L : List Nat} {p : Nat} (h : fq_ck c s L) (o : Nat) (hp : s + o = p) (h0 : L[o]? = some 10) : decode c p = .ok (.lconst 1, 1) := by
  subst hp
  exact fq_dec (fq_step (fq_at h h0)) (by omega)
theorem fq_16 {c : ByteArray} {s : Nat} {L : List Nat} {p : Nat} (h : fq_ck c s L) (o : Nat) (hp : s + o = p) (h0 : L[o]? = some 16) {a : Nat} {v : Int} (h1 : L[o + 1]? = some a) (hv : Reader.signed 8 a = v) : decode c p = .ok (.bipush v, 2) := by
  subst hp; subst hv
  exact fq_dec ((fq_step (fq_at h h0)).trans (fq_stepI (fq_s1 (fq_at h h1)))) (by omega)
theorem fq_17 {c : ByteArray} {s : Nat} {L : List Nat} {p : Nat} (h : fq_ck c s L) (o : Nat) (hp : s + o = p) (h0 : L[o]? = some 17) {a b : Nat} {v : Int} (h1 : L[o + 1]? = some a) (h2 : L[o + 2]? = some b) (hv : Reader.signed 16 (a * 256 + b) = v) : decode c p = .ok (.sipush v, 3) := by
  subst hp; subst hv
  exact fq_dec ((fq_step (fq_at h h0)).trans (fq_stepI (fq_s2 (fq_at h h1) (fq_at h h2)))) (by omega)
theorem fq_18 {c : ByteArray} {s : Nat} {L : List Nat} {p : Nat} (h : fq_ck c s L) (o : Nat) (hp : s + o = p) (h0 : L[o]? = some 18) {a : Nat} (h1 : L[o + 1]? = some a) : decode c p = .ok (.ldc a, 2) := by
  subst hp
  exact fq_dec ((fq_step (fq_at h h0)).trans (fq_step (fq_at h h1))) (by omega)
theorem fq_19 {c : ByteArray} {s : Nat} {L : List Nat} {p : Nat} (h : fq_ck c s L) (o : Nat) (hp : s + o = p) (h0 : L[o]? = some 19) {a b v : Nat} (h1 : L[o + 1]? = some a) (h2 : L[o + 2]? = some b) (hv : a * 256 + b = v) : decode c p = .ok (.ldc_w v, 3) := by
  subst hp; subst hv
  exact fq_dec ((fq_step (fq_at h h0)).trans (fq_step (fq_u2 (fq_at h h1) (fq_at h h2)))) (by omega)
theorem fq_20 {c : ByteArray} {s : Nat} {L : List Nat} {p : Nat} (h : fq_ck c s L) (o : Nat) (hp : s + o = p) (h0 : L[o]? = some 20) {a b v : Nat} (h1 : L[o + 1]? = some a) (h2 : L[o + 2]? = some b) (hv : a * 256 + b = v) : decode c p = .ok (.ldc2_w v, 3) := by
  subst hp; subst hv
  exact fq_dec ((fq_step (fq_at h h0)).trans (fq_step (fq_u2 (fq_at h h1) (fq_at h h2)))) (by omega)
theorem fq_21 {c : ByteArray} {s : Nat} {L : List Nat} {p : Nat} (h : fq_ck c s L) (o : Nat) (hp : s + o = p) (h0 : L[o]? = some 21) {a : Nat} (h1 : L[o + 1]? = some a) : decode c p = .ok (.iload a, 2) := by
  subst hp
  exact fq_dec ((fq_step (fq_at h h0)).trans (fq_step (fq_at h h1))) (by omega)
theorem fq_22 {c : ByteArray} {s : Nat} {L : List Nat} {p : Nat} (h : fq_ck c s L) (o : Nat) (hp : s + o = p) (h0 : L[o]? = some 22) {a : Nat} (h1 : L[o + 1]? = some a) : decode c p = .ok (.lload a, 2) := by
  subst hp
  exact fq_dec ((fq_step (fq_at h h0)).trans (fq_step (fq_at h h1))) (by omega)
theorem fq_25 {c : ByteArray} {s : Nat} {L : List Nat} {p : Nat} (h : fq_ck c s L) (o : Nat) (hp : s + o = p) (h0 : L[o]? = some 25) {a : Nat} (h1 : L[o + 1]? = some a) : decode c p = .ok (.aload a, 2) := by
  subst hp
  exact fq_dec ((fq_step (fq_at h h0)).trans (fq_step (fq_at h h1))) (by omega)
theorem fq_26 {c : ByteArray} {s : Nat} {L : List Nat} {p : Nat} (h : fq_ck c s L) (o : Nat) (hp : s + o = p) (h0 : L[o]? = some 26) : decode c p = .ok (.iload_n 0, 1) := by
  subst hp
  exact fq_dec (fq_step (fq_at h h0)) (by omega)
theorem fq_27 {c : ByteArray} {s : Nat} {L : List Nat} {p : Nat} (h : fq_ck c s L) (o : Nat) (hp : s + o = p) (h0 : L[o]? = some 27) : decode c p = .ok (.iload_n 1, 1) := by
  subst hp
  exact fq_dec (fq_step (fq_at h h0)) (by omega)
theorem fq_28 {c : ByteArray} {s : Nat} {L : List Nat} {p : Nat} (h : fq_ck c s L) (o : Nat) (hp : s + o = p) (h0 : L[o]? = some 28) : decode c p = .ok (.iload_n 2, 1) := by
  subst hp
  exact fq_dec (fq_step (fq_at h h0)) (by omega)
theorem fq_29 {c : ByteArray} {s : Nat} {L : List Nat} {p : Nat} (h : fq_ck c s L) (o : Nat) (hp : s + o = p) (h0 : L[o]? = some 29) : decode c p = .ok (.iload_n 3, 1) := by
  subst hp
  exact fq_dec (fq_step (fq_at h h0)) (by omega)
theorem fq_30 {c : ByteArray} {s : Nat} {L : List Nat} {p : Nat} (h : fq_ck c s L) (o : Nat) (hp : s + o = p) (h0 : L[o]? = some 30) : decode c p = .ok (.lload_n 0, 1) := by
  subst hp
  exact fq_dec (fq_step (fq_at h h0)) (by omega)
theorem fq_31 {c : ByteArray} {s : Nat} {L : List Nat} {p : Nat} (h : fq_ck c s L) (o : Nat) (hp : s + o = p) (h0 : L[o]? = some 31) : decode c p = .ok (.lload_n 1, 1) := by
  subst hp
  exact fq_dec (fq_step (fq_at h h0)) (by omega)
theorem fq_32 {c : ByteArray} {s : Nat} {L : List Nat} {p : Nat} (h : fq_ck c s L) (o : Nat) (hp : s + o = p) (h0 : L[o]? = some 32) : decode c p = .ok (.lload_n 2, 1) := by
  subst hp
  exact fq_dec (fq_step (fq_at h h0)) (by omega)
theorem fq_33 {c : ByteArray} {s : Nat} {L : List Nat} {p : Nat} (h : fq_ck c s L) (o : Nat) (hp : s + o = p) (h0 : L[o]? = some 33) : decode c p = .ok (.lload_n 3, 1) := by
  subst hp
  exact fq_dec (fq_step (fq_at h h0)) (by omega)
theorem fq_42 {c : ByteArray} {s : Nat} {L : List Nat} {p : Nat} (h : fq_ck c s L) (o : Nat) (hp : s + o = p) (h0 : L[o]? = some 42) : decode c p = .ok (.aload_n 0, 1) := by
  subst hp
  exact fq_dec (fq_step (fq_at h h0)) (by omega)
theorem fq_43 {c : ByteArray} {s : Nat} {L : List Nat} {p : Nat} (h : fq_ck c s L) (o : Nat) (hp : s + o = p) (h0 : L[o]? = some 43) : decode c p = .ok (.aload_n 1, 1) := by
  subst hp
  exact fq_dec (fq_step (fq_at h h0)) (by omega)
theorem fq_44 {c : ByteArray} {s : Nat} {L : List Nat} {p : Nat} (h : fq_ck c s L) (o : Nat) (hp : s + o = p) (h0 : L[o]? = some 44) : decode c p = .ok (.aload_n 2, 1) := by
  subst hp
  exact fq_dec (fq_step (fq_at h h0)) (by omega)
theorem fq_45 {c : ByteArray} {s : Nat} {L : List Nat} {p : Nat} (h : fq_ck c s L) (o : Nat) (hp : s + o = p) (h0 : L[o]? = some 45) : decode c p = .ok (.aload_n 3, 1) := by
  subst hp
  exact fq_dec (fq_step (fq_at h h0)) (by omega)
theorem fq_46 {c : ByteArray} {s : Nat} {L : List Nat} {p : Nat} (h : fq_ck c s L) (o : Nat) (hp : s + o = p) (h0 : L[o]? = some 46) : decode c p = .ok (.iaload, 1) := by
  subst hp
  exact fq_dec (fq_step (fq_at h h0)) (by omega)
theorem fq_47 {c : ByteArray} {s : Nat} {L : List Nat} {p : Nat} (h : fq_ck c s L) (o : Nat) (hp : s + o = p) (h0 : L[o]? = some 47) : decode c p = .ok (.laload, 1) := by
  subst hp
  exact fq_dec (fq_step (fq_at h h0)) (by omega)
theorem fq_50 {c : ByteArray} {s : Nat} {L : List Nat} {p : Nat} (h : fq_ck c s L) (o : Nat) (hp : s + o = p) (h0 : L[o]? = some 50) : decode c p = .ok (.aaload, 1) := by
  subst hp
  exact fq_dec (fq_step (fq_at h h0)) (by omega)
theorem fq_51 {c : ByteArray} {s : Nat} {L : List Nat} {p : Nat} (h : fq_ck c s L) (o : Nat) (hp : s + o = p) (h0 : L[o]? = some 51) : decode c p = .ok (.baload, 1) := by
  subst hp
  exact fq_dec (fq_step (fq_at h h0)) (by omega)
theorem fq_54 {c : ByteArray} {s : Nat} {L : List Nat} {p : Nat} (h : fq_ck c s L) (o : Nat) (hp : s + o = p) (h0 : L[o]? = some 54) {a : Nat} (h1 : L[o + 1]? = some a) : decode c p = .ok (.istore a, 2) := by
  subst hp
  exact fq_dec ((fq_step (fq_at h h0)).trans (fq_step (fq_at h h1))) (by omega)
theorem fq_55 {c : ByteArray} {s : Nat} {L : List Nat} {p : Nat} (h : fq_ck c s L) (o : Nat) (hp : s + o = p) (h0 : L[o]? = some 55) {a : Nat} (h1 : L[o + 1]? = some a) : decode c p = .ok (.lstore a, 2) := by
  subst hp
  exact fq_dec ((fq_step (fq_at h h0)).trans (fq_step (fq_at h h1))) (by omega)
theorem fq_58 {c : ByteArray} {s : Nat} {L : List Nat} {p : Nat} (h : fq_ck c s L) (o : Nat) (hp : s + o = p) (h0 : L[o]? = some 58) {a : Nat} (h1 : L[o + 1]? = some a) : decode c p = .ok (.astore a, 2) := by
  subst hp
  exact fq_dec ((fq_step (fq_at h h0)).trans (fq_step (fq_at h h1))) (by omega)
theorem fq_59 {c : ByteArray} {s : Nat} {L : List Nat} {p : Nat} (h : fq_ck c s L) (o : Nat) (hp : s + o = p) (h0 : L[o]? = some 59) : decode c p = .ok (.istore_n 0, 1) := by
  subst hp
  exact fq_dec (fq_step (fq_at h h0)) (by omega)
theorem fq_60 {c : ByteArray} {s : Nat} {L : List Nat} {p : Nat} (h : fq_ck c s L) (o : Nat) (hp : s + o = p) (h0 : L[o]? = some 60) : decode c p = .ok (.istore_n 1, 1) := by
  subst hp
  exact fq_dec (fq_step (fq_at h h0)) (by omega)
theorem fq_61 {c : ByteArray} {s : Nat} {L : List Nat} {p : Nat} (h : fq_ck c s L) (o : Nat) (hp : s + o = p) (h0 : L[o]? = some 61) : decode c p = .ok (.istore_n 2, 1) := by
  subst hp
  exact fq_dec (fq_step (fq_at h h0)) (by omega)
theorem fq_62 {c : ByteArray} {s : Nat} {L : List Nat} {p : Nat} (h : fq_ck c s L) (o : Nat) (hp : s + o = p) (h0 : L[o]? = some 62) : decode c p = .ok (.istore_n 3, 1) := by
  subst hp
  exact fq_dec (fq_step (fq_at h h0)) (by omega)
theorem fq_63 {c : ByteArray} {s : Nat} {L : List Nat} {p : Nat} (h : fq_ck c s L) (o : Nat) (hp : s + o = p) (h0 : L[o]? = some 63) : decode c p = .ok (.lstore_n 0, 1) := by
  subst hp
  exact fq_dec (fq_step (fq_at h h0)) (by omega)
theorem fq_64 {c : ByteArray} {s : Nat} {L : List Nat} {p : Nat} (h : fq_ck c s L) (o : Nat) (hp : s + o = p) (h0 : L[o]? = some 64) : decode c p = .ok (.lstore_n 1, 1) := by
  subst hp
  exact fq_dec (fq_step (fq_at h h0)) (by omega)
theorem fq_65 {c : ByteArray} {s : Nat} {L : List Nat} {p : Nat} (h : fq_ck c s L) (o : Nat) (hp : s + o = p) (h0 : L[o]? = some 65) : decode c p = .ok (.lstore_n 2, 1) := by
  subst hp
  exact fq_dec (fq_step (fq_at h h0)) (by omega)
theorem fq_66 {c : ByteArray} {s : Nat} {L : List Nat} {p : Nat} (h : fq_ck c s L) (o : Nat) (hp : s + o = p) (h0 : L[o]? = some 66) : decode c p = .ok (.lstore_n 3, 1) := by
  subst hp
  exact fq_dec (fq_step (fq_at h h0)) (by omega)
theorem fq_75 {c : ByteArray} {s : Nat} {L : List Nat} {p : Nat} (h : fq_ck c s L) (o : Nat) (hp : s + o = p) (h0 : L[o]? = some 75) : decode c p = .ok (.astore_n 0, 1) := by
  subst hp
  exact fq_dec (fq_step (fq_at h h0)) (by omega)
theorem fq_76 {c : ByteArray} {s : Nat} {L : List Nat} {p : Nat} (h : fq_ck c s L) (o : Nat) (hp : s + o = p) (h0 : L[o]? = some 76) : decode c p = .ok (.astore_n 1, 1) := by
  subst hp
  exact fq_dec (fq_step (fq_at h h0)) (by omega)
theorem fq_77 {c : ByteArray} {s : Nat} {L : List Nat} {p : Nat} (h : fq_ck c s L) (o : Nat) (hp : s + o = p) (h0 : L[o]? = some 77) : decode c p = .ok (.astore_n 2, 1) := by
  subst hp
  exact fq_dec (fq_step (fq_at h h0)) (by omega)
theorem fq_78 {c : ByteArray} {s : Nat} {L : List Nat} {p : Nat} (h : fq_ck c s L) (o : Nat) (hp : s + o = p) (h0 : L[o]? = some 78) : decode c p = .ok (.astore_n 3, 1) := by
  subst hp
  exact fq_dec (fq_step (fq_at h h0)) (by omega)
theorem fq_79 {c : ByteArray} {s : Nat} {L : List Nat} {p : Nat} (h : fq_ck c s L) (o : Nat) (hp : s + o = p) (h0 : L[o]? = some 79) : decode c p = .ok (.iastore, 1) := by
  subst hp
  exact fq_dec (fq_step (fq_at h h0)) (by omega)
theorem fq_80 {c : ByteArray} {s : Nat} {L : List Nat} {p : Nat} (h : fq_ck c s L) (o : Nat) (hp : s + o = p) (h0 : L[o]? = some 80) : decode c p = .ok (.lastore, 1) := by
  subst hp
  exact fq_dec (fq_step (fq_at h h0)) (by omega)
theorem fq_83 {c : ByteArray} {s : Nat} {L : List Nat} {p : Nat} (h : fq_ck c s L) (o : Nat) (hp : s + o = p) (h0 : L[o]? = some 83) : decode c p = .ok (.aastore, 1) := by
  subst hp
  exact fq_dec (fq_step (fq_at h h0)) (by omega)
theorem fq_84 {c : ByteArray} {s : Nat} {L : List Nat} {p : Nat} (h : fq_ck c s L) (o : Nat) (hp : s + o = p) (h0 : L[o]? = some 84) : decode c p = .ok (.bastore, 1) := by
  subst hp
  exact fq_dec (fq_step (fq_at h h0)) (by omega)
theorem fq_87 {c : ByteArray} {s : Nat} {L : List Nat} {p : Nat} (h : fq_ck c s L) (o : Nat) (hp : s + o = p) (h0 : L[o]? = some 87) : decode c p = .ok (.pop, 1) := by
  subst hp
  exact fq_dec (fq_step (fq_at h h0)) (by omega)
theorem fq_88 {c : ByteArray} {s : Nat} {L : List Nat} {p : Nat} (h : fq_ck c s L) (o : Nat) (hp : s + o = p) (h0 : L[o]? = some 88) : decode c p = .ok (.pop2, 1) := by
  subst hp
  exact fq_dec (fq_step (fq_at h h0)) (by omega)
theorem fq_89 {c : ByteArray} {s : Nat} {L : List Nat} {p : Nat} (h : fq_ck c s L) (o : Nat) (hp : s + o = p) (h0 : L[o]? = some 89) : decode c p = .ok (.dup, 1) := by
  subst hp
  exact fq_dec (fq_step (fq_at h h0)) (by omega)
theorem fq_90 {c : ByteArray} {s : Nat} {L : List Nat} {p : Nat} (h : fq_ck c s L) (o : Nat) (hp : s + o = p) (h0 : L[o]? = some 90) : decode c p = .ok (.dup_x1, 1) := by
  subst hp
  exact fq_dec (fq_step (fq_at h h0)) (by omega)
theorem fq_92 {c : ByteArray} {s : Nat} {L : List Nat} {p : Nat} (h : fq_ck c s L) (o : Nat) (hp : s + o = p) (h0 : L[o]? = some 92) : decode c p = .ok (.dup2, 1) := by
  subst hp
  exact fq_dec (fq_step (fq_at h h0)) (by omega)
theorem fq_96 {c : ByteArray} {s : Nat} {L : List Nat} {p : Nat} (h : fq_ck c s L) (o : Nat) (hp : s + o = p) (h0 : L[o]? = some 96) : decode c p = .ok (.iadd, 1) := by
  subst hp
  exact fq_dec (fq_step (fq_at h h0)) (by omega)
theorem fq_97 {c : ByteArray} {s : Nat} {L : List Nat} {p : Nat} (h : fq_ck c s L) (o : Nat) (hp : s + o = p) (h0 : L[o]? = some 97) : decode c p = .ok (.ladd, 1) := by
  subst hp
  exact fq_dec (fq_step (fq_at h h0)) (by omega)
theorem fq_100 {c : ByteArray} {s : Nat} {L : List Nat} {p : Nat} (h : fq_ck c s L) (o : Nat) (hp : s + o = p) (h0 : L[o]? = some 100) : decode c p = .ok (.isub, 1) := by
  subst hp
  exact fq_dec (fq_step (fq_at h h0)) (by omega)
theorem fq_101 {c : ByteArray} {s : Nat} {L : List Nat} {p : Nat} (h : fq_ck c s L) (o : Nat) (hp : s + o = p) (h0 : L[o]? = some 101) : decode c p = .ok (.lsub, 1) := by
  subst hp
  exact fq_dec (fq_step (fq_at h h0)) (by omega)
theorem fq_104 {c : ByteArray} {s : Nat} {L : List Nat} {p : Nat} (h : fq_ck c s L) (o : Nat) (hp : s + o = p) (h0 : L[o]? = some 104) : decode c p = .ok (.imul, 1) := by
  subst hp
  exact fq_dec (fq_step (fq_at h h0)) (by omega)
theorem fq_105 {c : ByteArray} {s : Nat} {L : List Nat} {p : Nat} (h : fq_ck c s L) (o : Nat) (hp : s + o = p) (h0 : L[o]? = some 105) : decode c p = .ok (.lmul, 1) := by
  subst hp
  exact fq_dec (fq_step (fq_at h h0)) (by omega)
theorem fq_108 {c : ByteArray} {s : Nat} {L : List Nat} {p : Nat} (h : fq_ck c s L) (o : Nat) (hp : s + o = p) (h0 : L[o]? = some 108) : decode c p = .ok (.idiv, 1) := by
  subst hp
  exact fq_dec (fq_step (fq_at h h0)) (by omega)
theorem fq_109 {c : ByteArray} {s : Nat} {L : List Nat} {p : Nat} (h : fq_ck c s L) (o : Nat) (hp : s + o = p) (h0 : L[o]? = some 109) : decode c p = .ok (.ldiv, 1) := by
  subst hp
  exact fq_dec (fq_step (fq_at h h0)) (by omega)
theorem fq_112 {c : ByteArray} {s : Nat} {L : List Nat} {p : Nat} (h : fq_ck c s L) (o : Nat) (hp : s + o = p) (h0 : L[o]? = some 112) : decode c p = .ok (.irem, 1) := by
  subst hp
  exact fq_dec (fq_step (fq_at h h0)) (by omega)
theorem fq_113 {c : ByteArray} {s : Nat} {L : List Nat} {p : Nat} (h : fq_ck c s L) (o : Nat) (hp : s + o = p) (h0 : L[o]? = some 113) : decode c p = .ok (.lrem, 1) := by
  subst hp
  exact fq_dec (fq_step (fq_at h h0)) (by omega)
theorem fq_116 {c : ByteArray} {s : Nat} {L : List Nat} {p : Nat} (h : fq_ck c s L) (o : Nat) (hp : s + o = p) (h0 : L[o]? = some 116) : decode c p = .ok (.ineg, 1) := by
  subst hp
  exact fq_dec (fq_step (fq_at h h0)) (by omega)
theorem fq_120 {c : ByteArray} {s : Nat} {L : List Nat} {p : Nat} (h : fq_ck c s L) (o : Nat) (hp : s + o = p) (h0 : L[o]? = some 120) : decode c p = .ok (.ishl, 1) := by
  subst hp
  exact fq_dec (fq_step (fq_at h h0)) (by omega)
theorem fq_121 {c : ByteArray} {s : Nat} {L : List Nat} {p : Nat} (h : fq_ck c s L) (o : Nat) (hp : s + o = p) (h0 : L[o]? = some 121) : decode c p = .ok (.lshl, 1) := by
  subst hp
  exact fq_dec (fq_step (fq_at h h0)) (by omega)
theorem fq_122 {c : ByteArray} {s : Nat} {L : List Nat} {p : Nat} (h : fq_ck c s L) (o : Nat) (hp : s + o = p) (h0 : L[o]? = some 122) : decode c p = .ok (.ishr, 1) := by
  subst hp
  exact fq_dec (fq_step (fq_at h h0)) (by omega)
theorem fq_123 {c : ByteArray} {s : Nat} {L : List Nat} {p : Nat} (h : fq_ck c s L) (o : Nat) (hp : s + o = p) (h0 : L[o]? = some 123) : decode c p = .ok (.lshr, 1) := by
  subst hp
  exact fq_dec (fq_step (fq_at h h0)) (by omega)
theorem fq_124 {c : ByteArray} {s : Nat} {L : List Nat} {p : Nat} (h : fq_ck c s L) (o : Nat) (hp : s + o = p) (h0 : L[o]? = some 124) : decode c p = .ok (.iushr, 1) := by
  subst hp
  exact fq_dec (fq_step (fq_at h h0)) (by omega)
theorem fq_125 {c : ByteArray} {s : Nat} {L : List Nat} {p : Nat} (h : fq_ck c s L) (o : Nat) (hp : s + o = p) (h0 : L[o]? = some 125) : decode c p = .ok (.lushr, 1) := by
  subst hp
  exact fq_dec (fq_step (fq_at h h0)) (by omega)
theorem fq_126 {c : ByteArray} {s : Nat} {L : List Nat} {p : Nat} (h : fq_ck c s L) (o : Nat) (hp : s + o = p) (h0 : L[o]? = some 126) : decode c p = .ok (.iand, 1) := by
  subst hp
  exact fq_dec (fq_step (fq_at h h0)) (by omega)
theorem fq_127 {c : ByteArray} {s : Nat} {L : List Nat} {p : Nat} (h : fq_ck c s L) (o : Nat) (hp : s + o = p) (h0 : L[o]? = some 127) : decode c p = .ok (.land, 1) := by
  subst hp
  exact fq_dec (fq_step (fq_at h h0)) (by omega)
theorem fq_128 {c : ByteArray} {s : Nat} {L : List Nat} {p : Nat} (h : fq_ck c s L) (o : Nat) (hp : s + o = p) (h0 : L[o]? = some 128) : decode c p = .ok (.ior, 1) := by
  subst hp
  exact fq_dec (fq_step (fq_at h h0)) (by omega)
theorem fq_129 {c : ByteArray} {s : Nat} {L : List Nat} {p : Nat} (h : fq_ck c s L) (o : Nat) (hp : s + o = p) (h0 : L[o]? = some 129) : decode c p = .ok (.lor, 1) := by
  subst hp
  exact fq_dec (fq_step (fq_at h h0)) (by omega)
theorem fq_130 {c : ByteArray} {s : Nat} {L : List Nat} {p : Nat} (h : fq_ck c s L) (o : Nat) (hp : s + o = p) (h0 : L[o]? = some 130) : decode c p = .ok (.ixor, 1) := by
  subst hp
  exact fq_dec (fq_step (fq_at h h0)) (by omega)
theorem fq_131 {c : ByteArray} {s : Nat} {L : List Nat} {p : Nat} (h : fq_ck c s L) (o : Nat) (hp : s + o = p) (h0 : L[o]? = some 131) : decode c p = .ok (.lxor, 1) := by
  subst hp
  exact fq_dec (fq_step (fq_at h h0)) (by omega)
theorem fq_132 {c : ByteArray} {s : Nat} {L : List Nat} {p : Nat} (h : fq_ck c s L) (o : Nat) (hp : s + o = p) (h0 : L[o]? = some 132) {a b : Nat} {v : Int} (h1 : L[o + 1]? = some a) (h2 : L[o + 2]? = some b) (hv : Reader.signed 8 b = v) : decode c p = .ok (.iinc a v, 3) := by
  subst hp; subst hv
  exact fq_dec ((fq_step (fq_at h h0)).trans ((fq_step (fq_at h h1)).trans (fq_stepI (fq_s1 (fq_at h h2))))) (by omega)
theorem fq_133 {c : ByteArray} {s : Nat} {L : List Nat} {p : Nat} (h : fq_ck c s L) (o : Nat) (hp : s + o = p) (h0 : L[o]? = some 133) : decode c p = .ok (.i2l, 1) := by
  subst hp
  exact fq_dec (fq_step (fq_at h h0)) (by omega)
theorem fq_136 {c : ByteArray} {s : Nat} {L : List Nat} {p : Nat} (h : fq_ck c s L) (o : Nat) (hp : s + o = p) (h0 : L[o]? = some 136) : decode c p = .ok (.l2i, 1) := by
  subst hp
  exact fq_dec (fq_step (fq_at h h0)) (by omega)
theorem fq_146 {c : ByteArray} {s : Nat} {L : List Nat} {p : Nat} (h : fq_ck c s L) (o : Nat) (hp : s + o = p) (h0 : L[o]? = some 146) : decode c p = .ok (.i2c, 1) := by
  subst hp
  exact fq_dec (fq_step (fq_at h h0)) (by omega)
theorem fq_148 {c : ByteArray} {s : Nat} {L : List Nat} {p : Nat} (h : fq_ck c s L) (o : Nat) (hp : s + o = p) (h0 : L[o]? = some 148) : decode c p = .ok (.lcmp, 1) := by
  subst hp
  exact fq_dec (fq_step (fq_at h h0)) (by omega)
theorem fq_153 {c : ByteArray} {s : Nat} {L : List Nat} {p : Nat} (h : fq_ck c s L) (o : Nat) (hp : s + o = p) (h0 : L[o]? = some 153) {a b : Nat} {v : Int} (h1 : L[o + 1]? = some a) (h2 : L[o + 2]? = some b) (hv : Reader.signed 16 (a * 256 + b) = v) : decode c p = .ok (.ifCond .eq v, 3) := by
  subst hp; subst hv
  exact fq_dec ((fq_step (fq_at h h0)).trans (fq_stepI (fq_s2 (fq_at h h1) (fq_at h h2)))) (by omega)
theorem fq_154 {c : ByteArray} {s : Nat} {L : List Nat} {p : Nat} (h : fq_ck c s L) (o : Nat) (hp : s + o = p) (h0 : L[o]? = some 154) {a b : Nat} {v : Int} (h1 : L[o + 1]? = some a) (h2 : L[o + 2]? = some b) (hv : Reader.signed 16 (a * 256 + b) = v) : decode c p = .ok (.ifCond .ne v, 3) := by
  subst hp; subst hv
  exact fq_dec ((fq_step (fq_at h h0)).trans (fq_stepI (fq_s2 (fq_at h h1) (fq_at h h2)))) (by omega)
theorem fq_155 {c : ByteArray} {s : Nat} {L : List Nat} {p : Nat} (h : fq_ck c s L) (o : Nat) (hp : s + o = p) (h0 : L[o]? = some 155) {a b : Nat} {v : Int} (h1 : L[o + 1]? = some a) (h2 : L[o + 2]? = some b) (hv : Reader.signed 16 (a * 256 + b) = v) : decode c p = .ok (.ifCond .lt v, 3) := by
  subst hp; subst hv
  exact fq_dec ((fq_step (fq_at h h0)).trans (fq_stepI (fq_s2 (fq_at h h1) (fq_at h h2)))) (by omega)
theorem fq_156 {c : ByteArray} {s : Nat} {L : List Nat} {p : Nat} (h : fq_ck c s L) (o : Nat) (hp : s + o = p) (h0 : L[o]? = some 156) {a b : Nat} {v : Int} (h1 : L[o + 1]? = some a) (h2 : L[o + 2]? = some b) (hv : Reader.signed 16 (a * 256 + b) = v) : decode c p = .ok (.ifCond .ge v, 3) := by
  subst hp; subst hv
  exact fq_dec ((fq_step (fq_at h h0)).trans (fq_stepI (fq_s2 (fq_at h h1) (fq_at h h2)))) (by omega)
theorem fq_157 {c : ByteArray} {s : Nat} {L : List Nat} {p : Nat} (h : fq_ck c s L) (o : Nat) (hp : s + o = p) (h0 : L[o]? = some 157) {a b : Nat} {v : Int} (h1 : L[o + 1]? = some a) (h2 : L[o + 2]? = some b) (hv : Reader.signed 16 (a * 256 + b) = v) : decode c p = .ok (.ifCond .gt v, 3) := by
  subst hp; subst hv
  exact fq_dec ((fq_step (fq_at h h0)).trans (fq_stepI (fq_s2 (fq_at h h1) (fq_at h h2)))) (by omega)
theorem fq_158 {c : ByteArray} {s : Nat} {L : List Nat} {p : Nat} (h : fq_ck c s L) (o : Nat) (hp : s + o = p) (h0 : L[o]? = some 158) {a b : Nat} {v : Int} (h1 : L[o + 1]? = some a) (h2 : L[o + 2]? = some b) (hv : Reader.signed 16 (a * 256 + b) = v) : decode c p = .ok (.ifCond .le v, 3) := by
  subst hp; subst hv
  exact fq_dec ((fq_step (fq_at h h0)).trans (fq_stepI (fq_s2 (fq_at h h1) (fq_at h h2)))) (by omega)
theorem fq_159 {c : ByteArray} {s : Nat} {L : List Nat} {p : Nat} (h : fq_ck c s L) (o : Nat) (hp : s + o = p) (h0 : L[o]? = some 159) {a b : Nat} {v : Int} (h1 : L[o + 1]? = some a) (h2 : L[o + 2]? = some b) (hv : Reader.signed 16 (a * 256 + b) = v) : decode c p = .ok (.if_icmp .eq v, 3) := by
  subst hp; subst hv
  exact fq_dec ((fq_step (fq_at h h0)).trans (fq_stepI (fq_s2 (fq_at h h1) (fq_at h h2)))) (by omega)
theorem fq_160 {c : ByteArray} {s : Nat} {L : List Nat} {p : Nat} (h : fq_ck c s L) (o : Nat) (hp : s + o = p) (h0 : L[o]? = some 160) {a b : Nat} {v : Int} (h1 : L[o + 1]? = some a) (h2 : L[o + 2]? = some b) (hv : Reader.signed 16 (a * 256 + b) = v) : decode c p = .ok (.if_icmp .ne v, 3) := by
  subst hp; subst hv
  exact fq_dec ((fq_step (fq_at h h0)).trans (fq_stepI (fq_s2 (fq_at h h1) (fq_at h h2)))) (by omega)
theorem fq_161 {c : ByteArray} {s : Nat} {L : List Nat} {p : Nat} (h : fq_ck c s L) (o : Nat) (hp : s + o = p) (h0 : L[o]? = some 161) {a b : Nat} {v : Int} (h1 : L[o + 1]? = some a) (h2 : L[o + 2]? = some b) (hv : Reader.signed 16 (a * 256 + b) = v) : decode c p = .ok (.if_icmp .lt v, 3) := by
  subst hp; subst hv
  exact fq_dec ((fq_step (fq_at h h0)).trans (fq_stepI (fq_s2 (fq_at h h1) (fq_at h h2)))) (by omega)
theorem fq_162 {c : ByteArray} {s : Nat} {L : List Nat} {p : Nat} (h : fq_ck c s L) (o : Nat) (hp : s + o = p) (h0 : L[o]? = some 162) {a b : Nat} {v : Int} (h1 : L[o + 1]? = some a) (h2 : L[o + 2]? = some b) (hv : Reader.signed 16 (a * 256 + b) = v) : decode c p = .ok (.if_icmp .ge v, 3) := by
  subst hp; subst hv
  exact fq_dec ((fq_step (fq_at h h0)).trans (fq_stepI (fq_s2 (fq_at h h1) (fq_at h h2)))) (by omega)
theorem fq_163 {c : ByteArray} {s : Nat} {L : List Nat} {p : Nat} (h : fq_ck c s L) (o : Nat) (hp : s + o = p) (h0 : L[o]? = some 163) {a b : Nat} {v : Int} (h1 : L[o + 1]? = some a) (h2 : L[o + 2]? = some b) (hv : Reader.signed 16 (a * 256 + b) = v) : decode c p = .ok (.if_icmp .gt v, 3) := by
  subst hp; subst hv
  exact fq_dec ((fq_step (fq_at h h0)).trans (fq_stepI (fq_s2 (fq_at h h1) (fq_at h h2)))) (by omega)
theorem fq_164 {c : ByteArray} {s : Nat} {L : List Nat} {p : Nat} (h : fq_ck c s L) (o : Nat) (hp : s + o = p) (h0 : L[o]? = some 164) {a b : Nat} {v : Int} (h1 : L[o + 1]? = some a) (h2 : L[o + 2]? = some b) (hv : Reader.signed 16 (a * 256 + b) = v) : decode c p = .ok (.if_icmp .le v, 3) := by
  subst hp; subst hv
  exact fq_dec ((fq_step (fq_at h h0)).trans (fq_stepI (fq_s2 (fq_at h h1) (fq_at h h2)))) (by omega)
theorem fq_165 {c : ByteArray} {s : Nat} {L : List Nat} {p : Nat} (h : fq_ck c s L) (o : Nat) (hp : s + o = p) (h0 : L[o]? = some 165) {a b : Nat} {v : Int} (h1 : L[o + 1]? = some a) (h2 : L[o + 2]? = some b) (hv : Reader.signed 16 (a * 256 + b) = v) : decode c p = .ok (.if_acmp .eq v, 3) := by
  subst hp; subst hv
  exact fq_dec ((fq_step (fq_at h h0)).trans (fq_stepI (fq_s2 (fq_at h h1) (fq_at h h2)))) (by omega)
theorem fq_166 {c : ByteArray} {s : Nat} {L : List Nat} {p : Nat} (h : fq_ck c s L) (o : Nat) (hp : s + o = p) (h0 : L[o]? = some 166) {a b : Nat} {v : Int} (h1 : L[o + 1]? = some a) (h2 : L[o + 2]? = some b) (hv : Reader.signed 16 (a * 256 + b) = v) : decode c p = .ok (.if_acmp .ne v, 3) := by
  subst hp; subst hv
  exact fq_dec ((fq_step (fq_at h h0)).trans (fq_stepI (fq_s2 (fq_at h h1) (fq_at h h2)))) (by omega)
theorem fq_167 {c : ByteArray} {s : Nat} {L : List Nat} {p : Nat} (h : fq_ck c s L) (o : Nat) (hp : s + o = p) (h0 : L[o]? = some 167) {a b : Nat} {v : Int} (h1 : L[o + 1]? = some a) (h2 : L[o + 2]? = some b) (hv : Reader.signed 16 (a * 256 + b) = v) : decode c p = .ok (.goto v, 3) := by
  subst hp; subst hv
  exact fq_dec ((fq_step (fq_at h h0)).trans (fq_stepI (fq_s2 (fq_at h h1) (fq_at h h2)))) (by omega)
theorem fq_172 {c : ByteArray} {s : Nat} {L : List Nat} {p : Nat} (h : fq_ck c s L) (o : Nat) (hp : s + o = p) (h0 : L[o]? = some 172) : decode c p = .ok (.ireturn, 1) := by
  subst hp
  exact fq_dec (fq_step (fq_at h h0)) (by omega)
theorem fq_173 {c : ByteArray} {s : Nat} {L : List Nat} {p : Nat} (h : fq_ck c s L) (o : Nat) (hp : s + o = p) (h0 : L[o]? = some 173) : decode c p = .ok (.lreturn, 1) := by
  subst hp
  exact fq_dec (fq_step (fq_at h h0)) (by omega)
theorem fq_176 {c : ByteArray} {s : Nat} {L : List Nat} {p : Nat} (h : fq_ck c s L) (o : Nat) (hp : s + o = p) (h0 : L[o]? = some 176) : decode c p = .ok (.areturn, 1) := by
  subst hp
  exact fq_dec (fq_step (fq_at h h0)) (by omega)
theorem fq_177 {c : ByteArray} {s : Nat} {L : List Nat} {p : Nat} (h : fq_ck c s L) (o : Nat) (hp : s + o = p) (h0 : L[o]? = some 177) : decode c p = .ok (.return_, 1) := by
  subst hp
  exact fq_dec (fq_step (fq_at h h0)) (by omega)
theorem fq_178 {c : ByteArray} {s : Nat} {L : List Nat} {p : Nat} (h : fq_ck c s L) (o : Nat) (hp : s + o = p) (h0 : L[o]? = some 178) {a b v : Nat} (h1 : L[o + 1]? = some a) (h2 : L[o + 2]? = some b) (hv : a * 256 + b = v) : decode c p = .ok (.getstatic v, 3) := by
  subst hp; subst hv
  exact fq_dec ((fq_step (fq_at h h0)).trans (fq_step (fq_u2 (fq_at h h1) (fq_at h h2)))) (by omega)
theorem fq_179 {c : ByteArray} {s : Nat} {L : List Nat} {p : Nat} (h : fq_ck c s L) (o : Nat) (hp : s + o = p) (h0 : L[o]? = some 179) {a b v : Nat} (h1 : L[o + 1]? = some a) (h2 : L[o + 2]? = some b) (hv : a * 256 + b = v) : decode c p = .ok (.putstatic v, 3) := by
  subst hp; subst hv
  exact fq_dec ((fq_step (fq_at h h0)).trans (fq_step (fq_u2 (fq_at h h1) (fq_at h h2)))) (by omega)
theorem fq_180 {c : ByteArray} {s : Nat} {L : List Nat} {p : Nat} (h : fq_ck c s L) (o : Nat) (hp : s + o = p) (h0 : L[o]? = some 180) {a b v : Nat} (h1 : L[o + 1]? = some a) (h2 : L[o + 2]? = some b) (hv : a * 256 + b = v) : decode c p = .ok (.getfield v, 3) := by
  subst hp; subst hv
  exact fq_dec ((fq_step (fq_at h h0)).trans (fq_step (fq_u2 (fq_at h h1) (fq_at h h2)))) (by omega)
theorem fq_181 {c : ByteArray} {s : Nat} {L : List Nat} {p : Nat} (h : fq_ck c s L) (o : Nat) (hp : s + o = p) (h0 : L[o]? = some 181) {a b v : Nat} (h1 : L[o + 1]? = some a) (h2 : L[o + 2]? = some b) (hv : a * 256 + b = v) : decode c p = .ok (.putfield v, 3) := by
  subst hp; subst hv
  exact fq_dec ((fq_step (fq_at h h0)).trans (fq_step (fq_u2 (fq_at h h1) (fq_at h h2)))) (by omega)
theorem fq_182 {c : ByteArray} {s : Nat} {L : List Nat} {p : Nat} (h : fq_ck c s L) (o : Nat) (hp : s + o = p) (h0 : L[o]? = some 182) {a b v : Nat} (h1 : L[o + 1]? = some a) (h2 : L[o + 2]? = some b) (hv : a * 256 + b = v) : decode c p = .ok (.invokevirtual v, 3) := by
  subst hp; subst hv
  exact fq_dec ((fq_step (fq_at h h0)).trans (fq_step (fq_u2 (fq_at h h1) (fq_at h h2)))) (by omega)
theorem fq_183 {c : ByteArray} {s : Nat} {L : List Nat} {p : Nat} (h : fq_ck c s L) (o : Nat) (hp : s + o = p) (h0 : L[o]? = some 183) {a b v : Nat} (h1 : L[o + 1]? = some a) (h2 : L[o + 2]? = some b) (hv : a * 256 + b = v) : decode c p = .ok (.invokespecial v, 3) := by
  subst hp; subst hv
  exact fq_dec ((fq_step (fq_at h h0)).trans (fq_step (fq_u2 (fq_at h h1) (fq_at h h2)))) (by omega)
theorem fq_184 {c : ByteArray} {s : Nat} {L : List Nat} {p : Nat} (h : fq_ck c s L) (o : Nat) (hp : s + o = p) (h0 : L[o]? = some 184) {a b v : Nat} (h1 : L[o + 1]? = some a) (h2 : L[o + 2]? = some b) (hv : a * 256 + b = v) : decode c p = .ok (.invokestatic v, 3) := by
  subst hp; subst hv
  exact fq_dec ((fq_step (fq_at h h0)).trans (fq_step (fq_u2 (fq_at h h1) (fq_at h h2)))) (by omega)
theorem fq_187 {c : ByteArray} {s : Nat} {L : List Nat} {p : Nat} (h : fq_ck c s L) (o : Nat) (hp : s + o = p) (h0 : L[o]? = some 187) {a b v : Nat} (h1 : L[o + 1]? = some a) (h2 : L[o + 2]? = some b) (hv : a * 256 + b = v) : decode c p = .ok (.new v, 3) := by
  subst hp; subst hv
  exact fq_dec ((fq_step (fq_at h h0)).trans (fq_step (fq_u2 (fq_at h h1) (fq_at h h2)))) (by omega)
theorem fq_189 {c : ByteArray} {s : Nat} {L : List Nat} {p : Nat} (h : fq_ck c s L) (o : Nat) (hp : s + o = p) (h0 : L[o]? = some 189) {a b v : Nat} (h1 : L[o + 1]? = some a) (h2 : L[o + 2]? = some b) (hv : a * 256 + b = v) : decode c p = .ok (.anewarray v, 3) := by
  subst hp; subst hv
  exact fq_dec ((fq_step (fq_at h h0)).trans (fq_step (fq_u2 (fq_at h h1) (fq_at h h2)))) (by omega)
theorem fq_190 {c : ByteArray} {s : Nat} {L : List Nat} {p : Nat} (h : fq_ck c s L) (o : Nat) (hp : s + o = p) (h0 : L[o]? = some 190) : decode c p = .ok (.arraylength, 1) := by
  subst hp
  exact fq_dec (fq_step (fq_at h h0)) (by omega)
theorem fq_191 {c : ByteArray} {s : Nat} {L : List Nat} {p : Nat} (h : fq_ck c s L) (o : Nat) (hp : s + o = p) (h0 : L[o]? = some 191) : decode c p = .ok (.athrow, 1) := by
  subst hp
  exact fq_dec (fq_step (fq_at h h0)) (by omega)
theorem fq_192 {c : ByteArray} {s : Nat} {L : List Nat} {p : Nat} (h : fq_ck c s L) (o : Nat) (hp : s + o = p) (h0 : L[o]? = some 192) {a b v : Nat} (h1 : L[o + 1]? = some a) (h2 : L[o + 2]? = some b) (hv : a * 256 + b = v) : decode c p = .ok (.checkcast v, 3) := by
  subst hp; subst hv
  exact fq_dec ((fq_step (fq_at h h0)).trans (fq_step (fq_u2 (fq_at h h1) (fq_at h h2)))) (by omega)
theorem fq_198 {c : ByteArray} {s : Nat} {L : List Nat} {p : Nat} (h : fq_ck c s L) (o : Nat) (hp : s + o = p) (h0 : L[o]? = some 198) {a b : Nat} {v : Int} (h1 : L[o + 1]? = some a) (h2 : L[o + 2]? = some b) (hv : Reader.signed 16 (a * 256 + b) = v) : decode c p = .ok (.ifnull v, 3) := by
  subst hp; subst hv
  exact fq_dec ((fq_step (fq_at h h0)).trans (fq_stepI (fq_s2 (fq_at h h1) (fq_at h h2)))) (by omega)
theorem fq_199 {c : ByteArray} {s : Nat} {L : List Nat} {p : Nat} (h : fq_ck c s L) (o : Nat) (hp : s + o = p) (h0 : L[o]? = some 199) {a b : Nat} {v : Int} (h1 : L[o + 1]? = some a) (h2 : L[o + 2]? = some b) (hv : Reader.signed 16 (a * 256 + b) = v) : decode c p = .ok (.ifnonnull v, 3) := by
  subst hp; subst hv
  exact fq_dec ((fq_step (fq_at h h0)).trans (fq_stepI (fq_s2 (fq_at h h1) (fq_at h h2)))) (by omega)
theorem fq_188_4 {c : ByteArray} {s : Nat} {L : List Nat} {p : Nat} (h : fq_ck c s L) (o : Nat) (hp : s + o = p) (h0 : L[o]? = some 188) (h1 : L[o + 1]? = some 4) : decode c p = .ok (.newarray .boolean, 2) := by
  subst hp
  exact fq_dec ((fq_step (fq_at h h0)).trans (fq_step (fq_at h h1))) (by omega)
theorem fq_188_10 {c : ByteArray} {s : Nat} {L : List Nat} {p : Nat} (h : fq_ck c s L) (o : Nat) (hp : s + o = p) (h0 : L[o]? = some 188) (h1 : L[o + 1]? = some 10) : decode c p = .ok (.newarray .int, 2) := by
  subst hp
  exact fq_dec ((fq_step (fq_at h h0)).trans (fq_step (fq_at h h1))) (by omega)
theorem fq_188_11 {c : ByteArray} {s : Nat} {L : List Nat} {p : Nat} (h : fq_ck c s L) (o : Nat) (hp : s + o = p) (h0 : L[o]? = some 188) (h1 : L[o + 1]? = some 11) : decode c p = .ok (.newarray .long, 2) := by
  subst hp
  exact fq_dec ((fq_step (fq_at h h0)).trans (fq_step (fq_at h h1))) (by omega)
section
def RX0 : String := "QuarrelBridges$Book"
def TX0 : u_T := fun k => match k with
  | 0 => ("QuarrelBridges$Book", "entries", "I", false)
  | 1 => ("QuarrelBridges$Book", "couples", "[I", true)
  | _ => ("QuarrelBridges$Book", "grievances", "[I", true)
def tyX0 : Nat → FieldType := fun k => match k with
  | 0 => .int
  | 1 => .array .int
  | _ => .array .int
abbrev wsX00 : List Cond := u_ws RX0 TX0 3
theorem nmX0 : ∀ a, a < 3 → ∀ b, b < 3 → a ≠ b → (TX0 a).2.1 ≠ (TX0 b).2.1 := by decide +kernel
theorem tyX0_ok : ∀ k, k < 3 → parseFieldDescriptor (TX0 k).2.2.1 = some (tyX0 k) := by decide +kernel
abbrev cX0_init : ByteArray := prog_2_method_1_code
def yX0_init : MethodName := ⟨RX0, "<init>", "()V"⟩
abbrev cX0_enter : ByteArray := prog_2_method_2_code
def yX0_enter : MethodName := ⟨RX0, "enter", "(II)V"⟩
abbrev cX0_clear : ByteArray := prog_2_method_3_code
def yX0_clear : MethodName := ⟨RX0, "clear", "()V"⟩
abbrev cX0_firstWrong : ByteArray := prog_2_method_4_code
def yX0_firstWrong : MethodName := ⟨RX0, "firstWrong", "(LQuarrelBridges$State;)I"⟩
def RX1 : String := "QuarrelBridges$Convoy"
def TX1 : u_T := fun k => match k with
  | 0 => ("QuarrelBridges$Convoy", "length", "I", false)
  | 1 => ("QuarrelBridges$Convoy", "row", "[I", true)
  | 2 => ("QuarrelBridges$Convoy", "openings", "[I", true)
  | 3 => ("QuarrelBridges$Convoy", "spent", "[I", true)
  | 4 => ("QuarrelBridges$Convoy", "behind", "[I", true)
  | 5 => ("QuarrelBridges$Convoy", "most", "[I", true)
  | 6 => ("QuarrelBridges$Convoy", "choice", "[I", true)
  | 7 => ("QuarrelBridges$Convoy", "waiting", "I", false)
  | 8 => ("QuarrelBridges$Convoy", "start", "I", false)
  | _ => ("QuarrelBridges$Convoy", "town", "LQuarrelBridges$Town;", false)
def tyX1 : Nat → FieldType := fun k => match k with
  | 0 => .int
  | 1 => .array .int
  | 2 => .array .int
  | 3 => .array .int
  | 4 => .array .int
  | 5 => .array .int
  | 6 => .array .int
  | 7 => .int
  | 8 => .int
  | _ => .object "QuarrelBridges$Town"
abbrev wsX10 : List Cond := u_ws RX1 TX1 10
theorem nmX1 : ∀ a, a < 10 → ∀ b, b < 10 → a ≠ b → (TX1 a).2.1 ≠ (TX1 b).2.1 := by decide +kernel
theorem tyX1_ok : ∀ k, k < 10 → parseFieldDescriptor (TX1 k).2.2.1 = some (tyX1 k) := by decide +kernel
abbrev cX1_init : ByteArray := prog_3_method_1_code
def yX1_init : MethodName := ⟨RX1, "<init>", "()V"⟩
abbrev cX1_gather : ByteArray := prog_3_method_2_code
def yX1_gather : MethodName := ⟨RX1, "gather", "(LQuarrelBridges$Town;LQuarrelBridges$State;)V"⟩
abbrev cX1_noteOpening : ByteArray := prog_3_method_3_code
def yX1_noteOpening : MethodName := ⟨RX1, "noteOpening", "(II)V"⟩
abbrev cX1_solve : ByteArray := prog_3_method_4_code
def yX1_solve : MethodName := ⟨RX1, "solve", "()V"⟩
abbrev cX1_minuteBehind : ByteArray := prog_3_method_5_code
def yX1_minuteBehind : MethodName := ⟨RX1, "minuteBehind", "(I)I"⟩
abbrev cX1_weigh : ByteArray := prog_3_method_6_code
def yX1_weigh : MethodName := ⟨RX1, "weigh", "(II)V"⟩
abbrev cX1_layOutRow : ByteArray := prog_3_method_7_code
def yX1_layOutRow : MethodName := ⟨RX1, "layOutRow", "()V"⟩
def RX2 : String := "QuarrelBridges$History"
def TX2 : u_T := fun k => match k with
  | 0 => ("QuarrelBridges$History", "shelf", "LQuarrelBridges$Shelf;", true)
  | 1 => ("QuarrelBridges$History", "first", "I", false)
  | _ => ("QuarrelBridges$History", "count", "I", false)
def tyX2 : Nat → FieldType := fun k => match k with
  | 0 => .object "QuarrelBridges$Shelf"
  | 1 => .int
  | _ => .int
abbrev wsX20 : List Cond := u_ws RX2 TX2 3
theorem nmX2 : ∀ a, a < 3 → ∀ b, b < 3 → a ≠ b → (TX2 a).2.1 ≠ (TX2 b).2.1 := by decide +kernel
theorem tyX2_ok : ∀ k, k < 3 → parseFieldDescriptor (TX2 k).2.2.1 = some (tyX2 k) := by decide +kernel
abbrev cX2_init : ByteArray := prog_4_method_1_code
def yX2_init : MethodName := ⟨RX2, "<init>", "()V"⟩
abbrev cX2_remember : ByteArray := prog_4_method_2_code
def yX2_remember : MethodName := ⟨RX2, "remember", "(LQuarrelBridges$State;)V"⟩
abbrev cX2_takeBack : ByteArray := prog_4_method_3_code
def yX2_takeBack : MethodName := ⟨RX2, "takeBack", "(LQuarrelBridges$State;)V"⟩
abbrev cX2_forget : ByteArray := prog_4_method_4_code
def yX2_forget : MethodName := ⟨RX2, "forget", "()V"⟩
def RX3 : String := "QuarrelBridges$Pairing"
def TX3 : u_T := fun k => match k with
  | 0 => ("QuarrelBridges$Pairing", "asked", "[I", true)
  | 1 => ("QuarrelBridges$Pairing", "least", "[I", true)
  | _ => ("QuarrelBridges$Pairing", "choice", "[I", true)
def tyX3 : Nat → FieldType := fun k => match k with
  | 0 => .array .int
  | 1 => .array .int
  | _ => .array .int
abbrev wsX30 : List Cond := u_ws RX3 TX3 3
theorem nmX3 : ∀ a, a < 3 → ∀ b, b < 3 → a ≠ b → (TX3 a).2.1 ≠ (TX3 b).2.1 := by decide +kernel
theorem tyX3_ok : ∀ k, k < 3 → parseFieldDescriptor (TX3 k).2.2.1 = some (tyX3 k) := by decide +kernel
abbrev cX3_init : ByteArray := prog_5_method_1_code
def yX3_init : MethodName := ⟨RX3, "<init>", "()V"⟩
abbrev cX3_ask : ByteArray := prog_5_method_2_code
def yX3_ask : MethodName := ⟨RX3, "ask", "(III)V"⟩
abbrev cX3_solve : ByteArray := prog_5_method_3_code
def yX3_solve : MethodName := ⟨RX3, "solve", "(II)V"⟩
abbrev cX3_weigh : ByteArray := prog_5_method_4_code
def yX3_weigh : MethodName := ⟨RX3, "weigh", "(III)V"⟩
abbrev cX3_cost : ByteArray := prog_5_method_5_code
def yX3_cost : MethodName := ⟨RX3, "cost", "()I"⟩
abbrev cX3_coupleOf : ByteArray := prog_5_method_6_code
def yX3_coupleOf : MethodName := ⟨RX3, "coupleOf", "(I)I"⟩
def RX4 : String := "QuarrelBridges$Quarrel"
def TX4 : u_T := fun k => match k with
  | 0 => ("QuarrelBridges$Quarrel", "minutes", "I", false)
  | 1 => ("QuarrelBridges$Quarrel", "cost", "I", false)
  | 2 => ("QuarrelBridges$Quarrel", "left", "I", false)
  | 3 => ("QuarrelBridges$Quarrel", "opened", "Z", false)
  | _ => ("QuarrelBridges$Quarrel", "reconciled", "Z", false)
def tyX4 : Nat → FieldType := fun k => match k with
  | 0 => .int
  | 1 => .int
  | 2 => .int
  | 3 => .boolean
  | _ => .boolean
abbrev wsX40 : List Cond := u_ws RX4 TX4 5
theorem nmX4 : ∀ a, a < 5 → ∀ b, b < 5 → a ≠ b → (TX4 a).2.1 ≠ (TX4 b).2.1 := by decide +kernel
theorem tyX4_ok : ∀ k, k < 5 → parseFieldDescriptor (TX4 k).2.2.1 = some (tyX4 k) := by decide +kernel
abbrev cX4_init : ByteArray := prog_6_method_1_code
def yX4_init : MethodName := ⟨RX4, "<init>", "()V"⟩
abbrev cX4_run : ByteArray := prog_6_method_2_code
def yX4_run : MethodName := ⟨RX4, "run", "(IIII)V"⟩
def RX5 : String := "QuarrelBridges$Reader"
def TX5 : u_T := fun k => match k with
  | 0 => ("QuarrelBridges$Reader", "fault", "I", false)
  | 1 => ("QuarrelBridges$Reader", "faultAt", "I", false)
  | 2 => ("QuarrelBridges$Reader", "text", "[I", false)
  | 3 => ("QuarrelBridges$Reader", "length", "I", false)
  | 4 => ("QuarrelBridges$Reader", "place", "I", false)
  | 5 => ("QuarrelBridges$Reader", "themesTold", "Z", false)
  | _ => ("QuarrelBridges$Reader", "snowTold", "Z", false)
def tyX5 : Nat → FieldType := fun k => match k with
  | 0 => .int
  | 1 => .int
  | 2 => .array .int
  | 3 => .int
  | 4 => .int
  | 5 => .boolean
  | _ => .boolean
abbrev wsX50 : List Cond := u_ws RX5 TX5 7
theorem nmX5 : ∀ a, a < 7 → ∀ b, b < 7 → a ≠ b → (TX5 a).2.1 ≠ (TX5 b).2.1 := by decide +kernel
theorem tyX5_ok : ∀ k, k < 7 → parseFieldDescriptor (TX5 k).2.2.1 = some (tyX5 k) := by decide +kernel
abbrev cX5_init : ByteArray := prog_7_method_1_code
def yX5_init : MethodName := ⟨RX5, "<init>", "()V"⟩
abbrev cX5_read : ByteArray := prog_7_method_2_code
def yX5_read : MethodName := ⟨RX5, "read", "([IILQuarrelBridges$Town;)V"⟩
abbrev cX5_readClause : ByteArray := prog_7_method_3_code
def yX5_readClause : MethodName := ⟨RX5, "readClause", "(LQuarrelBridges$Town;)V"⟩
abbrev cX5_isTooOften : ByteArray := prog_7_method_4_code
def yX5_isTooOften : MethodName := ⟨RX5, "isTooOften", "(ILQuarrelBridges$Town;)Z"⟩
abbrev cX5_readBridges : ByteArray := prog_7_method_5_code
def yX5_readBridges : MethodName := ⟨RX5, "readBridges", "(LQuarrelBridges$Town;)V"⟩
abbrev cX5_readCouple : ByteArray := prog_7_method_6_code
def yX5_readCouple : MethodName := ⟨RX5, "readCouple", "(LQuarrelBridges$Town;)V"⟩
abbrev cX5_readBarge : ByteArray := prog_7_method_7_code
def yX5_readBarge : MethodName := ⟨RX5, "readBarge", "(LQuarrelBridges$Town;)V"⟩
abbrev cX5_next : ByteArray := prog_7_method_8_code
def yX5_next : MethodName := ⟨RX5, "next", "()I"⟩
abbrev cX5_letter : ByteArray := prog_7_method_9_code
def yX5_letter : MethodName := ⟨RX5, "letter", "()I"⟩
abbrev cX5_isFigure : ByteArray := prog_7_method_10_code
def yX5_isFigure : MethodName := ⟨RX5, "isFigure", "(I)Z"⟩
abbrev cX5_expect : ByteArray := prog_7_method_11_code
def yX5_expect : MethodName := ⟨RX5, "expect", "(I)V"⟩
abbrev cX5_number : ByteArray := prog_7_method_12_code
def yX5_number : MethodName := ⟨RX5, "number", "(II)I"⟩
abbrev cX5_blame : ByteArray := prog_7_method_13_code
def yX5_blame : MethodName := ⟨RX5, "blame", "(II)V"⟩
def RX6 : String := "QuarrelBridges$Shelf"
def TX6 : u_T := fun k => match k with
  | 0 => ("QuarrelBridges$Shelf", "slots", "I", true)
  | _ => ("QuarrelBridges$Shelf", "cells", "[I", true)
def tyX6 : Nat → FieldType := fun k => match k with
  | 0 => .int
  | _ => .array .int
abbrev wsX60 : List Cond := u_ws RX6 TX6 2
theorem nmX6 : ∀ a, a < 2 → ∀ b, b < 2 → a ≠ b → (TX6 a).2.1 ≠ (TX6 b).2.1 := by decide +kernel
theorem tyX6_ok : ∀ k, k < 2 → parseFieldDescriptor (TX6 k).2.2.1 = some (tyX6 k) := by decide +kernel
abbrev cX6_init : ByteArray := prog_8_method_1_code
def yX6_init : MethodName := ⟨RX6, "<init>", "(I)V"⟩
abbrev cX6_store : ByteArray := prog_8_method_2_code
def yX6_store : MethodName := ⟨RX6, "store", "(ILQuarrelBridges$State;)V"⟩
abbrev cX6_fetch : ByteArray := prog_8_method_3_code
def yX6_fetch : MethodName := ⟨RX6, "fetch", "(ILQuarrelBridges$State;)V"⟩
def RX7 : String := "QuarrelBridges$State"
def TX7 : u_T := fun k => match k with
  | _ => ("QuarrelBridges$State", "cells", "[I", true)
def tyX7 : Nat → FieldType := fun k => match k with
  | _ => .array .int
abbrev wsX70 : List Cond := u_ws RX7 TX7 1
theorem nmX7 : ∀ a, a < 1 → ∀ b, b < 1 → a ≠ b → (TX7 a).2.1 ≠ (TX7 b).2.1 := by decide +kernel
theorem tyX7_ok : ∀ k, k < 1 → parseFieldDescriptor (TX7 k).2.2.1 = some (tyX7 k) := by decide +kernel
abbrev cX7_init : ByteArray := prog_9_method_1_code
def yX7_init : MethodName := ⟨RX7, "<init>", "()V"⟩
abbrev cX7_begin : ByteArray := prog_9_method_2_code
def yX7_begin : MethodName := ⟨RX7, "begin", "(LQuarrelBridges$Town;)V"⟩
abbrev cX7_minutes : ByteArray := prog_9_method_3_code
def yX7_minutes : MethodName := ⟨RX7, "minutes", "()I"⟩
abbrev cX7_spendMinutes : ByteArray := prog_9_method_4_code
def yX7_spendMinutes : MethodName := ⟨RX7, "spendMinutes", "(I)V"⟩
abbrev cX7_reconciledSet : ByteArray := prog_9_method_5_code
def yX7_reconciledSet : MethodName := ⟨RX7, "reconciledSet", "()I"⟩
abbrev cX7_isReconciled : ByteArray := prog_9_method_6_code
def yX7_isReconciled : MethodName := ⟨RX7, "isReconciled", "(I)Z"⟩
abbrev cX7_reconcile : ByteArray := prog_9_method_7_code
def yX7_reconcile : MethodName := ⟨RX7, "reconcile", "(I)V"⟩
abbrev cX7_grievanceOf : ByteArray := prog_9_method_8_code
def yX7_grievanceOf : MethodName := ⟨RX7, "grievanceOf", "(I)I"⟩
abbrev cX7_grievanceOfSet : ByteArray := prog_9_method_9_code
def yX7_grievanceOfSet : MethodName := ⟨RX7, "grievanceOfSet", "(I)I"⟩
abbrev cX7_grievanceOfAll : ByteArray := prog_9_method_10_code
def yX7_grievanceOfAll : MethodName := ⟨RX7, "grievanceOfAll", "()I"⟩
abbrev cX7_leave : ByteArray := prog_9_method_11_code
def yX7_leave : MethodName := ⟨RX7, "leave", "(II)V"⟩
abbrev cX7_embitter : ByteArray := prog_9_method_12_code
def yX7_embitter : MethodName := ⟨RX7, "embitter", "(II)V"⟩
abbrev cX7_bridgeOf : ByteArray := prog_9_method_13_code
def yX7_bridgeOf : MethodName := ⟨RX7, "bridgeOf", "(I)I"⟩
abbrev cX7_coupleAt : ByteArray := prog_9_method_14_code
def yX7_coupleAt : MethodName := ⟨RX7, "coupleAt", "(I)I"⟩
abbrev cX7_place : ByteArray := prog_9_method_15_code
def yX7_place : MethodName := ⟨RX7, "place", "(II)V"⟩
abbrev cX7_themeOf : ByteArray := prog_9_method_16_code
def yX7_themeOf : MethodName := ⟨RX7, "themeOf", "(I)I"⟩
abbrev cX7_turnTo : ByteArray := prog_9_method_17_code
def yX7_turnTo : MethodName := ⟨RX7, "turnTo", "(II)V"⟩
abbrev cX7_fateOf : ByteArray := prog_9_method_18_code
def yX7_fateOf : MethodName := ⟨RX7, "fateOf", "(I)I"⟩
abbrev cX7_bargesOfFate : ByteArray := prog_9_method_19_code
def yX7_bargesOfFate : MethodName := ⟨RX7, "bargesOfFate", "(I)I"⟩
abbrev cX7_lyingAt : ByteArray := prog_9_method_20_code
def yX7_lyingAt : MethodName := ⟨RX7, "lyingAt", "(I)I"⟩
abbrev cX7_lay : ByteArray := prog_9_method_21_code
def yX7_lay : MethodName := ⟨RX7, "lay", "(II)V"⟩
abbrev cX7_passedAt : ByteArray := prog_9_method_22_code
def yX7_passedAt : MethodName := ⟨RX7, "passedAt", "(I)I"⟩
abbrev cX7_letThrough : ByteArray := prog_9_method_23_code
def yX7_letThrough : MethodName := ⟨RX7, "letThrough", "(II)V"⟩
def RX8 : String := "QuarrelBridges$Town"
def TX8 : u_T := fun k => match k with
  | 0 => ("QuarrelBridges$Town", "bridges", "I", false)
  | 1 => ("QuarrelBridges$Town", "themes", "I", false)
  | 2 => ("QuarrelBridges$Town", "couples", "I", false)
  | 3 => ("QuarrelBridges$Town", "barges", "I", false)
  | 4 => ("QuarrelBridges$Town", "snow", "I", false)
  | 5 => ("QuarrelBridges$Town", "needs", "[I", true)
  | 6 => ("QuarrelBridges$Town", "grievances", "[I", true)
  | 7 => ("QuarrelBridges$Town", "forces", "[I", true)
  | 8 => ("QuarrelBridges$Town", "upTo", "[I", true)
  | _ => ("QuarrelBridges$Town", "tides", "[I", true)
def tyX8 : Nat → FieldType := fun k => match k with
  | 0 => .int
  | 1 => .int
  | 2 => .int
  | 3 => .int
  | 4 => .int
  | 5 => .array .int
  | 6 => .array .int
  | 7 => .array .int
  | 8 => .array .int
  | _ => .array .int
abbrev wsX80 : List Cond := u_ws RX8 TX8 10
theorem nmX8 : ∀ a, a < 10 → ∀ b, b < 10 → a ≠ b → (TX8 a).2.1 ≠ (TX8 b).2.1 := by decide +kernel
theorem tyX8_ok : ∀ k, k < 10 → parseFieldDescriptor (TX8 k).2.2.1 = some (tyX8 k) := by decide +kernel
abbrev cX8_init : ByteArray := prog_10_method_1_code
def yX8_init : MethodName := ⟨RX8, "<init>", "()V"⟩
abbrev cX8_clear : ByteArray := prog_10_method_2_code
def yX8_clear : MethodName := ⟨RX8, "clear", "()V"⟩
abbrev cX8_hasBridge : ByteArray := prog_10_method_3_code
def yX8_hasBridge : MethodName := ⟨RX8, "hasBridge", "(I)Z"⟩
abbrev cX8_hasTheme : ByteArray := prog_10_method_4_code
def yX8_hasTheme : MethodName := ⟨RX8, "hasTheme", "(I)Z"⟩
abbrev cX8_hasCouple : ByteArray := prog_10_method_5_code
def yX8_hasCouple : MethodName := ⟨RX8, "hasCouple", "(I)Z"⟩
abbrev cX8_hasBarge : ByteArray := prog_10_method_6_code
def yX8_hasBarge : MethodName := ⟨RX8, "hasBarge", "(I)Z"⟩
abbrev cX8_forceOf : ByteArray := prog_10_method_7_code
def yX8_forceOf : MethodName := ⟨RX8, "forceOf", "(II)I"⟩
abbrev cX8_needOfAll : ByteArray := prog_10_method_8_code
def yX8_needOfAll : MethodName := ⟨RX8, "needOfAll", "()I"⟩
def RX9 : String := "QuarrelBridges"
def TX9 : u_T := fun k => match k with
  | 0 => ("QuarrelBridges", "text", "[I", true)
  | 1 => ("QuarrelBridges", "letters", "I", false)
  | 2 => ("QuarrelBridges", "faultAt", "I", false)
  | 3 => ("QuarrelBridges", "reader", "LQuarrelBridges$Reader;", true)
  | 4 => ("QuarrelBridges", "town", "LQuarrelBridges$Town;", false)
  | 5 => ("QuarrelBridges", "draft", "LQuarrelBridges$Town;", false)
  | 6 => ("QuarrelBridges", "now", "LQuarrelBridges$State;", true)
  | 7 => ("QuarrelBridges", "past", "LQuarrelBridges$History;", true)
  | 8 => ("QuarrelBridges", "images", "LQuarrelBridges$Shelf;", true)
  | 9 => ("QuarrelBridges", "imageSeeds", "[I", true)
  | 10 => ("QuarrelBridges", "imagesKept", "I", false)
  | 11 => ("QuarrelBridges", "book", "LQuarrelBridges$Book;", true)
  | 12 => ("QuarrelBridges", "seed", "I", false)
  | 13 => ("QuarrelBridges", "quarrel", "LQuarrelBridges$Quarrel;", true)
  | 14 => ("QuarrelBridges", "pairing", "LQuarrelBridges$Pairing;", true)
  | 15 => ("QuarrelBridges", "convoy", "LQuarrelBridges$Convoy;", true)
  | _ => ("QuarrelBridges", "fitting", "[I", true)
def tyX9 : Nat → FieldType := fun k => match k with
  | 0 => .array .int
  | 1 => .int
  | 2 => .int
  | 3 => .object "QuarrelBridges$Reader"
  | 4 => .object "QuarrelBridges$Town"
  | 5 => .object "QuarrelBridges$Town"
  | 6 => .object "QuarrelBridges$State"
  | 7 => .object "QuarrelBridges$History"
  | 8 => .object "QuarrelBridges$Shelf"
  | 9 => .array .int
  | 10 => .int
  | 11 => .object "QuarrelBridges$Book"
  | 12 => .int
  | 13 => .object "QuarrelBridges$Quarrel"
  | 14 => .object "QuarrelBridges$Pairing"
  | 15 => .object "QuarrelBridges$Convoy"
  | _ => .array .int
abbrev wsX90 : List Cond := u_ws RX9 TX9 17
theorem nmX9 : ∀ a, a < 17 → ∀ b, b < 17 → a ≠ b → (TX9 a).2.1 ≠ (TX9 b).2.1 := by decide +kernel
theorem tyX9_ok : ∀ k, k < 17 → parseFieldDescriptor (TX9 k).2.2.1 = some (tyX9 k) := by decide +kernel
abbrev cX9_init : ByteArray := prog_1_method_1_code
def yX9_init : MethodName := ⟨RX9, "<init>", "()V"⟩
abbrev cX9_feed : ByteArray := prog_1_method_2_code
def yX9_feed : MethodName := ⟨RX9, "feed", "(I)I"⟩
abbrev cX9_town : ByteArray := prog_1_method_3_code
def yX9_town : MethodName := ⟨RX9, "town", "()I"⟩
abbrev cX9_fault : ByteArray := prog_1_method_4_code
def yX9_fault : MethodName := ⟨RX9, "fault", "()I"⟩
abbrev cX9_told : ByteArray := prog_1_method_5_code
def yX9_told : MethodName := ⟨RX9, "told", "(I)I"⟩
abbrev cX9_bridge : ByteArray := prog_1_method_6_code
def yX9_bridge : MethodName := ⟨RX9, "bridge", "(II)I"⟩
abbrev cX9_couple : ByteArray := prog_1_method_7_code
def yX9_couple : MethodName := ⟨RX9, "couple", "(II)I"⟩
abbrev cX9_force : ByteArray := prog_1_method_8_code
def yX9_force : MethodName := ⟨RX9, "force", "(II)I"⟩
abbrev cX9_barge : ByteArray := prog_1_method_9_code
def yX9_barge : MethodName := ⟨RX9, "barge", "(II)I"⟩
abbrev cX9_send : ByteArray := prog_1_method_10_code
def yX9_send : MethodName := ⟨RX9, "send", "(III)I"⟩
abbrev cX9_home : ByteArray := prog_1_method_11_code
def yX9_home : MethodName := ⟨RX9, "home", "(I)I"⟩
abbrev cX9_pass : ByteArray := prog_1_method_12_code
def yX9_pass : MethodName := ⟨RX9, "pass", "(I)I"⟩
abbrev cX9_grieve : ByteArray := prog_1_method_13_code
def yX9_grieve : MethodName := ⟨RX9, "grieve", "(II)I"⟩
abbrev cX9_drift : ByteArray := prog_1_method_14_code
def yX9_drift : MethodName := ⟨RX9, "drift", "(I)I"⟩
abbrev cX9_undo : ByteArray := prog_1_method_15_code
def yX9_undo : MethodName := ⟨RX9, "undo", "()I"⟩
abbrev cX9_could : ByteArray := prog_1_method_16_code
def yX9_could : MethodName := ⟨RX9, "could", "(IIII)I"⟩
abbrev cX9_bestTheme : ByteArray := prog_1_method_17_code
def yX9_bestTheme : MethodName := ⟨RX9, "bestTheme", "(II)I"⟩
abbrev cX9_who : ByteArray := prog_1_method_18_code
def yX9_who : MethodName := ⟨RX9, "who", "(II)I"⟩
abbrev cX9_order : ByteArray := prog_1_method_19_code
def yX9_order : MethodName := ⟨RX9, "order", "(I)I"⟩
abbrev cX9_toldHer : ByteArray := prog_1_method_20_code
def yX9_toldHer : MethodName := ⟨RX9, "toldHer", "(III)I"⟩
abbrev cX9_lasts : ByteArray := prog_1_method_21_code
def yX9_lasts : MethodName := ⟨RX9, "lasts", "(II)I"⟩
abbrev cX9_wornOut : ByteArray := prog_1_method_22_code
def yX9_wornOut : MethodName := ⟨RX9, "wornOut", "()I"⟩
abbrev cX9_carried : ByteArray := prog_1_method_23_code
def yX9_carried : MethodName := ⟨RX9, "carried", "(I)I"⟩
abbrev cX9_hire : ByteArray := prog_1_method_24_code
def yX9_hire : MethodName := ⟨RX9, "hire", "(II)I"⟩
abbrev cX9_midstream : ByteArray := prog_1_method_25_code
def yX9_midstream : MethodName := ⟨RX9, "midstream", "(III)I"⟩
abbrev cX9_fleet : ByteArray := prog_1_method_26_code
def yX9_fleet : MethodName := ⟨RX9, "fleet", "(I)I"⟩
abbrev cX9_write : ByteArray := prog_1_method_27_code
def yX9_write : MethodName := ⟨RX9, "write", "(II)I"⟩
abbrev cX9_tear : ByteArray := prog_1_method_28_code
def yX9_tear : MethodName := ⟨RX9, "tear", "()I"⟩
abbrev cX9_judge : ByteArray := prog_1_method_29_code
def yX9_judge : MethodName := ⟨RX9, "judge", "()I"⟩
abbrev cX9_seed : ByteArray := prog_1_method_30_code
def yX9_seed : MethodName := ⟨RX9, "seed", "(I)I"⟩
abbrev cX9_keep : ByteArray := prog_1_method_31_code
def yX9_keep : MethodName := ⟨RX9, "keep", "(I)I"⟩
abbrev cX9_goBack : ByteArray := prog_1_method_32_code
def yX9_goBack : MethodName := ⟨RX9, "goBack", "(I)I"⟩
abbrev cX9_at : ByteArray := prog_1_method_33_code
def yX9_at : MethodName := ⟨RX9, "at", "([II)I"⟩
abbrev cX9_put : ByteArray := prog_1_method_34_code
def yX9_put : MethodName := ⟨RX9, "put", "([III)V"⟩
abbrev cX9_stampOf : ByteArray := prog_1_method_35_code
def yX9_stampOf : MethodName := ⟨RX9, "stampOf", "(III)I"⟩
abbrev cX9_draw : ByteArray := prog_1_method_36_code
def yX9_draw : MethodName := ⟨RX9, "draw", "(I)I"⟩
abbrev cX9_swing : ByteArray := prog_1_method_37_code
def yX9_swing : MethodName := ⟨RX9, "swing", "(I)Z"⟩
abbrev cX9_attempt : ByteArray := prog_1_method_38_code
def yX9_attempt : MethodName := ⟨RX9, "attempt", "(III)V"⟩
abbrev cX9_themeFor : ByteArray := prog_1_method_39_code
def yX9_themeFor : MethodName := ⟨RX9, "themeFor", "(II)I"⟩
abbrev cX9_costFor : ByteArray := prog_1_method_40_code
def yX9_costFor : MethodName := ⟨RX9, "costFor", "(II)I"⟩
abbrev cX9_minutesLeft : ByteArray := prog_1_method_41_code
def yX9_minutesLeft : MethodName := ⟨RX9, "minutesLeft", "(II)I"⟩
abbrev cX9_noteOpenings : ByteArray := prog_1_method_42_code
def yX9_noteOpenings : MethodName := ⟨RX9, "noteOpenings", "(I)V"⟩
def RX10 : String := "QuarrelBridgesModel"
def TX10 : u_T := fun k => match k with
  | 0 => ("QuarrelBridgesModel", "w", "[I", true)
  | 1 => ("QuarrelBridgesModel", "isKept", "[Z", true)
  | 2 => ("QuarrelBridgesModel", "undoes", "I", false)
  | 3 => ("QuarrelBridgesModel", "bridges", "I", false)
  | 4 => ("QuarrelBridgesModel", "themes", "I", false)
  | 5 => ("QuarrelBridgesModel", "couples", "I", false)
  | 6 => ("QuarrelBridgesModel", "barges", "I", false)
  | 7 => ("QuarrelBridgesModel", "snow", "I", false)
  | 8 => ("QuarrelBridgesModel", "needs", "[I", true)
  | 9 => ("QuarrelBridgesModel", "grief", "[I", true)
  | 10 => ("QuarrelBridgesModel", "forces", "[I", true)
  | 11 => ("QuarrelBridgesModel", "far", "[I", true)
  | 12 => ("QuarrelBridgesModel", "due", "[I", true)
  | 13 => ("QuarrelBridgesModel", "text", "[I", true)
  | 14 => ("QuarrelBridgesModel", "texted", "I", false)
  | 15 => ("QuarrelBridgesModel", "at", "I", false)
  | 16 => ("QuarrelBridgesModel", "start", "I", false)
  | 17 => ("QuarrelBridgesModel", "number", "I", false)
  | 18 => ("QuarrelBridgesModel", "faulty", "I", false)
  | 19 => ("QuarrelBridgesModel", "faultAt", "I", false)
  | 20 => ("QuarrelBridgesModel", "readBridges", "I", false)
  | 21 => ("QuarrelBridgesModel", "readThemes", "I", false)
  | 22 => ("QuarrelBridgesModel", "hasThemes", "Z", false)
  | 23 => ("QuarrelBridgesModel", "readCouples", "I", false)
  | 24 => ("QuarrelBridgesModel", "readBarges", "I", false)
  | 25 => ("QuarrelBridgesModel", "readSnow", "I", false)
  | 26 => ("QuarrelBridgesModel", "hasSnow", "Z", false)
  | 27 => ("QuarrelBridgesModel", "readNeeds", "[I", true)
  | 28 => ("QuarrelBridgesModel", "readGrief", "[I", true)
  | 29 => ("QuarrelBridgesModel", "readForces", "[I", true)
  | 30 => ("QuarrelBridgesModel", "readFar", "[I", true)
  | 31 => ("QuarrelBridgesModel", "readDue", "[I", true)
  | 32 => ("QuarrelBridgesModel", "minutes", "I", false)
  | 33 => ("QuarrelBridgesModel", "left", "I", false)
  | 34 => ("QuarrelBridgesModel", "opened", "Z", false)
  | 35 => ("QuarrelBridgesModel", "cost", "I", false)
  | 36 => ("QuarrelBridgesModel", "least", "[I", true)
  | 37 => ("QuarrelBridgesModel", "costs", "[I", true)
  | 38 => ("QuarrelBridgesModel", "row", "[I", true)
  | 39 => ("QuarrelBridgesModel", "bestRow", "[I", true)
  | 40 => ("QuarrelBridgesModel", "bestLong", "I", false)
  | 41 => ("QuarrelBridgesModel", "bestTimely", "I", false)
  | 42 => ("QuarrelBridgesModel", "booked", "I", false)
  | 43 => ("QuarrelBridgesModel", "bookCouple", "[I", true)
  | _ => ("QuarrelBridgesModel", "bookGrief", "[I", true)
def tyX10 : Nat → FieldType := fun k => match k with
  | 0 => .array .int
  | 1 => .array .boolean
  | 2 => .int
  | 3 => .int
  | 4 => .int
  | 5 => .int
  | 6 => .int
  | 7 => .int
  | 8 => .array .int
  | 9 => .array .int
  | 10 => .array .int
  | 11 => .array .int
  | 12 => .array .int
  | 13 => .array .int
  | 14 => .int
  | 15 => .int
  | 16 => .int
  | 17 => .int
  | 18 => .int
  | 19 => .int
  | 20 => .int
  | 21 => .int
  | 22 => .boolean
  | 23 => .int
  | 24 => .int
  | 25 => .int
  | 26 => .boolean
  | 27 => .array .int
  | 28 => .array .int
  | 29 => .array .int
  | 30 => .array .int
  | 31 => .array .int
  | 32 => .int
  | 33 => .int
  | 34 => .boolean
  | 35 => .int
  | 36 => .array .int
  | 37 => .array .int
  | 38 => .array .int
  | 39 => .array .int
  | 40 => .int
  | 41 => .int
  | 42 => .int
  | 43 => .array .int
  | _ => .array .int
abbrev wsX100 : List Cond := u_ws RX10 TX10 45
theorem nmX10 : ∀ a, a < 45 → ∀ b, b < 45 → a ≠ b → (TX10 a).2.1 ≠ (TX10 b).2.1 := by decide +kernel
theorem tyX10_ok : ∀ k, k < 45 → parseFieldDescriptor (TX10 k).2.2.1 = some (tyX10 k) := by decide +kernel
abbrev cX10_init : ByteArray := prog_12_method_1_code
def yX10_init : MethodName := ⟨RX10, "<init>", "()V"⟩
abbrev cX10_in : ByteArray := prog_12_method_3_code
def yX10_in : MethodName := ⟨RX10, "in", "(JJJ)Z"⟩
abbrev cX10_has : ByteArray := prog_12_method_4_code
def yX10_has : MethodName := ⟨RX10, "has", "(II)Z"⟩
abbrev cX10_ones : ByteArray := prog_12_method_5_code
def yX10_ones : MethodName := ⟨RX10, "ones", "(I)I"⟩
abbrev cX10_copy : ByteArray := prog_12_method_6_code
def yX10_copy : MethodName := ⟨RX10, "copy", "(II)V"⟩
abbrev cX10_begins : ByteArray := prog_12_method_7_code
def yX10_begins : MethodName := ⟨RX10, "begins", "()V"⟩
abbrev cX10_isBridge : ByteArray := prog_12_method_8_code
def yX10_isBridge : MethodName := ⟨RX10, "isBridge", "(I)Z"⟩
abbrev cX10_isCouple : ByteArray := prog_12_method_9_code
def yX10_isCouple : MethodName := ⟨RX10, "isCouple", "(I)Z"⟩
abbrev cX10_isTheme : ByteArray := prog_12_method_10_code
def yX10_isTheme : MethodName := ⟨RX10, "isTheme", "(I)Z"⟩
abbrev cX10_isBarge : ByteArray := prog_12_method_11_code
def yX10_isBarge : MethodName := ⟨RX10, "isBarge", "(I)Z"⟩
abbrev cX10_feed : ByteArray := prog_12_method_12_code
def yX10_feed : MethodName := ⟨RX10, "feed", "(I)I"⟩
abbrev cX10_letterAt : ByteArray := prog_12_method_13_code
def yX10_letterAt : MethodName := ⟨RX10, "letterAt", "(I)I"⟩
abbrev cX10_here : ByteArray := prog_12_method_14_code
def yX10_here : MethodName := ⟨RX10, "here", "()I"⟩
abbrev cX10_fails : ByteArray := prog_12_method_15_code
def yX10_fails : MethodName := ⟨RX10, "fails", "(II)Z"⟩
abbrev cX10_takes : ByteArray := prog_12_method_16_code
def yX10_takes : MethodName := ⟨RX10, "takes", "(I)Z"⟩
abbrev cX10_takesNumber : ByteArray := prog_12_method_17_code
def yX10_takesNumber : MethodName := ⟨RX10, "takesNumber", "(II)Z"⟩
abbrev cX10_takesBridges : ByteArray := prog_12_method_18_code
def yX10_takesBridges : MethodName := ⟨RX10, "takesBridges", "()Z"⟩
abbrev cX10_takesThemes : ByteArray := prog_12_method_19_code
def yX10_takesThemes : MethodName := ⟨RX10, "takesThemes", "()Z"⟩
abbrev cX10_takesCouple : ByteArray := prog_12_method_20_code
def yX10_takesCouple : MethodName := ⟨RX10, "takesCouple", "()Z"⟩
abbrev cX10_takesBarge : ByteArray := prog_12_method_21_code
def yX10_takesBarge : MethodName := ⟨RX10, "takesBarge", "()Z"⟩
abbrev cX10_takesSnow : ByteArray := prog_12_method_22_code
def yX10_takesSnow : MethodName := ⟨RX10, "takesSnow", "()Z"⟩
abbrev cX10_takesClause : ByteArray := prog_12_method_23_code
def yX10_takesClause : MethodName := ⟨RX10, "takesClause", "()Z"⟩
abbrev cX10_town : ByteArray := prog_12_method_24_code
def yX10_town : MethodName := ⟨RX10, "town", "()I"⟩
abbrev cX10_fault : ByteArray := prog_12_method_25_code
def yX10_fault : MethodName := ⟨RX10, "fault", "()I"⟩
abbrev cX10_bargesThat : ByteArray := prog_12_method_26_code
def yX10_bargesThat : MethodName := ⟨RX10, "bargesThat", "(I)I"⟩
abbrev cX10_griefOf : ByteArray := prog_12_method_27_code
def yX10_griefOf : MethodName := ⟨RX10, "griefOf", "(I)I"⟩
abbrev cX10_told : ByteArray := prog_12_method_28_code
def yX10_told : MethodName := ⟨RX10, "told", "(I)I"⟩
abbrev cX10_whoIsAt : ByteArray := prog_12_method_29_code
def yX10_whoIsAt : MethodName := ⟨RX10, "whoIsAt", "(II)I"⟩
abbrev cX10_bridge : ByteArray := prog_12_method_30_code
def yX10_bridge : MethodName := ⟨RX10, "bridge", "(II)I"⟩
abbrev cX10_isDone : ByteArray := prog_12_method_31_code
def yX10_isDone : MethodName := ⟨RX10, "isDone", "(I)Z"⟩
abbrev cX10_couple : ByteArray := prog_12_method_32_code
def yX10_couple : MethodName := ⟨RX10, "couple", "(II)I"⟩
abbrev cX10_force : ByteArray := prog_12_method_33_code
def yX10_force : MethodName := ⟨RX10, "force", "(II)I"⟩
abbrev cX10_barge : ByteArray := prog_12_method_34_code
def yX10_barge : MethodName := ⟨RX10, "barge", "(II)I"⟩
abbrev cX10_stampOf : ByteArray := prog_12_method_35_code
def yX10_stampOf : MethodName := ⟨RX10, "stampOf", "(III)I"⟩
abbrev cX10_quarrels : ByteArray := prog_12_method_36_code
def yX10_quarrels : MethodName := ⟨RX10, "quarrels", "(IIII)V"⟩
abbrev cX10_minds : ByteArray := prog_12_method_37_code
def yX10_minds : MethodName := ⟨RX10, "minds", "()V"⟩
abbrev cX10_undo : ByteArray := prog_12_method_38_code
def yX10_undo : MethodName := ⟨RX10, "undo", "()I"⟩
abbrev cX10_send : ByteArray := prog_12_method_39_code
def yX10_send : MethodName := ⟨RX10, "send", "(III)I"⟩
abbrev cX10_home : ByteArray := prog_12_method_40_code
def yX10_home : MethodName := ⟨RX10, "home", "(I)I"⟩
abbrev cX10_passes : ByteArray := prog_12_method_41_code
def yX10_passes : MethodName := ⟨RX10, "passes", "(II)V"⟩
abbrev cX10_pass : ByteArray := prog_12_method_42_code
def yX10_pass : MethodName := ⟨RX10, "pass", "(I)I"⟩
abbrev cX10_grieves : ByteArray := prog_12_method_43_code
def yX10_grieves : MethodName := ⟨RX10, "grieves", "(II)V"⟩
abbrev cX10_grieve : ByteArray := prog_12_method_44_code
def yX10_grieve : MethodName := ⟨RX10, "grieve", "(II)I"⟩
abbrev cX10_draw : ByteArray := prog_12_method_45_code
def yX10_draw : MethodName := ⟨RX10, "draw", "(I)I"⟩
abbrev cX10_drift : ByteArray := prog_12_method_46_code
def yX10_drift : MethodName := ⟨RX10, "drift", "(I)I"⟩
abbrev cX10_opens : ByteArray := prog_12_method_47_code
def yX10_opens : MethodName := ⟨RX10, "opens", "(III)Z"⟩
abbrev cX10_could : ByteArray := prog_12_method_48_code
def yX10_could : MethodName := ⟨RX10, "could", "(IIII)I"⟩
abbrev cX10_best : ByteArray := prog_12_method_49_code
def yX10_best : MethodName := ⟨RX10, "best", "(II)I"⟩
abbrev cX10_bestTheme : ByteArray := prog_12_method_50_code
def yX10_bestTheme : MethodName := ⟨RX10, "bestTheme", "(II)I"⟩
abbrev cX10_layCosts : ByteArray := prog_12_method_51_code
def yX10_layCosts : MethodName := ⟨RX10, "layCosts", "()V"⟩
abbrev cX10_who : ByteArray := prog_12_method_52_code
def yX10_who : MethodName := ⟨RX10, "who", "(II)I"⟩
abbrev cX10_findOrder : ByteArray := prog_12_method_53_code
def yX10_findOrder : MethodName := ⟨RX10, "findOrder", "()V"⟩
abbrev cX10_order : ByteArray := prog_12_method_54_code
def yX10_order : MethodName := ⟨RX10, "order", "(I)I"⟩
abbrev cX10_toldHer : ByteArray := prog_12_method_55_code
def yX10_toldHer : MethodName := ⟨RX10, "toldHer", "(III)I"⟩
abbrev cX10_lastsOf : ByteArray := prog_12_method_56_code
def yX10_lastsOf : MethodName := ⟨RX10, "lastsOf", "(II)I"⟩
abbrev cX10_lasts : ByteArray := prog_12_method_57_code
def yX10_lasts : MethodName := ⟨RX10, "lasts", "(II)I"⟩
abbrev cX10_wornOut : ByteArray := prog_12_method_58_code
def yX10_wornOut : MethodName := ⟨RX10, "wornOut", "()I"⟩
abbrev cX10_carried : ByteArray := prog_12_method_59_code
def yX10_carried : MethodName := ⟨RX10, "carried", "(I)I"⟩
abbrev cX10_hire : ByteArray := prog_12_method_60_code
def yX10_hire : MethodName := ⟨RX10, "hire", "(II)I"⟩
abbrev cX10_midstream : ByteArray := prog_12_method_61_code
def yX10_midstream : MethodName := ⟨RX10, "midstream", "(III)I"⟩
abbrev cX10_fleet : ByteArray := prog_12_method_62_code
def yX10_fleet : MethodName := ⟨RX10, "fleet", "(I)I"⟩
abbrev cX10_write : ByteArray := prog_12_method_63_code
def yX10_write : MethodName := ⟨RX10, "write", "(II)I"⟩
abbrev cX10_tear : ByteArray := prog_12_method_64_code
def yX10_tear : MethodName := ⟨RX10, "tear", "()I"⟩
abbrev cX10_judge : ByteArray := prog_12_method_65_code
def yX10_judge : MethodName := ⟨RX10, "judge", "()I"⟩
abbrev cX10_seed : ByteArray := prog_12_method_66_code
def yX10_seed : MethodName := ⟨RX10, "seed", "(I)I"⟩
abbrev cX10_keep : ByteArray := prog_12_method_67_code
def yX10_keep : MethodName := ⟨RX10, "keep", "(I)I"⟩
abbrev cX10_goBack : ByteArray := prog_12_method_68_code
def yX10_goBack : MethodName := ⟨RX10, "goBack", "(I)I"⟩
def RJ6 : String := "java/lang/Integer"
def TJ6 : u_T := fun k => match k with
  | _ => ("", "", "", false)
def tyJ6 : Nat → FieldType := fun k => match k with
  | _ => .int
abbrev wsJ60 : List Cond := u_ws RJ6 TJ6 0
theorem nmJ6 : ∀ a, a < 0 → ∀ b, b < 0 → a ≠ b → (TJ6 a).2.1 ≠ (TJ6 b).2.1 := by decide +kernel
theorem tyJ6_ok : ∀ k, k < 0 → parseFieldDescriptor (TJ6 k).2.2.1 = some (tyJ6 k) := by decide +kernel
abbrev cJ6_bitCount_0f7a4 : ByteArray := prog_13_method_49_code
def yJ6_bitCount_0f7a4 : MethodName := ⟨RJ6, "bitCount", "(I)I"⟩
def RJ9 : String := "java/lang/Math"
def TJ9 : u_T := fun k => match k with
  | _ => ("", "", "", false)
def tyJ9 : Nat → FieldType := fun k => match k with
  | _ => .int
abbrev wsJ90 : List Cond := u_ws RJ9 TJ9 0
theorem nmJ9 : ∀ a, a < 0 → ∀ b, b < 0 → a ≠ b → (TJ9 a).2.1 ≠ (TJ9 b).2.1 := by decide +kernel
theorem tyJ9_ok : ∀ k, k < 0 → parseFieldDescriptor (TJ9 k).2.2.1 = some (tyJ9 k) := by decide +kernel
abbrev cJ9_max_7cf53 : ByteArray := prog_14_method_65_code
def yJ9_max_7cf53 : MethodName := ⟨RJ9, "max", "(II)I"⟩
abbrev cJ9_min_7cf53 : ByteArray := prog_14_method_69_code
def yJ9_min_7cf53 : MethodName := ⟨RJ9, "min", "(II)I"⟩
def RJ10 : String := "java/lang/System"
def TJ10 : u_T := fun k => match k with
  | _ => ("", "", "", false)
def tyJ10 : Nat → FieldType := fun k => match k with
  | _ => .int
abbrev wsJ100 : List Cond := u_ws RJ10 TJ10 0
theorem nmJ10 : ∀ a, a < 0 → ∀ b, b < 0 → a ≠ b → (TJ10 a).2.1 ≠ (TJ10 b).2.1 := by decide +kernel
theorem tyJ10_ok : ∀ k, k < 0 → parseFieldDescriptor (TJ10 k).2.2.1 = some (tyJ10 k) := by decide +kernel
def RJ7 : String := "java/util/Arrays"
def TJ7 : u_T := fun k => match k with
  | _ => ("", "", "", false)
def tyJ7 : Nat → FieldType := fun k => match k with
  | _ => .int
abbrev wsJ70 : List Cond := u_ws RJ7 TJ7 0
theorem nmJ7 : ∀ a, a < 0 → ∀ b, b < 0 → a ≠ b → (TJ7 a).2.1 ≠ (TJ7 b).2.1 := by decide +kernel
theorem tyJ7_ok : ∀ k, k < 0 → parseFieldDescriptor (TJ7 k).2.2.1 = some (tyJ7 k) := by decide +kernel
abbrev cJ7_fill_53178 : ByteArray := prog_16_method_103_code
def yJ7_fill_53178 : MethodName := ⟨RJ7, "fill", "([II)V"⟩
def RL : String := "QuarrelBridgesLaw"
abbrev cL_law : ByteArray := code
def yL_law : MethodName := ⟨RL, "law", "([I)Z"⟩
end
section
/-! my own frame over the kit: one list of words for all methods, one shape of contract, one row for each kind of call -/
abbrev classes : List vw_C := [(RX0, TX0, 3), (RX1, TX1, 10), (RX2, TX2, 3), (RX3, TX3, 3), (RX4, TX4, 5), (RX5, TX5, 7), (RX6, TX6, 2), (RX7, TX7, 1), (RX8, TX8, 10), (RX9, TX9, 17), (RX10, TX10, 45)]
abbrev TYS (cI cZ : ClassId) : List (ClassId × FieldType) := [(cI, .int), (cZ, .boolean)]
def BG : List Cond := lw_tbl.filter goodWord
theorem BG_in {w : Cond} (h1 : w ∈ lw_tbl) (h2 : goodWord w = true) : w ∈ BG := List.mem_filter.mpr ⟨h1, h2⟩
theorem BG_tbl {w : Cond} (h : w ∈ BG) : w ∈ lw_tbl := (List.mem_filter.mp h).1
theorem BG_good {w : Cond} (h : w ∈ BG) : (w.onTables && w.keeps) = true ∨ ∃ ty, w = .arrayClass ty := good_of_word (List.mem_filter.mp h).2
theorem gB {w : Cond} (h : w ∈ BG) : GoodIn BG (w :: BG) := fun v hv => (List.mem_cons.mp hv).elim (fun e => by rw [e]; exact ⟨h, BG_good h⟩) (fun h => ⟨h, BG_good h⟩)
def NM : List (String × Nat × MethodName × String) := [(RX9, 22, yX5_init, RX9), (RX9, 29, yX8_init, RX9), (RX9, 39, yX7_init, RX9), (RX9, 46, yX2_init, RX9), (RX9, 68, yX0_init, RX9), (RX9, 78, yX4_init, RX9), (RX9, 85, yX3_init, RX9), (RX9, 92, yX1_init, RX9), (RX0, 22, yX9_put, RX9), (RX0, 26, yX9_at, RX9), (RX1, 65, yX9_at, RX9), (RX1, 69, yX9_put, RX9), (RX3, 21, yX9_put, RX9), (RX3, 35, yX9_at, RX9), (RX4, 26, yX9_stampOf, RX9), (RX5, 91, yX9_put, RX9), (RX7, 30, yX9_at, RX9), (RX7, 34, yX9_put, RX9), (RX8, 43, yX9_at, RX9)]
theorem NM_tbl : ∀ q ∈ NM, Cond.methodLinkNest q.1 q.2.1 q.2.2.1 q.2.2.2 ∈ lw_tbl := by decide +kernel
def zN (U : State) : Prop := ∀ q ∈ NM, va_Nw (.methodLinkNest q.1 q.2.1 q.2.2.1 q.2.2.2) U
theorem zN.warm {s U : State} (hW : s.WarmedH U.vm) (h : zN s) : zN U := fun q hq => va_Nw.warmM hW (h q hq)
theorem zN.m {U : State} (h : zN U) (k : Nat) {a : String} {i : Nat} {y : MethodName} {b : String} (hk : NM[k]? = some (a, i, y, b)) : va_Nw (.methodLinkNest a i y b) U := by
  have h1 : (a, i, y, b) ∈ NM := List.mem_of_getElem? hk
  exact h (a, i, y, b) h1
def WD (D : va_G) (A : Nat → Prop) (ws : va_W) (t : State) : Prop := va_P D classes ws t.heap ∧ va_D A ws
def PC (D : va_G) (cI cZ : ClassId) (av : List Value) (sz : Nat) (ws : va_W) : Array Value → State → Prop := va_Pc av (fun U => U.heap.size = sz ∧ va_P D classes ws U.heap ∧ va_K D classes (TYS cI cZ) U ∧ va_D (fun _ => True) ws ∧ zN U)
theorem PC_blind {D : va_G} {cI cZ : ClassId} {av : List Value} {sz : Nat} {ws : va_W} : FrameBlind (PC D cI cZ av sz ws) := fun a U g mk q => ⟨q.1, q.2.1, q.2.2.1, va_K.moved (u := U) (U := U.calling g mk a) (Vm.Alike.refl U.vm) q.2.2.2.1, q.2.2.2.2.1, fun z hz => va_Nw.same rfl (u := U) (U := U.calling g mk a) rfl (q.2.2.2.2.2 z hz)⟩
theorem PC_pre {D : va_G} {cI cZ : ClassId} {av : List Value} {ws : va_W} {s : State} {H : Heap} {A : Nat → Prop} (hK : va_K D classes (TYS cI cZ) s) (hP : va_P D classes ws H) (hD : va_D A ws) (hN : zN s) : ∀ U : State, U.heap = H → s.WarmedH U.vm → PC D cI cZ av H.size ws av.toArray U := fun U hU hW => ⟨rfl, by rw [hU], by rw [hU]; exact hP, va_K.moved hW.alike hK, hD.weaken (fun _ _ _ _ => trivial), hN.warm hW⟩
/-- the contract of a method that answers an int (or a boolean) -/
def KI (l : Launch) (y : MethodName) (cc : ByteArray) (n : Nat) (ret : Option FieldType) (rm : Room) (D : va_G) (cI cZ : ClassId) {S : Type} (av : List Value) (sz : Nat) (ws : va_W) (post : Int32 → S → Prop) (w1 : S → va_W) : Prop :=
  Met l y (Cond.code y cc n ret :: BG) rm (PC D cI cZ av sz ws) (va_Qi post (fun u t => WD D (va_A ws sz) (w1 u) t) (va_A ws sz)) rm.cells rm.slots (va_A ws sz)
/-- the contract of a void method -/
def KV (l : Launch) (y : MethodName) (cc : ByteArray) (n : Nat) (rm : Room) (D : va_G) (cI cZ : ClassId) {S : Type} (av : List Value) (sz : Nat) (ws : va_W) (post : S → Prop) (w1 : S → va_W) : Prop :=
  Met l y (Cond.code y cc n none :: BG) rm (PC D cI cZ av sz ws) (va_Qv post (fun u t => WD D (va_A ws sz) (w1 u) t) (va_A ws sz)) rm.cells rm.slots (va_A ws sz)
theorem KI.go {l : Launch} {y : MethodName} {cc : ByteArray} {n : Nat} {ty : FieldType} {rm : Room} {D : va_G} {cI cZ : ClassId} {S : Type} {av : List Value} {sz : Nat} {ws : va_W} {post : Int32 → S → Prop} {w1 : S → va_W} (hy : plainName y.cls = true) (hav : (lg_sl av).length ≤ n)
    (body : ∀ (p : Program) (e : Env) (s : State) (m : MethodId) (args : Array Value) (below : List Frame) (meth : Method) (c : Code) (ls : Array Slot) (A : Nat → Prop) (Q : State → Prop), p.tables.exec = Jvm.exec → c.code = cc → c.maxLocals = n → (∀ w ∈ BG, w.before args s = true) → s.vm.findClass y.cls = some m.cls → meth.name = y.name → va_P D classes ws s.heap → va_K D classes (TYS cI cZ) s → va_D A ws → va_S A s.heap s.heap [] → (∀ q, s.heap.size ≤ q → A q) → zN s → lv_has ls n (lv_args 0 av) →
      (∀ (v : Int32) (u : S) (H : Heap) (locs : List Loc) (ls : Array Slot) (pc : Nat), decode cc pc = .ok (.ireturn, 1) → narrow ty (.int v) = .int v → post v u → va_P D classes (w1 u) H → va_D A (w1 u) → va_S A s.heap H locs → W p l e rm s m args below meth c H locs rm.cells rm.slots Q (F0 m pc ls [.int v])) →
      W p l e rm s m args below meth c s.heap [] 0 0 Q (F0 m 0 ls [])) : KI l y cc n (some ty) rm D cI cZ av sz ws post w1 := by
  refine Met.ofW (cc := cc) (maxL := n) (ret := some ty) hy rfl ?_
  intro p e s m args below meth c s₁ B hml hv
  obtain ⟨rfl, hsz, hP, hK, hD0, hN⟩ := hv
  have hts0 := atoms_spec (ws := Cond.code y cc n (some ty) :: BG) B.pre
  subst hsz
  have hl := lv_entry av (n := n) hav
  rw [lg_entry_eq]
  refine body p e s m av.toArray below meth c _ _ _ B.exec B.bytes hml (fun w h => hts0 w (List.mem_cons_of_mem _ h)) (findClass_of_methodNamed B.named) (name_of_methodNamed B.named B.method).1 hP hK (hD0.self (sz := s.heap.size)) va_S.rf (fun q h => Or.inr h) hN hl ?_
  intro v u H locs ls pc hdg hn hpost hP1 hD1 hS
  exact W.zret (v := v) B.exec B.bytes B.returns hn (fun t ht hW => ⟨⟨v, u, rfl, hpost, by rw [ht]; exact hP1, hD1⟩, hS.F ht⟩) hS.2.2 hdg B.notSynchronized
theorem KV.go {l : Launch} {y : MethodName} {cc : ByteArray} {n : Nat} {rm : Room} {D : va_G} {cI cZ : ClassId} {S : Type} {av : List Value} {sz : Nat} {ws : va_W} {post : S → Prop} {w1 : S → va_W} (hy : plainName y.cls = true) (hav : (lg_sl av).length ≤ n)
    (body : ∀ (p : Program) (e : Env) (s : State) (m : MethodId) (args : Array Value) (below : List Frame) (meth : Method) (c : Code) (ls : Array Slot) (A : Nat → Prop) (Q : State → Prop), p.tables.exec = Jvm.exec → c.code = cc → c.maxLocals = n → (∀ w ∈ BG, w.before args s = true) → s.vm.findClass y.cls = some m.cls → meth.name = y.name → va_P D classes ws s.heap → va_K D classes (TYS cI cZ) s → va_D A ws → va_S A s.heap s.heap [] → (∀ q, s.heap.size ≤ q → A q) → zN s → lv_has ls n (lv_args 0 av) →
      (∀ (u : S) (H : Heap) (locs : List Loc) (ls : Array Slot) (pc : Nat), decode cc pc = .ok (.return_, 1) → post u → va_P D classes (w1 u) H → va_D A (w1 u) → va_S A s.heap H locs → W p l e rm s m args below meth c H locs rm.cells rm.slots Q (F0 m pc ls [])) →
      W p l e rm s m args below meth c s.heap [] 0 0 Q (F0 m 0 ls [])) : KV l y cc n rm D cI cZ av sz ws post w1 := by
  refine Met.ofW (cc := cc) (maxL := n) (ret := none) hy rfl ?_
  intro p e s m args below meth c s₁ B hml hv
  obtain ⟨rfl, hsz, hP, hK, hD0, hN⟩ := hv
  have hts0 := atoms_spec (ws := Cond.code y cc n none :: BG) B.pre
  subst hsz
  have hl := lv_entry av (n := n) hav
  rw [lg_entry_eq]
  refine body p e s m av.toArray below meth c _ _ _ B.exec B.bytes hml (fun w h => hts0 w (List.mem_cons_of_mem _ h)) (findClass_of_methodNamed B.named) (name_of_methodNamed B.named B.method).1 hP hK (hD0.self (sz := s.heap.size)) va_S.rf (fun q h => Or.inr h) hN hl ?_
  intro u H locs ls pc hdg hpost hP1 hD1 hS
  exact W.vret B.exec B.bytes B.returns (fun t ht hW => ⟨⟨u, rfl, hpost, by rw [ht]; exact hP1, hD1⟩, hS.F ht⟩) hS.2.2 hdg B.notSynchronized
section CALLS
variable {p : Program} {l : Launch} {e : Env} {R : Room} {s : State} {m : MethodId} {args : Array Value} {below : List Frame} {meth : Method} {c : Code} {H H0 : Heap} {locs : List Loc} {cells slots : Nat} {Q : State → Prop} {D : va_G} {cI cZ : ClassId} {A : Nat → Prop} {ws wc wr : va_W} {rm : Room} {pc : Nat} {ls : Array Slot} {st0 rest : List Value} {a : Array Value} {S : Type} {cc : ByteArray} {own : String}
theorem fin_i {post : Int32 → S → Prop} {w1 : S → va_W} (hP : va_P D classes ws H) (hD : va_D A ws) (hS : va_S A H0 H locs) (hA : ∀ q, H0.size ≤ q → A q) (isC isR : List Nat) (hC : isC.map (fun i => ws[i]?) = wc.map some) (hR : isR.map (fun i => ws[i]?) = wr.map some) (hn : va_nd isR = true) (hdis : ∀ i ∈ isR, i ∉ isC)
    (hr : va_Run p l e R s m args below meth c H locs cells slots rm.cells rm.slots (F0 m pc ls st0) rest (va_Qi post (fun u t => WD D (va_A wc H.size) (w1 u) t) (va_A wc H.size) a) (va_A wc H.size))
    (kk : ∀ (r : Int32) (u : S) (H1 : Heap) (locs1 : List Loc), post r u → va_P D classes (wr ++ w1 u) H1 → va_D A (wr ++ w1 u) → va_S A H0 H1 locs1 → W p l e R s m args below meth c H1 locs1 (cells + rm.cells) (slots + rm.slots) Q (F0 m (pc + 3) ls (.int r :: rest))) : W p l e R s m args below meth c H locs cells slots Q (F0 m pc ls st0) := by
  have hFc := va_free hD hS hA isC hC
  refine va_calli hr hS (fun q _ h => hFc q h) hFc (fun r u t H1 locs1 ht hvm hw hB hz1 hk1 hS1 => ?_)
  obtain ⟨hP1, hD1⟩ := hB
  rw [ht] at hP1
  obtain ⟨hP2, hD2⟩ := va_join hP hD isC isR hC hR hn hdis hk1 hFc hP1 hD1
  exact kk r u H1 locs1 hw hP2 hD2 hS1
theorem fin_v {post : S → Prop} {w1 : S → va_W} (hP : va_P D classes ws H) (hD : va_D A ws) (hS : va_S A H0 H locs) (hA : ∀ q, H0.size ≤ q → A q) (isC isR : List Nat) (hC : isC.map (fun i => ws[i]?) = wc.map some) (hR : isR.map (fun i => ws[i]?) = wr.map some) (hn : va_nd isR = true) (hdis : ∀ i ∈ isR, i ∉ isC)
    (hr : va_Run p l e R s m args below meth c H locs cells slots rm.cells rm.slots (F0 m pc ls st0) rest (va_Qv post (fun u t => WD D (va_A wc H.size) (w1 u) t) (va_A wc H.size) a) (va_A wc H.size))
    (kk : ∀ (u : S) (H1 : Heap) (locs1 : List Loc), post u → va_P D classes (wr ++ w1 u) H1 → va_D A (wr ++ w1 u) → va_S A H0 H1 locs1 → W p l e R s m args below meth c H1 locs1 (cells + rm.cells) (slots + rm.slots) Q (F0 m (pc + 3) ls rest)) : W p l e R s m args below meth c H locs cells slots Q (F0 m pc ls st0) := by
  have hFc := va_free hD hS hA isC hC
  refine va_callv hr hS (fun q _ h => hFc q h) hFc (fun u t H1 locs1 ht hvm hw hB hz1 hk1 hS1 => ?_)
  obtain ⟨hP1, hD1⟩ := hB
  rw [ht] at hP1
  obtain ⟨hP2, hD2⟩ := va_join hP hD isC isR hC hR hn hdis hk1 hFc hP1 hD1
  exact kk u H1 locs1 hw hP2 hD2 hS1
/-- the words that a method wants wherever it is called -/
def okM (y : MethodName) (bytes : ByteArray) (maxL : Nat) (ret : Option FieldType) (n : Nat) : Prop := Cond.code y bytes maxL ret ∈ BG ∧ Cond.initialized y.cls ∈ BG ∧ (y.cls ≠ "java/lang/invoke/MethodHandle" ∧ y.cls ≠ "java/lang/invoke/VarHandle" ∧ (parseMethodDescriptor y.desc).map (fun d => d.parameters.length) = some n)
def okV (y : MethodName) (bytes : ByteArray) (maxL : Nat) (ret : Option FieldType) (n : Nat) : Prop := okM y bytes maxL ret n ∧ Cond.instanceMethod y ∈ BG ∧ Cond.selects y.cls y y ∈ BG
def okS (y : MethodName) (bytes : ByteArray) (maxL : Nat) (ret : Option FieldType) (n : Nat) : Prop := okM y bytes maxL ret n ∧ Cond.static y ∈ BG
def okI (y : MethodName) (bytes : ByteArray) (maxL : Nat) (n : Nat) : Prop := okM y bytes maxL none n ∧ Cond.instanceMethod y ∈ BG ∧ y.name = "<init>"
variable {y : MethodName} {bytes : ByteArray} {maxL nL index : Nat} {ret : Option FieldType} {As : List Value} {b : Nat}
theorem cB (hts : ∀ w ∈ BG, w.before args s = true) (ok : okM y bytes maxL ret As.length) (hlink : Cond.methodLink own index y ∈ BG) (hR1 : rm.frames + 1 ≤ R.frames) (hR2 : 8 + (maxL + 11) + rm.locals ≤ R.locals) : CallB R s args own index y bytes maxL ret (Cond.code y bytes maxL ret :: BG) rm rm.cells rm.slots As.length :=
  callB_of As.length hts (gB ok.1) rfl rfl rfl (hts _ ok.2.1) (hts _ hlink) ok.2.2 ⟨hR1, hR2⟩
theorem cutP {isC : List Nat} (hP : va_P D classes ws H) (hC : isC.map (fun i => ws[i]?) = wc.map some) : va_P D classes wc H := fun k q hk => by
  have h1 : (wc.map some)[k]? = some (some q) := by rw [List.getElem?_map, hk]; rfl
  rw [← hC, List.getElem?_map] at h1
  cases hi : isC[k]? with
  | none => rw [hi] at h1; cases h1
  | some i => rw [hi] at h1; exact hP i q (Option.some.inj h1)
theorem cutD {isC : List Nat} (hD : va_D A ws) (hC : isC.map (fun i => ws[i]?) = wc.map some) (hnd : va_nd isC = true) : va_D A wc := by
  have g1 : ∀ (k : Nat) (q : Nat × va_E), wc[k]? = some q → ∃ i, isC[k]? = some i ∧ ws[i]? = some q := fun k q hk => by
    have h1 : (wc.map some)[k]? = some (some q) := by rw [List.getElem?_map, hk]; rfl
    rw [← hC, List.getElem?_map] at h1
    cases hi : isC[k]? with
    | none => rw [hi] at h1; cases h1
    | some i => rw [hi] at h1; exact ⟨i, rfl, Option.some.inj h1⟩
  refine ⟨fun i j x y hi hj hxy => ?_, fun k q hk => ?_⟩
  · obtain ⟨i1, a1, a2⟩ := g1 i x hi
    obtain ⟨j1, b1, b2⟩ := g1 j y hj
    have h2 := hD.1 i1 j1 x y a2 b2 hxy
    subst h2
    exact va_nd_inj isC hnd i j i1 a1 b1
  · obtain ⟨i1, a1, a2⟩ := g1 k q hk
    exact hD.2 i1 q a2
theorem cVi {post : Int32 → S → Prop} {w1 : S → va_W} (hM : KI l y bytes maxL ret rm D cI cZ (.ref b :: As) H.size wc post w1) (ok : okV y bytes maxL ret As.length) (hlink : Cond.methodLink own index y ∈ BG) (hx : p.tables.exec = Jvm.exec) (hb : c.code = cc) (hml : c.maxLocals = nL) (hown : s.vm.findClass own = some m.cls) (hts : ∀ w ∈ BG, w.before args s = true) (hK : va_K D classes (TYS cI cZ) s) (hP : va_P D classes ws H) (hD : va_D A ws) (hS : va_S A H0 H locs) (hA : ∀ q, H0.size ≤ q → A q) (hN : zN s) (hsz : ls.size = nL) (isC isR : List Nat) (hC : isC.map (fun i => ws[i]?) = wc.map some) (hR : isR.map (fun i => ws[i]?) = wr.map some) (hnC : va_nd isC = true) (hnR : va_nd isR = true) (hdis : ∀ i ∈ isR, i ∉ isC) {ci : Nat} {fs : List Value} {T : u_T} {N : Nat} (hrec : wc[0]? = some (b, .inr (ci, fs))) (hcl : classes[ci]? = some (y.cls, T, N)) (hst : st0 = As.reverse ++ .ref b :: rest) (hroom : (rest.map fun v => v.category).sum ≤ 8) (hR1 : rm.frames + 1 ≤ R.frames) (hR2 : 8 + (maxL + 11) + rm.locals ≤ R.locals) (hR3 : cells + rm.cells ≤ R.cells) (hR4 : slots + rm.slots ≤ R.slots) (hdg : decode cc pc = .ok (.invokevirtual index, 3))
    (kk : ∀ (r : Int32) (u : S) (H1 : Heap) (locs1 : List Loc), post r u → va_P D classes (wr ++ w1 u) H1 → va_D A (wr ++ w1 u) → va_S A H0 H1 locs1 → W p l e R s m args below meth c H1 locs1 (cells + rm.cells) (slots + rm.slots) Q (F0 m (pc + 3) ls (.int r :: rest))) : W p l e R s m args below meth c H locs cells slots Q (F0 m pc ls st0) := by
  have hPc := cutP hP hC
  have hDc := cutD hD hC hnC
  exact fin_i hP hD hS hA isC isR hC hR hnR hdis (va_runV (As := As) (rest := rest) ⟨hx, hb, hml, hown, hts⟩ hM ⟨cB hts ok.1 hlink hR1 hR2, hts _ ok.2.1, hts _ ok.2.2⟩ ⟨PC_blind, va_recv hK hPc hcl hrec, PC_pre hK hPc hDc hN⟩ rfl rfl hsz hst (lv_room hroom) hdg ⟨hR3, hR4⟩) kk
theorem cVv {post : S → Prop} {w1 : S → va_W} (hM : KV l y bytes maxL rm D cI cZ (.ref b :: As) H.size wc post w1) (ok : okV y bytes maxL none As.length) (hlink : Cond.methodLink own index y ∈ BG) (hx : p.tables.exec = Jvm.exec) (hb : c.code = cc) (hml : c.maxLocals = nL) (hown : s.vm.findClass own = some m.cls) (hts : ∀ w ∈ BG, w.before args s = true) (hK : va_K D classes (TYS cI cZ) s) (hP : va_P D classes ws H) (hD : va_D A ws) (hS : va_S A H0 H locs) (hA : ∀ q, H0.size ≤ q → A q) (hN : zN s) (hsz : ls.size = nL) (isC isR : List Nat) (hC : isC.map (fun i => ws[i]?) = wc.map some) (hR : isR.map (fun i => ws[i]?) = wr.map some) (hnC : va_nd isC = true) (hnR : va_nd isR = true) (hdis : ∀ i ∈ isR, i ∉ isC) {ci : Nat} {fs : List Value} {T : u_T} {N : Nat} (hrec : wc[0]? = some (b, .inr (ci, fs))) (hcl : classes[ci]? = some (y.cls, T, N)) (hst : st0 = As.reverse ++ .ref b :: rest) (hroom : (rest.map fun v => v.category).sum ≤ 8) (hR1 : rm.frames + 1 ≤ R.frames) (hR2 : 8 + (maxL + 11) + rm.locals ≤ R.locals) (hR3 : cells + rm.cells ≤ R.cells) (hR4 : slots + rm.slots ≤ R.slots) (hdg : decode cc pc = .ok (.invokevirtual index, 3))
    (kk : ∀ (u : S) (H1 : Heap) (locs1 : List Loc), post u → va_P D classes (wr ++ w1 u) H1 → va_D A (wr ++ w1 u) → va_S A H0 H1 locs1 → W p l e R s m args below meth c H1 locs1 (cells + rm.cells) (slots + rm.slots) Q (F0 m (pc + 3) ls rest)) : W p l e R s m args below meth c H locs cells slots Q (F0 m pc ls st0) := by
  have hPc := cutP hP hC
  have hDc := cutD hD hC hnC
  exact fin_v hP hD hS hA isC isR hC hR hnR hdis (va_runV (As := As) (rest := rest) ⟨hx, hb, hml, hown, hts⟩ hM ⟨cB hts ok.1 hlink hR1 hR2, hts _ ok.2.1, hts _ ok.2.2⟩ ⟨PC_blind, va_recv hK hPc hcl hrec, PC_pre hK hPc hDc hN⟩ rfl rfl hsz hst (lv_room hroom) hdg ⟨hR3, hR4⟩) kk
theorem cSi {post : Int32 → S → Prop} {w1 : S → va_W} (hM : KI l y bytes maxL ret rm D cI cZ As H.size wc post w1) (ok : okS y bytes maxL ret As.length) (hlink : Cond.methodLink own index y ∈ BG) (hx : p.tables.exec = Jvm.exec) (hb : c.code = cc) (hml : c.maxLocals = nL) (hown : s.vm.findClass own = some m.cls) (hts : ∀ w ∈ BG, w.before args s = true) (hK : va_K D classes (TYS cI cZ) s) (hP : va_P D classes ws H) (hD : va_D A ws) (hS : va_S A H0 H locs) (hA : ∀ q, H0.size ≤ q → A q) (hN : zN s) (hsz : ls.size = nL) (isC isR : List Nat) (hC : isC.map (fun i => ws[i]?) = wc.map some) (hR : isR.map (fun i => ws[i]?) = wr.map some) (hnC : va_nd isC = true) (hnR : va_nd isR = true) (hdis : ∀ i ∈ isR, i ∉ isC) (hst : st0 = As.reverse ++ rest) (hroom : (rest.map fun v => v.category).sum ≤ 8) (hR1 : rm.frames + 1 ≤ R.frames) (hR2 : 8 + (maxL + 11) + rm.locals ≤ R.locals) (hR3 : cells + rm.cells ≤ R.cells) (hR4 : slots + rm.slots ≤ R.slots) (hdg : decode cc pc = .ok (.invokestatic index, 3))
    (kk : ∀ (r : Int32) (u : S) (H1 : Heap) (locs1 : List Loc), post r u → va_P D classes (wr ++ w1 u) H1 → va_D A (wr ++ w1 u) → va_S A H0 H1 locs1 → W p l e R s m args below meth c H1 locs1 (cells + rm.cells) (slots + rm.slots) Q (F0 m (pc + 3) ls (.int r :: rest))) : W p l e R s m args below meth c H locs cells slots Q (F0 m pc ls st0) := by
  have hPc := cutP hP hC
  have hDc := cutD hD hC hnC
  exact fin_i hP hD hS hA isC isR hC hR hnR hdis (va_runS (As := As) (rest := rest) ⟨hx, hb, hml, hown, hts⟩ hM ⟨cB hts ok.1 hlink hR1 hR2, hts _ ok.2⟩ ⟨PC_blind, PC_pre hK hPc hDc hN⟩ rfl rfl hsz hst (lv_room hroom) hdg ⟨hR3, hR4⟩) kk
theorem cSv {post : S → Prop} {w1 : S → va_W} (hM : KV l y bytes maxL rm D cI cZ As H.size wc post w1) (ok : okS y bytes maxL none As.length) (hlink : Cond.methodLink own index y ∈ BG) (hx : p.tables.exec = Jvm.exec) (hb : c.code = cc) (hml : c.maxLocals = nL) (hown : s.vm.findClass own = some m.cls) (hts : ∀ w ∈ BG, w.before args s = true) (hK : va_K D classes (TYS cI cZ) s) (hP : va_P D classes ws H) (hD : va_D A ws) (hS : va_S A H0 H locs) (hA : ∀ q, H0.size ≤ q → A q) (hN : zN s) (hsz : ls.size = nL) (isC isR : List Nat) (hC : isC.map (fun i => ws[i]?) = wc.map some) (hR : isR.map (fun i => ws[i]?) = wr.map some) (hnC : va_nd isC = true) (hnR : va_nd isR = true) (hdis : ∀ i ∈ isR, i ∉ isC) (hst : st0 = As.reverse ++ rest) (hroom : (rest.map fun v => v.category).sum ≤ 8) (hR1 : rm.frames + 1 ≤ R.frames) (hR2 : 8 + (maxL + 11) + rm.locals ≤ R.locals) (hR3 : cells + rm.cells ≤ R.cells) (hR4 : slots + rm.slots ≤ R.slots) (hdg : decode cc pc = .ok (.invokestatic index, 3))
    (kk : ∀ (u : S) (H1 : Heap) (locs1 : List Loc), post u → va_P D classes (wr ++ w1 u) H1 → va_D A (wr ++ w1 u) → va_S A H0 H1 locs1 → W p l e R s m args below meth c H1 locs1 (cells + rm.cells) (slots + rm.slots) Q (F0 m (pc + 3) ls rest)) : W p l e R s m args below meth c H locs cells slots Q (F0 m pc ls st0) := by
  have hPc := cutP hP hC
  have hDc := cutD hD hC hnC
  exact fin_v hP hD hS hA isC isR hC hR hnR hdis (va_runS (As := As) (rest := rest) ⟨hx, hb, hml, hown, hts⟩ hM ⟨cB hts ok.1 hlink hR1 hR2, hts _ ok.2⟩ ⟨PC_blind, PC_pre hK hPc hDc hN⟩ rfl rfl hsz hst (lv_room hroom) hdg ⟨hR3, hR4⟩) kk
theorem cNi {post : Int32 → S → Prop} {w1 : S → va_W} (hM : KI l y bytes maxL ret rm D cI cZ As H.size wc post w1) (ok : okS y bytes maxL ret As.length) {host : String} (k : Nat) (hlink : NM[k]? = some (own, index, y, host)) (hx : p.tables.exec = Jvm.exec) (hb : c.code = cc) (hml : c.maxLocals = nL) (hown : s.vm.findClass own = some m.cls) (hts : ∀ w ∈ BG, w.before args s = true) (hK : va_K D classes (TYS cI cZ) s) (hP : va_P D classes ws H) (hD : va_D A ws) (hS : va_S A H0 H locs) (hA : ∀ q, H0.size ≤ q → A q) (hN : zN s) (hsz : ls.size = nL) (isC isR : List Nat) (hC : isC.map (fun i => ws[i]?) = wc.map some) (hR : isR.map (fun i => ws[i]?) = wr.map some) (hnC : va_nd isC = true) (hnR : va_nd isR = true) (hdis : ∀ i ∈ isR, i ∉ isC) (hst : st0 = As.reverse ++ rest) (hroom : (rest.map fun v => v.category).sum ≤ 8) (hR1 : rm.frames + 1 ≤ R.frames) (hR2 : 8 + (maxL + 11) + rm.locals ≤ R.locals) (hR3 : cells + rm.cells ≤ R.cells) (hR4 : slots + rm.slots ≤ R.slots) (hdg : decode cc pc = .ok (.invokestatic index, 3))
    (kk : ∀ (r : Int32) (u : S) (H1 : Heap) (locs1 : List Loc), post r u → va_P D classes (wr ++ w1 u) H1 → va_D A (wr ++ w1 u) → va_S A H0 H1 locs1 → W p l e R s m args below meth c H1 locs1 (cells + rm.cells) (slots + rm.slots) Q (F0 m (pc + 3) ls (.int r :: rest))) : W p l e R s m args below meth c H locs cells slots Q (F0 m pc ls st0) := by
  have hPc := cutP hP hC
  have hDc := cutD hD hC hnC
  exact fin_i hP hD hS hA isC isR hC hR hnR hdis (va_runSN (As := As) (rest := rest) ⟨hx, hb, hml, hown, hts⟩ hM ⟨⟨⟨rfl, rfl, hR1, hR2, pay_in hts (gB ok.1.1), List.mem_cons_self⟩, hts _ ok.1.1, hts _ ok.1.2.1, ⟨ok.1.2.2.1, ok.1.2.2.2.1⟩, fun sig h => by have h2 := ok.1.2.2.2.2; rw [h] at h2; exact (Option.some.inj h2).symm, va_Nw.use rfl (hN.m k hlink)⟩, hts _ ok.2, trivial⟩ ⟨PC_blind, PC_pre hK hPc hDc hN⟩ rfl rfl hsz hst (lv_room hroom) hdg ⟨hR3, hR4⟩) kk
theorem cNv {post : S → Prop} {w1 : S → va_W} (hM : KV l y bytes maxL rm D cI cZ As H.size wc post w1) (ok : okS y bytes maxL none As.length) {host : String} (k : Nat) (hlink : NM[k]? = some (own, index, y, host)) (hx : p.tables.exec = Jvm.exec) (hb : c.code = cc) (hml : c.maxLocals = nL) (hown : s.vm.findClass own = some m.cls) (hts : ∀ w ∈ BG, w.before args s = true) (hK : va_K D classes (TYS cI cZ) s) (hP : va_P D classes ws H) (hD : va_D A ws) (hS : va_S A H0 H locs) (hA : ∀ q, H0.size ≤ q → A q) (hN : zN s) (hsz : ls.size = nL) (isC isR : List Nat) (hC : isC.map (fun i => ws[i]?) = wc.map some) (hR : isR.map (fun i => ws[i]?) = wr.map some) (hnC : va_nd isC = true) (hnR : va_nd isR = true) (hdis : ∀ i ∈ isR, i ∉ isC) (hst : st0 = As.reverse ++ rest) (hroom : (rest.map fun v => v.category).sum ≤ 8) (hR1 : rm.frames + 1 ≤ R.frames) (hR2 : 8 + (maxL + 11) + rm.locals ≤ R.locals) (hR3 : cells + rm.cells ≤ R.cells) (hR4 : slots + rm.slots ≤ R.slots) (hdg : decode cc pc = .ok (.invokestatic index, 3))
    (kk : ∀ (u : S) (H1 : Heap) (locs1 : List Loc), post u → va_P D classes (wr ++ w1 u) H1 → va_D A (wr ++ w1 u) → va_S A H0 H1 locs1 → W p l e R s m args below meth c H1 locs1 (cells + rm.cells) (slots + rm.slots) Q (F0 m (pc + 3) ls rest)) : W p l e R s m args below meth c H locs cells slots Q (F0 m pc ls st0) := by
  have hPc := cutP hP hC
  have hDc := cutD hD hC hnC
  exact fin_v hP hD hS hA isC isR hC hR hnR hdis (va_runSN (As := As) (rest := rest) ⟨hx, hb, hml, hown, hts⟩ hM ⟨⟨⟨rfl, rfl, hR1, hR2, pay_in hts (gB ok.1.1), List.mem_cons_self⟩, hts _ ok.1.1, hts _ ok.1.2.1, ⟨ok.1.2.2.1, ok.1.2.2.2.1⟩, fun sig h => by have h2 := ok.1.2.2.2.2; rw [h] at h2; exact (Option.some.inj h2).symm, va_Nw.use rfl (hN.m k hlink)⟩, hts _ ok.2, trivial⟩ ⟨PC_blind, PC_pre hK hPc hDc hN⟩ rfl rfl hsz hst (lv_room hroom) hdg ⟨hR3, hR4⟩) kk
theorem cIv {post : S → Prop} {w1 : S → va_W} (hM : KV l y bytes maxL rm D cI cZ (.ref b :: As) H.size wc post w1) (ok : okI y bytes maxL As.length) (hlink : Cond.methodLink own index y ∈ BG) (hx : p.tables.exec = Jvm.exec) (hb : c.code = cc) (hml : c.maxLocals = nL) (hown : s.vm.findClass own = some m.cls) (hts : ∀ w ∈ BG, w.before args s = true) (hK : va_K D classes (TYS cI cZ) s) (hP : va_P D classes ws H) (hD : va_D A ws) (hS : va_S A H0 H locs) (hA : ∀ q, H0.size ≤ q → A q) (hN : zN s) (hsz : ls.size = nL) (isC isR : List Nat) (hC : isC.map (fun i => ws[i]?) = wc.map some) (hR : isR.map (fun i => ws[i]?) = wr.map some) (hnC : va_nd isC = true) (hnR : va_nd isR = true) (hdis : ∀ i ∈ isR, i ∉ isC) (hst : st0 = As.reverse ++ .ref b :: rest) (hroom : (rest.map fun v => v.category).sum ≤ 8) (hR1 : rm.frames + 1 ≤ R.frames) (hR2 : 8 + (maxL + 11) + rm.locals ≤ R.locals) (hR3 : cells + rm.cells ≤ R.cells) (hR4 : slots + rm.slots ≤ R.slots) (hdg : decode cc pc = .ok (.invokespecial index, 3))
    (kk : ∀ (u : S) (H1 : Heap) (locs1 : List Loc), post u → va_P D classes (wr ++ w1 u) H1 → va_D A (wr ++ w1 u) → va_S A H0 H1 locs1 → W p l e R s m args below meth c H1 locs1 (cells + rm.cells) (slots + rm.slots) Q (F0 m (pc + 3) ls rest)) : W p l e R s m args below meth c H locs cells slots Q (F0 m pc ls st0) := by
  have hPc := cutP hP hC
  have hDc := cutD hD hC hnC
  exact fin_v hP hD hS hA isC isR hC hR hnR hdis (va_runI (As := As) (rest := rest) ⟨hx, hb, hml, hown, hts⟩ hM ⟨cB hts ok.1 hlink hR1 hR2, ok.2.2, hts _ ok.2.1⟩ ⟨PC_blind, PC_pre hK hPc hDc hN⟩ rfl rfl hsz hst (lv_room hroom) hdg ⟨hR3, hR4⟩) kk
theorem cMv {post : S → Prop} {w1 : S → va_W} (hM : KV l y bytes maxL rm D cI cZ (.ref b :: As) H.size wc post w1) (ok : okI y bytes maxL As.length) {host : String} (k : Nat) (hlink : NM[k]? = some (own, index, y, host)) (hx : p.tables.exec = Jvm.exec) (hb : c.code = cc) (hml : c.maxLocals = nL) (hown : s.vm.findClass own = some m.cls) (hts : ∀ w ∈ BG, w.before args s = true) (hK : va_K D classes (TYS cI cZ) s) (hP : va_P D classes ws H) (hD : va_D A ws) (hS : va_S A H0 H locs) (hA : ∀ q, H0.size ≤ q → A q) (hN : zN s) (hsz : ls.size = nL) (isC isR : List Nat) (hC : isC.map (fun i => ws[i]?) = wc.map some) (hR : isR.map (fun i => ws[i]?) = wr.map some) (hnC : va_nd isC = true) (hnR : va_nd isR = true) (hdis : ∀ i ∈ isR, i ∉ isC) (hst : st0 = As.reverse ++ .ref b :: rest) (hroom : (rest.map fun v => v.category).sum ≤ 8) (hR1 : rm.frames + 1 ≤ R.frames) (hR2 : 8 + (maxL + 11) + rm.locals ≤ R.locals) (hR3 : cells + rm.cells ≤ R.cells) (hR4 : slots + rm.slots ≤ R.slots) (hdg : decode cc pc = .ok (.invokespecial index, 3))
    (kk : ∀ (u : S) (H1 : Heap) (locs1 : List Loc), post u → va_P D classes (wr ++ w1 u) H1 → va_D A (wr ++ w1 u) → va_S A H0 H1 locs1 → W p l e R s m args below meth c H1 locs1 (cells + rm.cells) (slots + rm.slots) Q (F0 m (pc + 3) ls rest)) : W p l e R s m args below meth c H locs cells slots Q (F0 m pc ls st0) := by
  have hPc := cutP hP hC
  have hDc := cutD hD hC hnC
  exact fin_v hP hD hS hA isC isR hC hR hnR hdis (va_runIN (As := As) (rest := rest) ⟨hx, hb, hml, hown, hts⟩ hM ⟨⟨⟨rfl, rfl, hR1, hR2, pay_in hts (gB ok.1.1), List.mem_cons_self⟩, hts _ ok.1.1, hts _ ok.1.2.1, ⟨ok.1.2.2.1, ok.1.2.2.2.1⟩, fun sig h => by have h2 := ok.1.2.2.2.2; rw [h] at h2; exact (Option.some.inj h2).symm, va_Nw.use rfl (hN.m k hlink)⟩, ok.2.2, hts _ ok.2.1⟩ ⟨PC_blind, PC_pre hK hPc hDc hN⟩ rfl rfl hsz hst (lv_room hroom) hdg ⟨hR3, hR4⟩) kk
end CALLS
/-- the class of a new array of ints, of booleans is the one that is known -/
theorem K_int {D : va_G} {cI cZ cA : ClassId} {s : State} (h : va_K D classes (TYS cI cZ ++ [(cA, .int)]) s) : cA = cI := by
  have h1 := (h.2 0 (cI, .int) rfl).2
  have h2 := (h.2 2 (cA, .int) rfl).2
  exact (Option.some.inj (h1.symm.trans h2)).symm
theorem K_bool {D : va_G} {cI cZ cA : ClassId} {s : State} (h : va_K D classes (TYS cI cZ ++ [(cA, .boolean)]) s) : cA = cZ := by
  have h1 := (h.2 1 (cZ, .boolean) rfl).2
  have h2 := (h.2 2 (cA, .boolean) rfl).2
  exact (Option.some.inj (h1.symm.trans h2)).symm
theorem K_start {D : va_G} {s : State} {args : Array Value} (h : ∀ (k : Nat) (q : vw_C), classes[k]? = some q → u_Kn s q.1 q.2.1 q.2.2 (D.1 k) (D.2 k)) (hi : (Cond.arrayClass .int).before args s = true) (hz : (Cond.arrayClass .boolean).before args s = true) : ∃ cI cZ, va_K D classes (TYS cI cZ) s := by
  obtain ⟨cA, kA, comp, hfind, hk, hkind⟩ := Cond.arrayClass_spec hi
  obtain ⟨cB, kB, compB, hfindB, hkB, hkindB⟩ := Cond.arrayClass_spec hz
  refine ⟨cA, cB, h, fun k q hq => ?_⟩
  match k, hq with
  | 0, hq => cases hq; exact ⟨fun n z => ⟨fun k h => (by cases h), kA, hk, comp, hkind⟩, hfind⟩
  | 1, hq => cases hq; exact ⟨fun n z => ⟨fun k h => (by cases h), kB, hkB, compB, hkindB⟩, hfindB⟩
  | k + 2, hq => simp at hq
def z0 : Nat → Int32 := fun _ => 0
theorem z0_int (n : Nat) (cA : ClassId) : vp_cell cA (n, .inl z0) = arrV cA n (fun _ => defaultValue .int) := rfl
theorem z0_bool (n : Nat) (cA : ClassId) : vp_cell cA (n, .inl z0) = arrV cA n (fun _ => defaultValue .boolean) := rfl
theorem BG_at {w : Cond} (k : Nat) (h1 : tables_1[k]? = some w) (h2 : goodWord w = true) : w ∈ BG := BG_in (List.mem_append_right _ (List.mem_of_getElem? h1)) h2
theorem BG_at1 {w : Cond} (k : Nat) (h1 : tables_1_1[k]? = some w) (h2 : goodWord w = true) : w ∈ BG := BG_in (List.mem_append_right _ (List.mem_append_left _ (List.mem_of_getElem? h1))) h2
theorem BG_at2 {w : Cond} (k : Nat) (h1 : tables_1_2[k]? = some w) (h2 : goodWord w = true) : w ∈ BG := BG_in (List.mem_append_right _ (List.mem_append_right _ (List.mem_append_left _ (List.mem_of_getElem? h1)))) h2
theorem BG_at3 {w : Cond} (k : Nat) (h1 : tables_1_3[k]? = some w) (h2 : goodWord w = true) : w ∈ BG := BG_in (List.mem_append_right _ (List.mem_append_right _ (List.mem_append_right _ (List.mem_append_left _ (List.mem_of_getElem? h1))))) h2
theorem BG_at4 {w : Cond} (k : Nat) (h1 : tables_1_4[k]? = some w) (h2 : goodWord w = true) : w ∈ BG := BG_in (List.mem_append_right _ (List.mem_append_right _ (List.mem_append_right _ (List.mem_append_right _ (List.mem_append_left _ (List.mem_of_getElem? h1)))))) h2
theorem BG_at5 {w : Cond} (k : Nat) (h1 : tables_1_5[k]? = some w) (h2 : goodWord w = true) : w ∈ BG := BG_in (List.mem_append_right _ (List.mem_append_right _ (List.mem_append_right _ (List.mem_append_right _ (List.mem_append_right _ (List.mem_of_getElem? h1)))))) h2
end
section
def fw_cX9_at : List (List Nat) := [[27, 155, 0, 15, 27, 42, 190, 162, 0, 9, 42, 27, 46, 167, 0, 4, 3, 172], [3, 172]]
theorem fW_cX9_at : fq_wins 2 cX9_at.data.toList = fw_cX9_at := by decide +kernel
theorem fk_cX9_at_0 : fq_ck cX9_at 0 [27, 155, 0, 15, 27, 42, 190, 162, 0, 9, 42, 27, 46, 167, 0, 4, 3, 172] := fq_of fW_cX9_at 0 rfl rfl
theorem dX9_at_0 : decode cX9_at 0 = .ok (.iload_n 1, 1) := fq_27 fk_cX9_at_0 0 rfl rfl
theorem dX9_at_1 : decode cX9_at 1 = .ok (.ifCond .lt 15, 3) := fq_155 fk_cX9_at_0 1 rfl rfl rfl rfl rfl
theorem fk_cX9_at_1 : fq_ck cX9_at 16 [3, 172] := fq_of fW_cX9_at 1 rfl rfl
theorem dX9_at_16 : decode cX9_at 16 = .ok (.iconst 0, 1) := fq_3 fk_cX9_at_1 0 rfl rfl
theorem dX9_at_17 : decode cX9_at 17 = .ok (.ireturn, 1) := fq_172 fk_cX9_at_1 1 rfl rfl
theorem dX9_at_4 : decode cX9_at 4 = .ok (.iload_n 1, 1) := fq_27 fk_cX9_at_0 4 rfl rfl
theorem dX9_at_5 : decode cX9_at 5 = .ok (.aload_n 0, 1) := fq_42 fk_cX9_at_0 5 rfl rfl
theorem dX9_at_6 : decode cX9_at 6 = .ok (.arraylength, 1) := fq_190 fk_cX9_at_0 6 rfl rfl
theorem dX9_at_7 : decode cX9_at 7 = .ok (.if_icmp .ge 9, 3) := fq_162 fk_cX9_at_0 7 rfl rfl rfl rfl rfl
theorem dX9_at_10 : decode cX9_at 10 = .ok (.aload_n 0, 1) := fq_42 fk_cX9_at_0 10 rfl rfl
theorem dX9_at_11 : decode cX9_at 11 = .ok (.iload_n 1, 1) := fq_27 fk_cX9_at_0 11 rfl rfl
theorem dX9_at_12 : decode cX9_at 12 = .ok (.iaload, 1) := fq_46 fk_cX9_at_0 12 rfl rfl
theorem dX9_at_13 : decode cX9_at 13 = .ok (.goto 4, 3) := fq_167 fk_cX9_at_0 13 rfl rfl rfl rfl rfl
def fw_cX9_put : List (List Nat) := [[27, 155, 0, 13, 27, 42, 190, 162, 0, 7, 42, 27, 28, 79, 177]]
theorem fW_cX9_put : fq_wins 1 cX9_put.data.toList = fw_cX9_put := by decide +kernel
theorem fk_cX9_put_0 : fq_ck cX9_put 0 [27, 155, 0, 13, 27, 42, 190, 162, 0, 7, 42, 27, 28, 79, 177] := fq_of fW_cX9_put 0 rfl rfl
theorem dX9_put_0 : decode cX9_put 0 = .ok (.iload_n 1, 1) := fq_27 fk_cX9_put_0 0 rfl rfl
theorem dX9_put_1 : decode cX9_put 1 = .ok (.ifCond .lt 13, 3) := fq_155 fk_cX9_put_0 1 rfl rfl rfl rfl rfl
theorem dX9_put_14 : decode cX9_put 14 = .ok (.return_, 1) := fq_177 fk_cX9_put_0 14 rfl rfl
theorem dX9_put_4 : decode cX9_put 4 = .ok (.iload_n 1, 1) := fq_27 fk_cX9_put_0 4 rfl rfl
theorem dX9_put_5 : decode cX9_put 5 = .ok (.aload_n 0, 1) := fq_42 fk_cX9_put_0 5 rfl rfl
theorem dX9_put_6 : decode cX9_put 6 = .ok (.arraylength, 1) := fq_190 fk_cX9_put_0 6 rfl rfl
theorem dX9_put_7 : decode cX9_put 7 = .ok (.if_icmp .ge 7, 3) := fq_162 fk_cX9_put_0 7 rfl rfl rfl rfl rfl
theorem dX9_put_10 : decode cX9_put 10 = .ok (.aload_n 0, 1) := fq_42 fk_cX9_put_0 10 rfl rfl
theorem dX9_put_11 : decode cX9_put 11 = .ok (.iload_n 1, 1) := fq_27 fk_cX9_put_0 11 rfl rfl
theorem dX9_put_12 : decode cX9_put 12 = .ok (.iload_n 2, 1) := fq_28 fk_cX9_put_0 12 rfl rfl
theorem dX9_put_13 : decode cX9_put 13 = .ok (.iastore, 1) := fq_79 fk_cX9_put_0 13 rfl rfl
theorem vin {i : Int32} {n : Nat} (hn : n < 2 ^ 31) (h1 : ¬ i < 0) (h2 : ¬ Int32.ofNat n ≤ i) : vp_in i n := by
  obtain ⟨j, hj, rfl⟩ := nI_of h1
  have h3 : ¬ n ≤ j := fun h => h2 ((nI_leI hn hj).mpr h)
  exact nI_in (by omega) hn
theorem vout {i : Int32} {n : Nat} (hn : n < 2 ^ 31) (h1 : ¬ i < 0) (h2 : Int32.ofNat n ≤ i) : n ≤ i.toNatClampNeg := by
  obtain ⟨j, hj, rfl⟩ := nI_of h1
  rw [nI_clamp hj]
  exact (nI_leI hn hj).mp h2
/-- at(row, i) -/
def atF (n : Nat) (f : Nat → Int32) (i : Int32) : Int32 := if i < 0 ∨ n ≤ i.toNatClampNeg then 0 else f i.toNatClampNeg
/-- put(row, i, x) -/
def putF (n : Nat) (f : Nat → Int32) (i x : Int32) : Nat → Int32 := if i < 0 ∨ n ≤ i.toNatClampNeg then f else upd f i.toNatClampNeg x
theorem atF_out {n : Nat} {f : Nat → Int32} {i : Int32} (h : i < 0 ∨ n ≤ i.toNatClampNeg) : 0 = atF n f i := (if_pos h).symm
theorem atF_in {n : Nat} {f : Nat → Int32} {i : Int32} (h : vp_in i n) : f i.toNatClampNeg = atF n f i := (if_neg h).symm
theorem putF_out {n : Nat} {f : Nat → Int32} {i x : Int32} (h : i < 0 ∨ n ≤ i.toNatClampNeg) : f = putF n f i x := (if_pos h).symm
theorem putF_in {n : Nat} {f : Nat → Int32} {i x : Int32} (h : vp_in i n) : upd f i.toNatClampNeg x = putF n f i x := (if_neg h).symm
def rm_k_at : Room := { frames := 0, cells := 0, slots := 0, locals := 0 }
set_option maxHeartbeats 4000000 in
set_option maxRecDepth 100000 in
theorem k_at {l : Launch} {D : va_G} {cI cZ : ClassId} {sz : Nat} (a n : Nat) (f : Nat → Int32) (i : Int32) (hn : n < 2 ^ 31) : KI l yX9_at cX9_at 2 (some .int) rm_k_at D cI cZ [.ref a, .int i] sz [(a, .inl (cI, n, .inl f))] (fun (r : Int32) (_ : Unit) => r = atF n f i) (fun (_ : Unit) => [(a, .inl (cI, n, .inl f))]) := by
  refine KI.go rfl (Nat.le_of_ble_eq_true rfl) ?_
  intro p e s m args below meth c ls A Q hx hb hml hts hown hin hP hK hD hS hA hN hl hret
  have hl : lv_has ls 2 [(0, .ref a), (1, .int i)] := hl
  refine lv_iload_n hx hb dX9_at_0 rfl (lv_at hl 1 rfl) ?_
  refine lv_if_lt (tgt := 16) hx hb dX9_at_1 rfl (fun c_1 => ?_) (fun c_1 => ?_)
  · refine lv_iconst (v := 0) hx hb dX9_at_16 rfl ?_
    exact hret 0 () _ _ _ _ dX9_at_17 rfl (atF_out (Or.inl c_1)) hP hD hS
  · refine lv_iload_n hx hb dX9_at_4 rfl (lv_at hl 1 rfl) ?_
    refine lv_aload_n hx hb dX9_at_5 rfl (lv_at hl 0 rfl) ?_
    refine va_alen (v := (Int32.ofNat n)) hx hb hK hP 0 0 rfl rfl rfl dX9_at_6 ?_
    refine lv_icmp_ge (tgt := 16) hx hb dX9_at_7 rfl (fun c_2 => ?_) (fun c_2 => ?_)
    · refine lv_iconst (v := 0) hx hb dX9_at_16 rfl ?_
      exact hret 0 () _ _ _ _ dX9_at_17 rfl (atF_out (Or.inr (vout hn c_1 c_2))) hP hD hS
    · refine lv_aload_n hx hb dX9_at_10 rfl (lv_at hl 0 rfl) ?_
      refine lv_iload_n hx hb dX9_at_11 rfl (lv_at hl 1 rfl) ?_
      refine va_iald hx hb hK hP 0 0 rfl rfl (vin hn c_1 c_2) dX9_at_12 ?_
      refine lv_goto (tgt := 17) hx hb dX9_at_13 rfl ?_
      exact hret (f (i : Int32).toNatClampNeg) () _ _ _ _ dX9_at_17 rfl (atF_in (vin hn c_1 c_2)) hP hD hS
def rm_k_put : Room := { frames := 0, cells := 0, slots := 0, locals := 0 }
set_option maxHeartbeats 4000000 in
set_option maxRecDepth 100000 in
theorem k_put {l : Launch} {D : va_G} {cI cZ : ClassId} {sz : Nat} (a n : Nat) (f : Nat → Int32) (i x : Int32) (hn : n < 2 ^ 31) : KV l yX9_put cX9_put 3 rm_k_put D cI cZ [.ref a, .int i, .int x] sz [(a, .inl (cI, n, .inl f))] (fun (_ : Unit) => True) (fun (_ : Unit) => [(a, .inl (cI, n, .inl (putF n f i x)))]) := by
  refine KV.go rfl (Nat.le_of_ble_eq_true rfl) ?_
  intro p e s m args below meth c ls A Q hx hb hml hts hown hin hP hK hD hS hA hN hl hret
  have hl : lv_has ls 3 [(0, .ref a), (1, .int i), (2, .int x)] := hl
  refine lv_iload_n hx hb dX9_put_0 rfl (lv_at hl 1 rfl) ?_
  refine lv_if_lt (tgt := 14) hx hb dX9_put_1 rfl (fun c_1 => ?_) (fun c_1 => ?_)
  · have hP : va_P D classes [(a, .inl (cI, n, .inl (putF n f i x)))] s.heap := by rw [← putF_out (x := x) (Or.inl c_1)]; exact hP
    have hD : va_D A [(a, .inl (cI, n, .inl (putF n f i x)))] := by rw [← putF_out (x := x) (Or.inl c_1)]; exact hD
    exact hret () _ _ _ _ dX9_put_14 trivial hP hD hS
  · refine lv_iload_n hx hb dX9_put_4 rfl (lv_at hl 1 rfl) ?_
    refine lv_aload_n hx hb dX9_put_5 rfl (lv_at hl 0 rfl) ?_
    refine va_alen (v := (Int32.ofNat n)) hx hb hK hP 0 0 rfl rfl rfl dX9_put_6 ?_
    refine lv_icmp_ge (tgt := 14) hx hb dX9_put_7 rfl (fun c_2 => ?_) (fun c_2 => ?_)
    · have hP : va_P D classes [(a, .inl (cI, n, .inl (putF n f i x)))] s.heap := by rw [← putF_out (x := x) (Or.inr (vout hn c_1 c_2))]; exact hP
      have hD : va_D A [(a, .inl (cI, n, .inl (putF n f i x)))] := by rw [← putF_out (x := x) (Or.inr (vout hn c_1 c_2))]; exact hD
      exact hret () _ _ _ _ dX9_put_14 trivial hP hD hS
    · refine lv_aload_n hx hb dX9_put_10 rfl (lv_at hl 0 rfl) ?_
      refine lv_iload_n hx hb dX9_put_11 rfl (lv_at hl 1 rfl) ?_
      refine lv_iload_n hx hb dX9_put_12 rfl (lv_at hl 2 rfl) ?_
      refine va_iast hx hb hK hP hD hS 0 0 rfl rfl (vin hn c_1 c_2) dX9_put_13 (fun H locs hP hD hS => ?_)
      have hP : va_P D classes [(a, .inl (cI, n, .inl (upd f (i : Int32).toNatClampNeg x)))] H := hP
      have hD : va_D A [(a, .inl (cI, n, .inl (upd f (i : Int32).toNatClampNeg x)))] := hD
      have hP : va_P D classes [(a, .inl (cI, n, .inl (putF n f i x)))] H := by rw [← putF_in (vin hn c_1 c_2)]; exact hP
      have hD : va_D A [(a, .inl (cI, n, .inl (putF n f i x)))] := by rw [← putF_in (vin hn c_1 c_2)]; exact hD
      exact hret () _ _ _ _ dX9_put_14 trivial hP hD hS
end
section
def fw_cX8_init : List (List Nat) := [[42, 183, 0, 3, 42, 3, 181, 0, 9, 42, 4, 181, 0, 15, 42, 3, 181, 0], [181, 0, 18, 42, 3, 181, 0, 21, 42, 3, 181, 0, 24, 42, 16, 6, 188, 10], [188, 10, 181, 0, 27, 42, 16, 6, 188, 10, 181, 0, 31, 42, 16, 30, 188, 10], [188, 10, 181, 0, 34, 42, 16, 7, 188, 10, 181, 0, 37, 42, 16, 7, 188, 10], [188, 10, 181, 0, 40, 177]]
theorem fW_cX8_init : fq_wins 5 cX8_init.data.toList = fw_cX8_init := by decide +kernel
theorem fk_cX8_init_0 : fq_ck cX8_init 0 [42, 183, 0, 3, 42, 3, 181, 0, 9, 42, 4, 181, 0, 15, 42, 3, 181, 0] := fq_of fW_cX8_init 0 rfl rfl
theorem dX8_init_0 : decode cX8_init 0 = .ok (.aload_n 0, 1) := fq_42 fk_cX8_init_0 0 rfl rfl
theorem dX8_init_1 : decode cX8_init 1 = .ok (.invokespecial 3, 3) := fq_183 fk_cX8_init_0 1 rfl rfl rfl rfl rfl
theorem wd_0 : Cond.methodLink RX8 3 objectInit ∈ BG := BG_in (by decide +kernel) rfl
theorem wd_1 : Cond.instanceMethod objectInit ∈ BG := BG_in (by decide +kernel) rfl
theorem wd_2 : Cond.code objectInit ⟨#[0xb1]⟩ 1 none ∈ BG := BG_in (by decide +kernel) rfl
theorem dX8_init_4 : decode cX8_init 4 = .ok (.aload_n 0, 1) := fq_42 fk_cX8_init_0 4 rfl rfl
theorem dX8_init_5 : decode cX8_init 5 = .ok (.iconst 0, 1) := fq_3 fk_cX8_init_0 5 rfl rfl
theorem iX8_t : ∀ w ∈ wsX80, w ∈ lw_tbl ∧ goodWord w = true := by decide +kernel
theorem iX8 : ∀ w ∈ wsX80, w ∈ BG := fun w h => BG_in (iX8_t w h).1 (iX8_t w h).2
theorem wd_3 : Cond.fieldLink RX8 9 "QuarrelBridges$Town" "bridges" "I" ∈ BG := BG_at1 61 (by decide +kernel) rfl
theorem dX8_init_6 : decode cX8_init 6 = .ok (.putfield 9, 3) := fq_181 fk_cX8_init_0 6 rfl rfl rfl rfl rfl
theorem dX8_init_9 : decode cX8_init 9 = .ok (.aload_n 0, 1) := fq_42 fk_cX8_init_0 9 rfl rfl
theorem dX8_init_10 : decode cX8_init 10 = .ok (.iconst 1, 1) := fq_4 fk_cX8_init_0 10 rfl rfl
theorem wd_4 : Cond.fieldLink RX8 15 "QuarrelBridges$Town" "themes" "I" ∈ BG := BG_at1 65 (by decide +kernel) rfl
theorem dX8_init_11 : decode cX8_init 11 = .ok (.putfield 15, 3) := fq_181 fk_cX8_init_0 11 rfl rfl rfl rfl rfl
theorem dX8_init_14 : decode cX8_init 14 = .ok (.aload_n 0, 1) := fq_42 fk_cX8_init_0 14 rfl rfl
theorem dX8_init_15 : decode cX8_init 15 = .ok (.iconst 0, 1) := fq_3 fk_cX8_init_0 15 rfl rfl
theorem wd_5 : Cond.fieldLink RX8 18 "QuarrelBridges$Town" "couples" "I" ∈ BG := BG_at1 68 (by decide +kernel) rfl
theorem fk_cX8_init_1 : fq_ck cX8_init 16 [181, 0, 18, 42, 3, 181, 0, 21, 42, 3, 181, 0, 24, 42, 16, 6, 188, 10] := fq_of fW_cX8_init 1 rfl rfl
theorem dX8_init_16 : decode cX8_init 16 = .ok (.putfield 18, 3) := fq_181 fk_cX8_init_1 0 rfl rfl rfl rfl rfl
theorem dX8_init_19 : decode cX8_init 19 = .ok (.aload_n 0, 1) := fq_42 fk_cX8_init_1 3 rfl rfl
theorem dX8_init_20 : decode cX8_init 20 = .ok (.iconst 0, 1) := fq_3 fk_cX8_init_1 4 rfl rfl
theorem wd_6 : Cond.fieldLink RX8 21 "QuarrelBridges$Town" "barges" "I" ∈ BG := BG_at1 72 (by decide +kernel) rfl
theorem dX8_init_21 : decode cX8_init 21 = .ok (.putfield 21, 3) := fq_181 fk_cX8_init_1 5 rfl rfl rfl rfl rfl
theorem dX8_init_24 : decode cX8_init 24 = .ok (.aload_n 0, 1) := fq_42 fk_cX8_init_1 8 rfl rfl
theorem dX8_init_25 : decode cX8_init 25 = .ok (.iconst 0, 1) := fq_3 fk_cX8_init_1 9 rfl rfl
theorem wd_7 : Cond.fieldLink RX8 24 "QuarrelBridges$Town" "snow" "I" ∈ BG := BG_at1 76 (by decide +kernel) rfl
theorem dX8_init_26 : decode cX8_init 26 = .ok (.putfield 24, 3) := fq_181 fk_cX8_init_1 10 rfl rfl rfl rfl rfl
theorem dX8_init_29 : decode cX8_init 29 = .ok (.aload_n 0, 1) := fq_42 fk_cX8_init_1 13 rfl rfl
theorem dX8_init_30 : decode cX8_init 30 = .ok (.bipush 6, 2) := fq_16 fk_cX8_init_1 14 rfl rfl rfl rfl
theorem wd_8 : Cond.arrayClass .int ∈ BG := BG_in (by decide +kernel) rfl
theorem fk_cX8_init_2 : fq_ck cX8_init 32 [188, 10, 181, 0, 27, 42, 16, 6, 188, 10, 181, 0, 31, 42, 16, 30, 188, 10] := fq_of fW_cX8_init 2 rfl rfl
theorem dX8_init_32 : decode cX8_init 32 = .ok (.newarray .int, 2) := fq_188_10 fk_cX8_init_2 0 rfl rfl rfl
theorem wd_9 : Cond.fieldLink RX8 27 "QuarrelBridges$Town" "needs" "[I" ∈ BG := BG_at1 79 (by decide +kernel) rfl
theorem dX8_init_34 : decode cX8_init 34 = .ok (.putfield 27, 3) := fq_181 fk_cX8_init_2 2 rfl rfl rfl rfl rfl
theorem dX8_init_37 : decode cX8_init 37 = .ok (.aload_n 0, 1) := fq_42 fk_cX8_init_2 5 rfl rfl
theorem dX8_init_38 : decode cX8_init 38 = .ok (.bipush 6, 2) := fq_16 fk_cX8_init_2 6 rfl rfl rfl rfl
theorem dX8_init_40 : decode cX8_init 40 = .ok (.newarray .int, 2) := fq_188_10 fk_cX8_init_2 8 rfl rfl rfl
theorem wd_10 : Cond.fieldLink RX8 31 "QuarrelBridges$Town" "grievances" "[I" ∈ BG := BG_at1 82 (by decide +kernel) rfl
theorem dX8_init_42 : decode cX8_init 42 = .ok (.putfield 31, 3) := fq_181 fk_cX8_init_2 10 rfl rfl rfl rfl rfl
theorem dX8_init_45 : decode cX8_init 45 = .ok (.aload_n 0, 1) := fq_42 fk_cX8_init_2 13 rfl rfl
theorem dX8_init_46 : decode cX8_init 46 = .ok (.bipush 30, 2) := fq_16 fk_cX8_init_2 14 rfl rfl rfl rfl
theorem fk_cX8_init_3 : fq_ck cX8_init 48 [188, 10, 181, 0, 34, 42, 16, 7, 188, 10, 181, 0, 37, 42, 16, 7, 188, 10] := fq_of fW_cX8_init 3 rfl rfl
theorem dX8_init_48 : decode cX8_init 48 = .ok (.newarray .int, 2) := fq_188_10 fk_cX8_init_3 0 rfl rfl rfl
theorem wd_11 : Cond.fieldLink RX8 34 "QuarrelBridges$Town" "forces" "[I" ∈ BG := BG_at1 86 (by decide +kernel) rfl
theorem dX8_init_50 : decode cX8_init 50 = .ok (.putfield 34, 3) := fq_181 fk_cX8_init_3 2 rfl rfl rfl rfl rfl
theorem dX8_init_53 : decode cX8_init 53 = .ok (.aload_n 0, 1) := fq_42 fk_cX8_init_3 5 rfl rfl
theorem dX8_init_54 : decode cX8_init 54 = .ok (.bipush 7, 2) := fq_16 fk_cX8_init_3 6 rfl rfl rfl rfl
theorem dX8_init_56 : decode cX8_init 56 = .ok (.newarray .int, 2) := fq_188_10 fk_cX8_init_3 8 rfl rfl rfl
theorem wd_12 : Cond.fieldLink RX8 37 "QuarrelBridges$Town" "upTo" "[I" ∈ BG := BG_at1 88 (by decide +kernel) rfl
theorem dX8_init_58 : decode cX8_init 58 = .ok (.putfield 37, 3) := fq_181 fk_cX8_init_3 10 rfl rfl rfl rfl rfl
theorem dX8_init_61 : decode cX8_init 61 = .ok (.aload_n 0, 1) := fq_42 fk_cX8_init_3 13 rfl rfl
theorem dX8_init_62 : decode cX8_init 62 = .ok (.bipush 7, 2) := fq_16 fk_cX8_init_3 14 rfl rfl rfl rfl
theorem fk_cX8_init_4 : fq_ck cX8_init 64 [188, 10, 181, 0, 40, 177] := fq_of fW_cX8_init 4 rfl rfl
theorem dX8_init_64 : decode cX8_init 64 = .ok (.newarray .int, 2) := fq_188_10 fk_cX8_init_4 0 rfl rfl rfl
theorem wd_13 : Cond.fieldLink RX8 40 "QuarrelBridges$Town" "tides" "[I" ∈ BG := BG_at1 92 (by decide +kernel) rfl
theorem dX8_init_66 : decode cX8_init 66 = .ok (.putfield 40, 3) := fq_181 fk_cX8_init_4 2 rfl rfl rfl rfl rfl
theorem dX8_init_69 : decode cX8_init 69 = .ok (.return_, 1) := fq_177 fk_cX8_init_4 5 rfl rfl
def fw_cX7_init : List (List Nat) := [[42, 183, 0, 5, 42, 16, 41, 188, 10, 181, 0, 11, 177]]
theorem fW_cX7_init : fq_wins 1 cX7_init.data.toList = fw_cX7_init := by decide +kernel
theorem fk_cX7_init_0 : fq_ck cX7_init 0 [42, 183, 0, 5, 42, 16, 41, 188, 10, 181, 0, 11, 177] := fq_of fW_cX7_init 0 rfl rfl
theorem dX7_init_0 : decode cX7_init 0 = .ok (.aload_n 0, 1) := fq_42 fk_cX7_init_0 0 rfl rfl
theorem dX7_init_1 : decode cX7_init 1 = .ok (.invokespecial 5, 3) := fq_183 fk_cX7_init_0 1 rfl rfl rfl rfl rfl
theorem wd_14 : Cond.methodLink RX7 5 objectInit ∈ BG := BG_in (by decide +kernel) rfl
theorem dX7_init_4 : decode cX7_init 4 = .ok (.aload_n 0, 1) := fq_42 fk_cX7_init_0 4 rfl rfl
theorem dX7_init_5 : decode cX7_init 5 = .ok (.bipush 41, 2) := fq_16 fk_cX7_init_0 5 rfl rfl rfl rfl
theorem dX7_init_7 : decode cX7_init 7 = .ok (.newarray .int, 2) := fq_188_10 fk_cX7_init_0 7 rfl rfl rfl
theorem iX7_t : ∀ w ∈ wsX70, w ∈ lw_tbl ∧ goodWord w = true := by decide +kernel
theorem iX7 : ∀ w ∈ wsX70, w ∈ BG := fun w h => BG_in (iX7_t w h).1 (iX7_t w h).2
theorem wd_15 : Cond.fieldLink RX7 11 "QuarrelBridges$State" "cells" "[I" ∈ BG := BG_at1 123 (by decide +kernel) rfl
theorem dX7_init_9 : decode cX7_init 9 = .ok (.putfield 11, 3) := fq_181 fk_cX7_init_0 9 rfl rfl rfl rfl rfl
theorem dX7_init_12 : decode cX7_init 12 = .ok (.return_, 1) := fq_177 fk_cX7_init_0 12 rfl rfl
def fw_cX0_init : List (List Nat) := [[42, 183, 0, 3, 42, 3, 181, 0, 9, 42, 16, 15, 188, 10, 181, 0, 15, 42], [15, 42, 16, 15, 188, 10, 181, 0, 19, 177]]
theorem fW_cX0_init : fq_wins 2 cX0_init.data.toList = fw_cX0_init := by decide +kernel
theorem fk_cX0_init_0 : fq_ck cX0_init 0 [42, 183, 0, 3, 42, 3, 181, 0, 9, 42, 16, 15, 188, 10, 181, 0, 15, 42] := fq_of fW_cX0_init 0 rfl rfl
theorem dX0_init_0 : decode cX0_init 0 = .ok (.aload_n 0, 1) := fq_42 fk_cX0_init_0 0 rfl rfl
theorem dX0_init_1 : decode cX0_init 1 = .ok (.invokespecial 3, 3) := fq_183 fk_cX0_init_0 1 rfl rfl rfl rfl rfl
theorem wd_16 : Cond.methodLink RX0 3 objectInit ∈ BG := BG_in (by decide +kernel) rfl
theorem dX0_init_4 : decode cX0_init 4 = .ok (.aload_n 0, 1) := fq_42 fk_cX0_init_0 4 rfl rfl
theorem dX0_init_5 : decode cX0_init 5 = .ok (.iconst 0, 1) := fq_3 fk_cX0_init_0 5 rfl rfl
theorem iX0_t : ∀ w ∈ wsX00, w ∈ lw_tbl ∧ goodWord w = true := by decide +kernel
theorem iX0 : ∀ w ∈ wsX00, w ∈ BG := fun w h => BG_in (iX0_t w h).1 (iX0_t w h).2
theorem wd_17 : Cond.fieldLink RX0 9 "QuarrelBridges$Book" "entries" "I" ∈ BG := BG_at1 169 (by decide +kernel) rfl
theorem dX0_init_6 : decode cX0_init 6 = .ok (.putfield 9, 3) := fq_181 fk_cX0_init_0 6 rfl rfl rfl rfl rfl
theorem dX0_init_9 : decode cX0_init 9 = .ok (.aload_n 0, 1) := fq_42 fk_cX0_init_0 9 rfl rfl
theorem dX0_init_10 : decode cX0_init 10 = .ok (.bipush 15, 2) := fq_16 fk_cX0_init_0 10 rfl rfl rfl rfl
theorem dX0_init_12 : decode cX0_init 12 = .ok (.newarray .int, 2) := fq_188_10 fk_cX0_init_0 12 rfl rfl rfl
theorem wd_18 : Cond.fieldLink RX0 15 "QuarrelBridges$Book" "couples" "[I" ∈ BG := BG_at1 171 (by decide +kernel) rfl
theorem dX0_init_14 : decode cX0_init 14 = .ok (.putfield 15, 3) := fq_181 fk_cX0_init_0 14 rfl rfl rfl rfl rfl
theorem fk_cX0_init_1 : fq_ck cX0_init 16 [15, 42, 16, 15, 188, 10, 181, 0, 19, 177] := fq_of fW_cX0_init 1 rfl rfl
theorem dX0_init_17 : decode cX0_init 17 = .ok (.aload_n 0, 1) := fq_42 fk_cX0_init_1 1 rfl rfl
theorem dX0_init_18 : decode cX0_init 18 = .ok (.bipush 15, 2) := fq_16 fk_cX0_init_1 2 rfl rfl rfl rfl
theorem dX0_init_20 : decode cX0_init 20 = .ok (.newarray .int, 2) := fq_188_10 fk_cX0_init_1 4 rfl rfl rfl
theorem wd_19 : Cond.fieldLink RX0 19 "QuarrelBridges$Book" "grievances" "[I" ∈ BG := BG_at1 172 (by decide +kernel) rfl
theorem dX0_init_22 : decode cX0_init 22 = .ok (.putfield 19, 3) := fq_181 fk_cX0_init_1 6 rfl rfl rfl rfl rfl
theorem dX0_init_25 : decode cX0_init 25 = .ok (.return_, 1) := fq_177 fk_cX0_init_1 9 rfl rfl
def fw_cX4_init : List (List Nat) := [[42, 183, 0, 1, 42, 3, 181, 0, 7, 42, 3, 181, 0, 13, 42, 3, 181, 0], [181, 0, 16, 42, 3, 181, 0, 19, 42, 3, 181, 0, 23, 177]]
theorem fW_cX4_init : fq_wins 2 cX4_init.data.toList = fw_cX4_init := by decide +kernel
theorem fk_cX4_init_0 : fq_ck cX4_init 0 [42, 183, 0, 1, 42, 3, 181, 0, 7, 42, 3, 181, 0, 13, 42, 3, 181, 0] := fq_of fW_cX4_init 0 rfl rfl
theorem dX4_init_0 : decode cX4_init 0 = .ok (.aload_n 0, 1) := fq_42 fk_cX4_init_0 0 rfl rfl
theorem dX4_init_1 : decode cX4_init 1 = .ok (.invokespecial 1, 3) := fq_183 fk_cX4_init_0 1 rfl rfl rfl rfl rfl
theorem wd_20 : Cond.methodLink RX4 1 objectInit ∈ BG := BG_in (by decide +kernel) rfl
theorem dX4_init_4 : decode cX4_init 4 = .ok (.aload_n 0, 1) := fq_42 fk_cX4_init_0 4 rfl rfl
theorem dX4_init_5 : decode cX4_init 5 = .ok (.iconst 0, 1) := fq_3 fk_cX4_init_0 5 rfl rfl
theorem iX4_t : ∀ w ∈ wsX40, w ∈ lw_tbl ∧ goodWord w = true := by decide +kernel
theorem iX4 : ∀ w ∈ wsX40, w ∈ BG := fun w h => BG_in (iX4_t w h).1 (iX4_t w h).2
theorem wd_21 : Cond.fieldLink RX4 7 "QuarrelBridges$Quarrel" "minutes" "I" ∈ BG := BG_at1 186 (by decide +kernel) rfl
theorem dX4_init_6 : decode cX4_init 6 = .ok (.putfield 7, 3) := fq_181 fk_cX4_init_0 6 rfl rfl rfl rfl rfl
theorem dX4_init_9 : decode cX4_init 9 = .ok (.aload_n 0, 1) := fq_42 fk_cX4_init_0 9 rfl rfl
theorem dX4_init_10 : decode cX4_init 10 = .ok (.iconst 0, 1) := fq_3 fk_cX4_init_0 10 rfl rfl
theorem wd_22 : Cond.fieldLink RX4 13 "QuarrelBridges$Quarrel" "cost" "I" ∈ BG := BG_at1 188 (by decide +kernel) rfl
theorem dX4_init_11 : decode cX4_init 11 = .ok (.putfield 13, 3) := fq_181 fk_cX4_init_0 11 rfl rfl rfl rfl rfl
theorem dX4_init_14 : decode cX4_init 14 = .ok (.aload_n 0, 1) := fq_42 fk_cX4_init_0 14 rfl rfl
theorem dX4_init_15 : decode cX4_init 15 = .ok (.iconst 0, 1) := fq_3 fk_cX4_init_0 15 rfl rfl
theorem wd_23 : Cond.fieldLink RX4 16 "QuarrelBridges$Quarrel" "left" "I" ∈ BG := BG_at1 190 (by decide +kernel) rfl
theorem fk_cX4_init_1 : fq_ck cX4_init 16 [181, 0, 16, 42, 3, 181, 0, 19, 42, 3, 181, 0, 23, 177] := fq_of fW_cX4_init 1 rfl rfl
theorem dX4_init_16 : decode cX4_init 16 = .ok (.putfield 16, 3) := fq_181 fk_cX4_init_1 0 rfl rfl rfl rfl rfl
theorem dX4_init_19 : decode cX4_init 19 = .ok (.aload_n 0, 1) := fq_42 fk_cX4_init_1 3 rfl rfl
theorem dX4_init_20 : decode cX4_init 20 = .ok (.iconst 0, 1) := fq_3 fk_cX4_init_1 4 rfl rfl
theorem wd_24 : Cond.fieldLink RX4 19 "QuarrelBridges$Quarrel" "opened" "Z" ∈ BG := BG_at1 192 (by decide +kernel) rfl
theorem dX4_init_21 : decode cX4_init 21 = .ok (.putfield 19, 3) := fq_181 fk_cX4_init_1 5 rfl rfl rfl rfl rfl
theorem dX4_init_24 : decode cX4_init 24 = .ok (.aload_n 0, 1) := fq_42 fk_cX4_init_1 8 rfl rfl
theorem dX4_init_25 : decode cX4_init 25 = .ok (.iconst 0, 1) := fq_3 fk_cX4_init_1 9 rfl rfl
theorem wd_25 : Cond.fieldLink RX4 23 "QuarrelBridges$Quarrel" "reconciled" "Z" ∈ BG := BG_at1 194 (by decide +kernel) rfl
theorem dX4_init_26 : decode cX4_init 26 = .ok (.putfield 23, 3) := fq_181 fk_cX4_init_1 10 rfl rfl rfl rfl rfl
theorem dX4_init_29 : decode cX4_init 29 = .ok (.return_, 1) := fq_177 fk_cX4_init_1 13 rfl rfl
def fw_cX3_init : List (List Nat) := [[42, 183, 0, 3, 42, 16, 36, 188, 10, 181, 0, 9, 42, 16, 64, 188, 10, 181], [10, 181, 0, 15, 42, 16, 64, 188, 10, 181, 0, 18, 177]]
theorem fW_cX3_init : fq_wins 2 cX3_init.data.toList = fw_cX3_init := by decide +kernel
theorem fk_cX3_init_0 : fq_ck cX3_init 0 [42, 183, 0, 3, 42, 16, 36, 188, 10, 181, 0, 9, 42, 16, 64, 188, 10, 181] := fq_of fW_cX3_init 0 rfl rfl
theorem dX3_init_0 : decode cX3_init 0 = .ok (.aload_n 0, 1) := fq_42 fk_cX3_init_0 0 rfl rfl
theorem dX3_init_1 : decode cX3_init 1 = .ok (.invokespecial 3, 3) := fq_183 fk_cX3_init_0 1 rfl rfl rfl rfl rfl
theorem wd_26 : Cond.methodLink RX3 3 objectInit ∈ BG := BG_in (by decide +kernel) rfl
theorem dX3_init_4 : decode cX3_init 4 = .ok (.aload_n 0, 1) := fq_42 fk_cX3_init_0 4 rfl rfl
theorem dX3_init_5 : decode cX3_init 5 = .ok (.bipush 36, 2) := fq_16 fk_cX3_init_0 5 rfl rfl rfl rfl
theorem dX3_init_7 : decode cX3_init 7 = .ok (.newarray .int, 2) := fq_188_10 fk_cX3_init_0 7 rfl rfl rfl
theorem iX3_t : ∀ w ∈ wsX30, w ∈ lw_tbl ∧ goodWord w = true := by decide +kernel
theorem iX3 : ∀ w ∈ wsX30, w ∈ BG := fun w h => BG_in (iX3_t w h).1 (iX3_t w h).2
theorem wd_27 : Cond.fieldLink RX3 9 "QuarrelBridges$Pairing" "asked" "[I" ∈ BG := BG_at1 213 (by decide +kernel) rfl
theorem dX3_init_9 : decode cX3_init 9 = .ok (.putfield 9, 3) := fq_181 fk_cX3_init_0 9 rfl rfl rfl rfl rfl
theorem dX3_init_12 : decode cX3_init 12 = .ok (.aload_n 0, 1) := fq_42 fk_cX3_init_0 12 rfl rfl
theorem dX3_init_13 : decode cX3_init 13 = .ok (.bipush 64, 2) := fq_16 fk_cX3_init_0 13 rfl rfl rfl rfl
theorem dX3_init_15 : decode cX3_init 15 = .ok (.newarray .int, 2) := fq_188_10 fk_cX3_init_0 15 rfl rfl rfl
theorem wd_28 : Cond.fieldLink RX3 15 "QuarrelBridges$Pairing" "least" "[I" ∈ BG := BG_at1 214 (by decide +kernel) rfl
theorem fk_cX3_init_1 : fq_ck cX3_init 16 [10, 181, 0, 15, 42, 16, 64, 188, 10, 181, 0, 18, 177] := fq_of fW_cX3_init 1 rfl rfl
theorem dX3_init_17 : decode cX3_init 17 = .ok (.putfield 15, 3) := fq_181 fk_cX3_init_1 1 rfl rfl rfl rfl rfl
theorem dX3_init_20 : decode cX3_init 20 = .ok (.aload_n 0, 1) := fq_42 fk_cX3_init_1 4 rfl rfl
theorem dX3_init_21 : decode cX3_init 21 = .ok (.bipush 64, 2) := fq_16 fk_cX3_init_1 5 rfl rfl rfl rfl
theorem dX3_init_23 : decode cX3_init 23 = .ok (.newarray .int, 2) := fq_188_10 fk_cX3_init_1 7 rfl rfl rfl
theorem wd_29 : Cond.fieldLink RX3 18 "QuarrelBridges$Pairing" "choice" "[I" ∈ BG := BG_at1 215 (by decide +kernel) rfl
theorem dX3_init_25 : decode cX3_init 25 = .ok (.putfield 18, 3) := fq_181 fk_cX3_init_1 9 rfl rfl rfl rfl rfl
theorem dX3_init_28 : decode cX3_init 28 = .ok (.return_, 1) := fq_177 fk_cX3_init_1 12 rfl rfl
def fw_cX1_init : List (List Nat) := [[42, 183, 0, 3, 42, 3, 181, 0, 9, 42, 16, 7, 188, 10, 181, 0, 15, 42], [15, 42, 16, 6, 188, 10, 181, 0, 19, 42, 16, 48, 188, 10, 181, 0, 22, 42], [22, 42, 17, 0, 128, 188, 10, 181, 0, 25, 42, 17, 0, 128, 188, 10, 181, 0], [181, 0, 28, 42, 17, 0, 128, 188, 10, 181, 0, 31, 42, 3, 181, 0, 34, 42], [34, 42, 3, 181, 0, 37, 42, 1, 181, 0, 40, 177]]
theorem fW_cX1_init : fq_wins 5 cX1_init.data.toList = fw_cX1_init := by decide +kernel
theorem fk_cX1_init_0 : fq_ck cX1_init 0 [42, 183, 0, 3, 42, 3, 181, 0, 9, 42, 16, 7, 188, 10, 181, 0, 15, 42] := fq_of fW_cX1_init 0 rfl rfl
theorem dX1_init_0 : decode cX1_init 0 = .ok (.aload_n 0, 1) := fq_42 fk_cX1_init_0 0 rfl rfl
theorem dX1_init_1 : decode cX1_init 1 = .ok (.invokespecial 3, 3) := fq_183 fk_cX1_init_0 1 rfl rfl rfl rfl rfl
theorem wd_30 : Cond.methodLink RX1 3 objectInit ∈ BG := BG_in (by decide +kernel) rfl
theorem dX1_init_4 : decode cX1_init 4 = .ok (.aload_n 0, 1) := fq_42 fk_cX1_init_0 4 rfl rfl
theorem dX1_init_5 : decode cX1_init 5 = .ok (.iconst 0, 1) := fq_3 fk_cX1_init_0 5 rfl rfl
theorem iX1_t : ∀ w ∈ wsX10, w ∈ lw_tbl ∧ goodWord w = true := by decide +kernel
theorem iX1 : ∀ w ∈ wsX10, w ∈ BG := fun w h => BG_in (iX1_t w h).1 (iX1_t w h).2
theorem wd_31 : Cond.fieldLink RX1 9 "QuarrelBridges$Convoy" "length" "I" ∈ BG := BG_at1 229 (by decide +kernel) rfl
theorem dX1_init_6 : decode cX1_init 6 = .ok (.putfield 9, 3) := fq_181 fk_cX1_init_0 6 rfl rfl rfl rfl rfl
theorem dX1_init_9 : decode cX1_init 9 = .ok (.aload_n 0, 1) := fq_42 fk_cX1_init_0 9 rfl rfl
theorem dX1_init_10 : decode cX1_init 10 = .ok (.bipush 7, 2) := fq_16 fk_cX1_init_0 10 rfl rfl rfl rfl
theorem dX1_init_12 : decode cX1_init 12 = .ok (.newarray .int, 2) := fq_188_10 fk_cX1_init_0 12 rfl rfl rfl
theorem wd_32 : Cond.fieldLink RX1 15 "QuarrelBridges$Convoy" "row" "[I" ∈ BG := BG_at1 231 (by decide +kernel) rfl
theorem dX1_init_14 : decode cX1_init 14 = .ok (.putfield 15, 3) := fq_181 fk_cX1_init_0 14 rfl rfl rfl rfl rfl
theorem fk_cX1_init_1 : fq_ck cX1_init 16 [15, 42, 16, 6, 188, 10, 181, 0, 19, 42, 16, 48, 188, 10, 181, 0, 22, 42] := fq_of fW_cX1_init 1 rfl rfl
theorem dX1_init_17 : decode cX1_init 17 = .ok (.aload_n 0, 1) := fq_42 fk_cX1_init_1 1 rfl rfl
theorem dX1_init_18 : decode cX1_init 18 = .ok (.bipush 6, 2) := fq_16 fk_cX1_init_1 2 rfl rfl rfl rfl
theorem dX1_init_20 : decode cX1_init 20 = .ok (.newarray .int, 2) := fq_188_10 fk_cX1_init_1 4 rfl rfl rfl
theorem wd_33 : Cond.fieldLink RX1 19 "QuarrelBridges$Convoy" "openings" "[I" ∈ BG := BG_at1 233 (by decide +kernel) rfl
theorem dX1_init_22 : decode cX1_init 22 = .ok (.putfield 19, 3) := fq_181 fk_cX1_init_1 6 rfl rfl rfl rfl rfl
theorem dX1_init_25 : decode cX1_init 25 = .ok (.aload_n 0, 1) := fq_42 fk_cX1_init_1 9 rfl rfl
theorem dX1_init_26 : decode cX1_init 26 = .ok (.bipush 48, 2) := fq_16 fk_cX1_init_1 10 rfl rfl rfl rfl
theorem dX1_init_28 : decode cX1_init 28 = .ok (.newarray .int, 2) := fq_188_10 fk_cX1_init_1 12 rfl rfl rfl
theorem wd_34 : Cond.fieldLink RX1 22 "QuarrelBridges$Convoy" "spent" "[I" ∈ BG := BG_at1 234 (by decide +kernel) rfl
theorem dX1_init_30 : decode cX1_init 30 = .ok (.putfield 22, 3) := fq_181 fk_cX1_init_1 14 rfl rfl rfl rfl rfl
theorem fk_cX1_init_2 : fq_ck cX1_init 32 [22, 42, 17, 0, 128, 188, 10, 181, 0, 25, 42, 17, 0, 128, 188, 10, 181, 0] := fq_of fW_cX1_init 2 rfl rfl
theorem dX1_init_33 : decode cX1_init 33 = .ok (.aload_n 0, 1) := fq_42 fk_cX1_init_2 1 rfl rfl
theorem dX1_init_34 : decode cX1_init 34 = .ok (.sipush 128, 3) := fq_17 fk_cX1_init_2 2 rfl rfl rfl rfl rfl
theorem dX1_init_37 : decode cX1_init 37 = .ok (.newarray .int, 2) := fq_188_10 fk_cX1_init_2 5 rfl rfl rfl
theorem wd_35 : Cond.fieldLink RX1 25 "QuarrelBridges$Convoy" "behind" "[I" ∈ BG := BG_at1 235 (by decide +kernel) rfl
theorem dX1_init_39 : decode cX1_init 39 = .ok (.putfield 25, 3) := fq_181 fk_cX1_init_2 7 rfl rfl rfl rfl rfl
theorem dX1_init_42 : decode cX1_init 42 = .ok (.aload_n 0, 1) := fq_42 fk_cX1_init_2 10 rfl rfl
theorem dX1_init_43 : decode cX1_init 43 = .ok (.sipush 128, 3) := fq_17 fk_cX1_init_2 11 rfl rfl rfl rfl rfl
theorem dX1_init_46 : decode cX1_init 46 = .ok (.newarray .int, 2) := fq_188_10 fk_cX1_init_2 14 rfl rfl rfl
theorem wd_36 : Cond.fieldLink RX1 28 "QuarrelBridges$Convoy" "most" "[I" ∈ BG := BG_at1 236 (by decide +kernel) rfl
theorem fk_cX1_init_3 : fq_ck cX1_init 48 [181, 0, 28, 42, 17, 0, 128, 188, 10, 181, 0, 31, 42, 3, 181, 0, 34, 42] := fq_of fW_cX1_init 3 rfl rfl
theorem dX1_init_48 : decode cX1_init 48 = .ok (.putfield 28, 3) := fq_181 fk_cX1_init_3 0 rfl rfl rfl rfl rfl
theorem dX1_init_51 : decode cX1_init 51 = .ok (.aload_n 0, 1) := fq_42 fk_cX1_init_3 3 rfl rfl
theorem dX1_init_52 : decode cX1_init 52 = .ok (.sipush 128, 3) := fq_17 fk_cX1_init_3 4 rfl rfl rfl rfl rfl
theorem dX1_init_55 : decode cX1_init 55 = .ok (.newarray .int, 2) := fq_188_10 fk_cX1_init_3 7 rfl rfl rfl
theorem wd_37 : Cond.fieldLink RX1 31 "QuarrelBridges$Convoy" "choice" "[I" ∈ BG := BG_at1 237 (by decide +kernel) rfl
theorem dX1_init_57 : decode cX1_init 57 = .ok (.putfield 31, 3) := fq_181 fk_cX1_init_3 9 rfl rfl rfl rfl rfl
theorem dX1_init_60 : decode cX1_init 60 = .ok (.aload_n 0, 1) := fq_42 fk_cX1_init_3 12 rfl rfl
theorem dX1_init_61 : decode cX1_init 61 = .ok (.iconst 0, 1) := fq_3 fk_cX1_init_3 13 rfl rfl
theorem wd_38 : Cond.fieldLink RX1 34 "QuarrelBridges$Convoy" "waiting" "I" ∈ BG := BG_at1 238 (by decide +kernel) rfl
theorem dX1_init_62 : decode cX1_init 62 = .ok (.putfield 34, 3) := fq_181 fk_cX1_init_3 14 rfl rfl rfl rfl rfl
theorem fk_cX1_init_4 : fq_ck cX1_init 64 [34, 42, 3, 181, 0, 37, 42, 1, 181, 0, 40, 177] := fq_of fW_cX1_init 4 rfl rfl
theorem dX1_init_65 : decode cX1_init 65 = .ok (.aload_n 0, 1) := fq_42 fk_cX1_init_4 1 rfl rfl
theorem dX1_init_66 : decode cX1_init 66 = .ok (.iconst 0, 1) := fq_3 fk_cX1_init_4 2 rfl rfl
theorem wd_39 : Cond.fieldLink RX1 37 "QuarrelBridges$Convoy" "start" "I" ∈ BG := BG_at1 239 (by decide +kernel) rfl
theorem dX1_init_67 : decode cX1_init 67 = .ok (.putfield 37, 3) := fq_181 fk_cX1_init_4 3 rfl rfl rfl rfl rfl
theorem dX1_init_70 : decode cX1_init 70 = .ok (.aload_n 0, 1) := fq_42 fk_cX1_init_4 6 rfl rfl
theorem dX1_init_71 : decode cX1_init 71 = .ok (.aconst_null, 1) := fq_1 fk_cX1_init_4 7 rfl rfl
theorem wd_40 : Cond.fieldLink RX1 40 "QuarrelBridges$Convoy" "town" "LQuarrelBridges$Town;" ∈ BG := BG_at2 0 (by decide +kernel) rfl
theorem dX1_init_72 : decode cX1_init 72 = .ok (.putfield 40, 3) := fq_181 fk_cX1_init_4 8 rfl rfl rfl rfl rfl
theorem dX1_init_75 : decode cX1_init 75 = .ok (.return_, 1) := fq_177 fk_cX1_init_4 11 rfl rfl
def fw_cX5_init : List (List Nat) := [[42, 183, 0, 3, 42, 3, 181, 0, 9, 42, 2, 181, 0, 15, 42, 3, 188, 10], [188, 10, 181, 0, 18, 42, 3, 181, 0, 22, 42, 3, 181, 0, 25, 42, 3, 181], [3, 181, 0, 28, 42, 3, 181, 0, 32, 177]]
theorem fW_cX5_init : fq_wins 3 cX5_init.data.toList = fw_cX5_init := by decide +kernel
theorem fk_cX5_init_0 : fq_ck cX5_init 0 [42, 183, 0, 3, 42, 3, 181, 0, 9, 42, 2, 181, 0, 15, 42, 3, 188, 10] := fq_of fW_cX5_init 0 rfl rfl
theorem dX5_init_0 : decode cX5_init 0 = .ok (.aload_n 0, 1) := fq_42 fk_cX5_init_0 0 rfl rfl
theorem dX5_init_1 : decode cX5_init 1 = .ok (.invokespecial 3, 3) := fq_183 fk_cX5_init_0 1 rfl rfl rfl rfl rfl
theorem wd_41 : Cond.methodLink RX5 3 objectInit ∈ BG := BG_in (by decide +kernel) rfl
theorem dX5_init_4 : decode cX5_init 4 = .ok (.aload_n 0, 1) := fq_42 fk_cX5_init_0 4 rfl rfl
theorem dX5_init_5 : decode cX5_init 5 = .ok (.iconst 0, 1) := fq_3 fk_cX5_init_0 5 rfl rfl
theorem iX5_t : ∀ w ∈ wsX50, w ∈ lw_tbl ∧ goodWord w = true := by decide +kernel
theorem iX5 : ∀ w ∈ wsX50, w ∈ BG := fun w h => BG_in (iX5_t w h).1 (iX5_t w h).2
theorem wd_42 : Cond.fieldLink RX5 9 "QuarrelBridges$Reader" "fault" "I" ∈ BG := BG_at1 30 (by decide +kernel) rfl
theorem dX5_init_6 : decode cX5_init 6 = .ok (.putfield 9, 3) := fq_181 fk_cX5_init_0 6 rfl rfl rfl rfl rfl
theorem dX5_init_9 : decode cX5_init 9 = .ok (.aload_n 0, 1) := fq_42 fk_cX5_init_0 9 rfl rfl
theorem dX5_init_10 : decode cX5_init 10 = .ok (.iconst (-1), 1) := fq_2 fk_cX5_init_0 10 rfl rfl
theorem wd_43 : Cond.fieldLink RX5 15 "QuarrelBridges$Reader" "faultAt" "I" ∈ BG := BG_at1 32 (by decide +kernel) rfl
theorem dX5_init_11 : decode cX5_init 11 = .ok (.putfield 15, 3) := fq_181 fk_cX5_init_0 11 rfl rfl rfl rfl rfl
theorem dX5_init_14 : decode cX5_init 14 = .ok (.aload_n 0, 1) := fq_42 fk_cX5_init_0 14 rfl rfl
theorem dX5_init_15 : decode cX5_init 15 = .ok (.iconst 0, 1) := fq_3 fk_cX5_init_0 15 rfl rfl
theorem fk_cX5_init_1 : fq_ck cX5_init 16 [188, 10, 181, 0, 18, 42, 3, 181, 0, 22, 42, 3, 181, 0, 25, 42, 3, 181] := fq_of fW_cX5_init 1 rfl rfl
theorem dX5_init_16 : decode cX5_init 16 = .ok (.newarray .int, 2) := fq_188_10 fk_cX5_init_1 0 rfl rfl rfl
theorem wd_44 : Cond.fieldLink RX5 18 "QuarrelBridges$Reader" "text" "[I" ∈ BG := BG_at1 34 (by decide +kernel) rfl
theorem dX5_init_18 : decode cX5_init 18 = .ok (.putfield 18, 3) := fq_181 fk_cX5_init_1 2 rfl rfl rfl rfl rfl
theorem dX5_init_21 : decode cX5_init 21 = .ok (.aload_n 0, 1) := fq_42 fk_cX5_init_1 5 rfl rfl
theorem dX5_init_22 : decode cX5_init 22 = .ok (.iconst 0, 1) := fq_3 fk_cX5_init_1 6 rfl rfl
theorem wd_45 : Cond.fieldLink RX5 22 "QuarrelBridges$Reader" "length" "I" ∈ BG := BG_at1 35 (by decide +kernel) rfl
theorem dX5_init_23 : decode cX5_init 23 = .ok (.putfield 22, 3) := fq_181 fk_cX5_init_1 7 rfl rfl rfl rfl rfl
theorem dX5_init_26 : decode cX5_init 26 = .ok (.aload_n 0, 1) := fq_42 fk_cX5_init_1 10 rfl rfl
theorem dX5_init_27 : decode cX5_init 27 = .ok (.iconst 0, 1) := fq_3 fk_cX5_init_1 11 rfl rfl
theorem wd_46 : Cond.fieldLink RX5 25 "QuarrelBridges$Reader" "place" "I" ∈ BG := BG_at1 36 (by decide +kernel) rfl
theorem dX5_init_28 : decode cX5_init 28 = .ok (.putfield 25, 3) := fq_181 fk_cX5_init_1 12 rfl rfl rfl rfl rfl
theorem dX5_init_31 : decode cX5_init 31 = .ok (.aload_n 0, 1) := fq_42 fk_cX5_init_1 15 rfl rfl
theorem fk_cX5_init_2 : fq_ck cX5_init 32 [3, 181, 0, 28, 42, 3, 181, 0, 32, 177] := fq_of fW_cX5_init 2 rfl rfl
theorem dX5_init_32 : decode cX5_init 32 = .ok (.iconst 0, 1) := fq_3 fk_cX5_init_2 0 rfl rfl
theorem wd_47 : Cond.fieldLink RX5 28 "QuarrelBridges$Reader" "themesTold" "Z" ∈ BG := BG_at1 37 (by decide +kernel) rfl
theorem dX5_init_33 : decode cX5_init 33 = .ok (.putfield 28, 3) := fq_181 fk_cX5_init_2 1 rfl rfl rfl rfl rfl
theorem dX5_init_36 : decode cX5_init 36 = .ok (.aload_n 0, 1) := fq_42 fk_cX5_init_2 4 rfl rfl
theorem dX5_init_37 : decode cX5_init 37 = .ok (.iconst 0, 1) := fq_3 fk_cX5_init_2 5 rfl rfl
theorem wd_48 : Cond.fieldLink RX5 32 "QuarrelBridges$Reader" "snowTold" "Z" ∈ BG := BG_at1 38 (by decide +kernel) rfl
theorem dX5_init_38 : decode cX5_init 38 = .ok (.putfield 32, 3) := fq_181 fk_cX5_init_2 6 rfl rfl rfl rfl rfl
theorem dX5_init_41 : decode cX5_init 41 = .ok (.return_, 1) := fq_177 fk_cX5_init_2 9 rfl rfl
def fw_cX6_init : List (List Nat) := [[42, 183, 0, 1, 42, 3, 27, 184, 0, 7, 181, 0, 13, 42, 42, 180, 0, 13], [0, 13, 16, 41, 104, 188, 10, 181, 0, 21, 177]]
theorem fW_cX6_init : fq_wins 2 cX6_init.data.toList = fw_cX6_init := by decide +kernel
theorem fk_cX6_init_0 : fq_ck cX6_init 0 [42, 183, 0, 1, 42, 3, 27, 184, 0, 7, 181, 0, 13, 42, 42, 180, 0, 13] := fq_of fW_cX6_init 0 rfl rfl
theorem dX6_init_0 : decode cX6_init 0 = .ok (.aload_n 0, 1) := fq_42 fk_cX6_init_0 0 rfl rfl
theorem dX6_init_1 : decode cX6_init 1 = .ok (.invokespecial 1, 3) := fq_183 fk_cX6_init_0 1 rfl rfl rfl rfl rfl
theorem wd_49 : Cond.methodLink RX6 1 objectInit ∈ BG := BG_in (by decide +kernel) rfl
theorem dX6_init_4 : decode cX6_init 4 = .ok (.aload_n 0, 1) := fq_42 fk_cX6_init_0 4 rfl rfl
theorem dX6_init_5 : decode cX6_init 5 = .ok (.iconst 0, 1) := fq_3 fk_cX6_init_0 5 rfl rfl
theorem dX6_init_6 : decode cX6_init 6 = .ok (.iload_n 1, 1) := fq_27 fk_cX6_init_0 6 rfl rfl
theorem dX6_init_7 : decode cX6_init 7 = .ok (.invokestatic 7, 3) := fq_184 fk_cX6_init_0 7 rfl rfl rfl rfl rfl
theorem wd_50 : Cond.methodLink RX6 7 Lib.Math.max.name ∈ BG := BG_in (by decide +kernel) rfl
theorem wd_51 : Cond.static Lib.Math.max.name ∈ BG := BG_in (by decide +kernel) rfl
theorem wd_52 : Cond.initialized "java/lang/Math" ∈ BG := BG_at1 7 (by decide +kernel) rfl
theorem wd_53 : Cond.code Lib.Math.max.name Lib.Math.max.code 2 (some .int) ∈ BG := BG_in (by decide +kernel) rfl
theorem iX6_t : ∀ w ∈ wsX60, w ∈ lw_tbl ∧ goodWord w = true := by decide +kernel
theorem iX6 : ∀ w ∈ wsX60, w ∈ BG := fun w h => BG_in (iX6_t w h).1 (iX6_t w h).2
theorem wd_54 : Cond.fieldLink RX6 13 "QuarrelBridges$Shelf" "slots" "I" ∈ BG := BG_at1 143 (by decide +kernel) rfl
theorem dX6_init_10 : decode cX6_init 10 = .ok (.putfield 13, 3) := fq_181 fk_cX6_init_0 10 rfl rfl rfl rfl rfl
theorem dX6_init_13 : decode cX6_init 13 = .ok (.aload_n 0, 1) := fq_42 fk_cX6_init_0 13 rfl rfl
theorem dX6_init_14 : decode cX6_init 14 = .ok (.aload_n 0, 1) := fq_42 fk_cX6_init_0 14 rfl rfl
theorem dX6_init_15 : decode cX6_init 15 = .ok (.getfield 13, 3) := fq_180 fk_cX6_init_0 15 rfl rfl rfl rfl rfl
theorem fk_cX6_init_1 : fq_ck cX6_init 16 [0, 13, 16, 41, 104, 188, 10, 181, 0, 21, 177] := fq_of fW_cX6_init 1 rfl rfl
theorem dX6_init_18 : decode cX6_init 18 = .ok (.bipush 41, 2) := fq_16 fk_cX6_init_1 2 rfl rfl rfl rfl
theorem dX6_init_20 : decode cX6_init 20 = .ok (.imul, 1) := fq_104 fk_cX6_init_1 4 rfl rfl
theorem dX6_init_21 : decode cX6_init 21 = .ok (.newarray .int, 2) := fq_188_10 fk_cX6_init_1 5 rfl rfl rfl
theorem wd_55 : Cond.fieldLink RX6 21 "QuarrelBridges$Shelf" "cells" "[I" ∈ BG := BG_at1 144 (by decide +kernel) rfl
theorem dX6_init_23 : decode cX6_init 23 = .ok (.putfield 21, 3) := fq_181 fk_cX6_init_1 7 rfl rfl rfl rfl rfl
theorem dX6_init_26 : decode cX6_init 26 = .ok (.return_, 1) := fq_177 fk_cX6_init_1 10 rfl rfl
def fw_cX2_init : List (List Nat) := [[42, 183, 0, 3, 42, 187, 0, 9, 89, 16, 20, 183, 0, 11, 181, 0, 14, 42], [14, 42, 3, 181, 0, 20, 42, 3, 181, 0, 24, 177]]
theorem fW_cX2_init : fq_wins 2 cX2_init.data.toList = fw_cX2_init := by decide +kernel
theorem fk_cX2_init_0 : fq_ck cX2_init 0 [42, 183, 0, 3, 42, 187, 0, 9, 89, 16, 20, 183, 0, 11, 181, 0, 14, 42] := fq_of fW_cX2_init 0 rfl rfl
theorem dX2_init_0 : decode cX2_init 0 = .ok (.aload_n 0, 1) := fq_42 fk_cX2_init_0 0 rfl rfl
theorem dX2_init_1 : decode cX2_init 1 = .ok (.invokespecial 3, 3) := fq_183 fk_cX2_init_0 1 rfl rfl rfl rfl rfl
theorem wd_56 : Cond.methodLink RX2 3 objectInit ∈ BG := BG_in (by decide +kernel) rfl
theorem dX2_init_4 : decode cX2_init 4 = .ok (.aload_n 0, 1) := fq_42 fk_cX2_init_0 4 rfl rfl
theorem wd_57 : Cond.classLink RX2 9 RX6 ∈ BG := BG_at1 134 (by decide +kernel) rfl
theorem wd_58 : Cond.instantiable RX6 2 ∈ BG := BG_at1 135 (by decide +kernel) rfl
theorem wd_59 : Cond.initialized RX6 ∈ BG := BG_at1 6 (by decide +kernel) rfl
theorem dX2_init_5 : decode cX2_init 5 = .ok (.new 9, 3) := fq_187 fk_cX2_init_0 5 rfl rfl rfl rfl rfl
theorem dX2_init_8 : decode cX2_init 8 = .ok (.dup, 1) := fq_89 fk_cX2_init_0 8 rfl rfl
theorem dX2_init_9 : decode cX2_init 9 = .ok (.bipush 20, 2) := fq_16 fk_cX2_init_0 9 rfl rfl rfl rfl
theorem dX2_init_11 : decode cX2_init 11 = .ok (.invokespecial 11, 3) := fq_183 fk_cX2_init_0 11 rfl rfl rfl rfl rfl
theorem wd_60 : Cond.methodLink RX2 11 yX6_init ∈ BG := BG_at1 136 (by decide +kernel) rfl
theorem wd_61 : Cond.code yX6_init cX6_init 2 none ∈ BG := BG_at1 138 rfl rfl
theorem wd_62 : Cond.instanceMethod yX6_init ∈ BG := BG_at1 137 (by decide +kernel) rfl
theorem okI_X6_init : okI yX6_init cX6_init 2 1 := ⟨⟨wd_61, wd_59, by decide +kernel⟩, wd_62, rfl⟩
theorem iX2_t : ∀ w ∈ wsX20, w ∈ lw_tbl ∧ goodWord w = true := by decide +kernel
theorem iX2 : ∀ w ∈ wsX20, w ∈ BG := fun w h => BG_in (iX2_t w h).1 (iX2_t w h).2
theorem wd_63 : Cond.fieldLink RX2 14 "QuarrelBridges$History" "shelf" "LQuarrelBridges$Shelf;" ∈ BG := BG_at1 150 (by decide +kernel) rfl
theorem dX2_init_14 : decode cX2_init 14 = .ok (.putfield 14, 3) := fq_181 fk_cX2_init_0 14 rfl rfl rfl rfl rfl
theorem fk_cX2_init_1 : fq_ck cX2_init 16 [14, 42, 3, 181, 0, 20, 42, 3, 181, 0, 24, 177] := fq_of fW_cX2_init 1 rfl rfl
theorem dX2_init_17 : decode cX2_init 17 = .ok (.aload_n 0, 1) := fq_42 fk_cX2_init_1 1 rfl rfl
theorem dX2_init_18 : decode cX2_init 18 = .ok (.iconst 0, 1) := fq_3 fk_cX2_init_1 2 rfl rfl
theorem wd_64 : Cond.fieldLink RX2 20 "QuarrelBridges$History" "first" "I" ∈ BG := BG_at1 151 (by decide +kernel) rfl
theorem dX2_init_19 : decode cX2_init 19 = .ok (.putfield 20, 3) := fq_181 fk_cX2_init_1 3 rfl rfl rfl rfl rfl
theorem dX2_init_22 : decode cX2_init 22 = .ok (.aload_n 0, 1) := fq_42 fk_cX2_init_1 6 rfl rfl
theorem dX2_init_23 : decode cX2_init 23 = .ok (.iconst 0, 1) := fq_3 fk_cX2_init_1 7 rfl rfl
theorem wd_65 : Cond.fieldLink RX2 24 "QuarrelBridges$History" "count" "I" ∈ BG := BG_at1 152 (by decide +kernel) rfl
theorem dX2_init_24 : decode cX2_init 24 = .ok (.putfield 24, 3) := fq_181 fk_cX2_init_1 8 rfl rfl rfl rfl rfl
theorem dX2_init_27 : decode cX2_init 27 = .ok (.return_, 1) := fq_177 fk_cX2_init_1 11 rfl rfl
def rm_k_town_init : Room := { frames := 1, cells := 5, slots := 56, locals := 16 }
set_option maxHeartbeats 4000000 in
set_option maxRecDepth 100000 in
theorem k_town_init {l : Launch} {D : va_G} {cI cZ : ClassId} {sz : Nat} (h : Nat) : KV l yX8_init cX8_init 1 rm_k_town_init D cI cZ [.ref h] sz [(h, .inr (8, [.int 0, .int 0, .int 0, .int 0, .int 0, .null, .null, .null, .null, .null]))] (fun (_ : Nat × Nat × Nat × Nat × Nat) => True) (fun (u : Nat × Nat × Nat × Nat × Nat) => [(h, .inr (8, [.int 0, .int 1, .int 0, .int 0, .int 0, .ref u.1, .ref u.2.1, .ref u.2.2.1, .ref u.2.2.2.1, .ref u.2.2.2.2])), (u.1, .inl (cI, 6, .inl z0)), (u.2.1, .inl (cI, 6, .inl z0)), (u.2.2.1, .inl (cI, 30, .inl z0)), (u.2.2.2.1, .inl (cI, 7, .inl z0)), (u.2.2.2.2, .inl (cI, 7, .inl z0))]) := by
  refine KV.go rfl (Nat.le_of_ble_eq_true rfl) ?_
  intro p e s m args below meth c ls A Q hx hb hml hts hown hin hP hK hD hS hA hN hl hret
  have hl : lv_has ls 1 [(0, .ref h)] := hl
  refine lv_aload_n hx hb dX8_init_0 rfl (lv_at hl 0 rfl) ?_
  refine W.objInit hx hb hown (hts _ wd_0) (hts _ wd_1) (hts _ wd_2) rfl (by rw [hml]; exact hl.1) rfl dX8_init_1 (Nat.le_of_ble_eq_true rfl) (Nat.le_of_ble_eq_true rfl) ?_
  refine W.eq (g2 := F0 m 4 ls []) rfl ?_
  refine lv_aload_n hx hb dX8_init_4 rfl (lv_at hl 0 rfl) ?_
  refine lv_iconst (v := 0) hx hb dX8_init_5 rfl ?_
  refine va_put (D := D) (ci := 8) (v := .int 0) (ty := .int) (C := RX8) (T := TX8) (N := 10) hx hb hts iX8 tyX8 tyX8_ok nmX8 hown hK hP hD hS 0 rfl rfl 0 (Nat.le_of_ble_eq_true rfl) (hts _ wd_3) (fun _ h9 => h9) rfl (by decide +kernel) rfl rfl (Nat.le_of_ble_eq_true rfl) dX8_init_6 (fun H locs hP hD hS => ?_)
  have hP : va_P D classes [(h, .inr (8, [.int 0, .int 0, .int 0, .int 0, .int 0, .null, .null, .null, .null, .null]))] H := hP
  have hD : va_D A [(h, .inr (8, [.int 0, .int 0, .int 0, .int 0, .int 0, .null, .null, .null, .null, .null]))] := hD
  refine lv_aload_n hx hb dX8_init_9 rfl (lv_at hl 0 rfl) ?_
  refine lv_iconst (v := 1) hx hb dX8_init_10 rfl ?_
  refine va_put (D := D) (ci := 8) (v := .int 1) (ty := .int) (C := RX8) (T := TX8) (N := 10) hx hb hts iX8 tyX8 tyX8_ok nmX8 hown hK hP hD hS 0 rfl rfl 1 (Nat.le_of_ble_eq_true rfl) (hts _ wd_4) (fun _ h9 => h9) rfl (by decide +kernel) rfl rfl (Nat.le_of_ble_eq_true rfl) dX8_init_11 (fun H locs hP hD hS => ?_)
  have hP : va_P D classes [(h, .inr (8, [.int 0, .int 1, .int 0, .int 0, .int 0, .null, .null, .null, .null, .null]))] H := hP
  have hD : va_D A [(h, .inr (8, [.int 0, .int 1, .int 0, .int 0, .int 0, .null, .null, .null, .null, .null]))] := hD
  refine lv_aload_n hx hb dX8_init_14 rfl (lv_at hl 0 rfl) ?_
  refine lv_iconst (v := 0) hx hb dX8_init_15 rfl ?_
  refine va_put (D := D) (ci := 8) (v := .int 0) (ty := .int) (C := RX8) (T := TX8) (N := 10) hx hb hts iX8 tyX8 tyX8_ok nmX8 hown hK hP hD hS 0 rfl rfl 2 (Nat.le_of_ble_eq_true rfl) (hts _ wd_5) (fun _ h9 => h9) rfl (by decide +kernel) rfl rfl (Nat.le_of_ble_eq_true rfl) dX8_init_16 (fun H locs hP hD hS => ?_)
  have hP : va_P D classes [(h, .inr (8, [.int 0, .int 1, .int 0, .int 0, .int 0, .null, .null, .null, .null, .null]))] H := hP
  have hD : va_D A [(h, .inr (8, [.int 0, .int 1, .int 0, .int 0, .int 0, .null, .null, .null, .null, .null]))] := hD
  refine lv_aload_n hx hb dX8_init_19 rfl (lv_at hl 0 rfl) ?_
  refine lv_iconst (v := 0) hx hb dX8_init_20 rfl ?_
  refine va_put (D := D) (ci := 8) (v := .int 0) (ty := .int) (C := RX8) (T := TX8) (N := 10) hx hb hts iX8 tyX8 tyX8_ok nmX8 hown hK hP hD hS 0 rfl rfl 3 (Nat.le_of_ble_eq_true rfl) (hts _ wd_6) (fun _ h9 => h9) rfl (by decide +kernel) rfl rfl (Nat.le_of_ble_eq_true rfl) dX8_init_21 (fun H locs hP hD hS => ?_)
  have hP : va_P D classes [(h, .inr (8, [.int 0, .int 1, .int 0, .int 0, .int 0, .null, .null, .null, .null, .null]))] H := hP
  have hD : va_D A [(h, .inr (8, [.int 0, .int 1, .int 0, .int 0, .int 0, .null, .null, .null, .null, .null]))] := hD
  refine lv_aload_n hx hb dX8_init_24 rfl (lv_at hl 0 rfl) ?_
  refine lv_iconst (v := 0) hx hb dX8_init_25 rfl ?_
  refine va_put (D := D) (ci := 8) (v := .int 0) (ty := .int) (C := RX8) (T := TX8) (N := 10) hx hb hts iX8 tyX8 tyX8_ok nmX8 hown hK hP hD hS 0 rfl rfl 4 (Nat.le_of_ble_eq_true rfl) (hts _ wd_7) (fun _ h9 => h9) rfl (by decide +kernel) rfl rfl (Nat.le_of_ble_eq_true rfl) dX8_init_26 (fun H locs hP hD hS => ?_)
  have hP : va_P D classes [(h, .inr (8, [.int 0, .int 1, .int 0, .int 0, .int 0, .null, .null, .null, .null, .null]))] H := hP
  have hD : va_D A [(h, .inr (8, [.int 0, .int 1, .int 0, .int 0, .int 0, .null, .null, .null, .null, .null]))] := hD
  refine lv_aload_n hx hb dX8_init_29 rfl (lv_at hl 0 rfl) ?_
  refine lv_bipush (v := 6) hx hb dX8_init_30 rfl ?_
  refine va_newa (atype := .int) (a0 := (6, .inl z0)) (N' := 6) (ty := .int) hx hb (hts _ wd_8) rfl hK hP hD hS hA (fun cA => z0_int 6 cA) (by decide +kernel) (by decide +kernel) (by decide +kernel) (Nat.le_of_ble_eq_true rfl) (Nat.le_of_ble_eq_true rfl) dX8_init_32 (fun q_1 cA_q_1 H hKn hP hD hS => ?_)
  obtain rfl := (K_int hKn).symm
  have hP : va_P D classes [(h, .inr (8, [.int 0, .int 1, .int 0, .int 0, .int 0, .null, .null, .null, .null, .null])), (q_1, .inl (cI, 6, .inl z0))] H := hP
  have hD : va_D A [(h, .inr (8, [.int 0, .int 1, .int 0, .int 0, .int 0, .null, .null, .null, .null, .null])), (q_1, .inl (cI, 6, .inl z0))] := hD
  refine W.widen (k := 1) (n := 6) (Nat.le_of_ble_eq_true rfl) (Nat.le_of_ble_eq_true rfl) ?_
  refine va_putF (D := D) (ci := 8) (v := .ref q_1) (ty := (.array .int)) (C := RX8) (T := TX8) (N := 10) hx hb hts iX8 tyX8 tyX8_ok nmX8 hown hK hP hD hS 0 rfl rfl 5 (Nat.le_of_ble_eq_true rfl) (hts _ wd_9) (fun _ h9 => h9) rfl hin rfl (by decide +kernel) rfl rfl (Nat.le_of_ble_eq_true rfl) dX8_init_34 (fun H locs hP hD hS => ?_)
  have hP : va_P D classes [(h, .inr (8, [.int 0, .int 1, .int 0, .int 0, .int 0, .ref q_1, .null, .null, .null, .null])), (q_1, .inl (cI, 6, .inl z0))] H := hP
  have hD : va_D A [(h, .inr (8, [.int 0, .int 1, .int 0, .int 0, .int 0, .ref q_1, .null, .null, .null, .null])), (q_1, .inl (cI, 6, .inl z0))] := hD
  refine lv_aload_n hx hb dX8_init_37 rfl (lv_at hl 0 rfl) ?_
  refine lv_bipush (v := 6) hx hb dX8_init_38 rfl ?_
  refine va_newa (atype := .int) (a0 := (6, .inl z0)) (N' := 6) (ty := .int) hx hb (hts _ wd_8) rfl hK hP hD hS hA (fun cA => z0_int 6 cA) (by decide +kernel) (by decide +kernel) (by decide +kernel) (Nat.le_of_ble_eq_true rfl) (Nat.le_of_ble_eq_true rfl) dX8_init_40 (fun q_2 cA_q_2 H hKn hP hD hS => ?_)
  obtain rfl := (K_int hKn).symm
  have hP : va_P D classes [(h, .inr (8, [.int 0, .int 1, .int 0, .int 0, .int 0, .ref q_1, .null, .null, .null, .null])), (q_1, .inl (cI, 6, .inl z0)), (q_2, .inl (cI, 6, .inl z0))] H := hP
  have hD : va_D A [(h, .inr (8, [.int 0, .int 1, .int 0, .int 0, .int 0, .ref q_1, .null, .null, .null, .null])), (q_1, .inl (cI, 6, .inl z0)), (q_2, .inl (cI, 6, .inl z0))] := hD
  refine W.widen (k := 2) (n := 12) (Nat.le_of_ble_eq_true rfl) (Nat.le_of_ble_eq_true rfl) ?_
  refine va_putF (D := D) (ci := 8) (v := .ref q_2) (ty := (.array .int)) (C := RX8) (T := TX8) (N := 10) hx hb hts iX8 tyX8 tyX8_ok nmX8 hown hK hP hD hS 0 rfl rfl 6 (Nat.le_of_ble_eq_true rfl) (hts _ wd_10) (fun _ h9 => h9) rfl hin rfl (by decide +kernel) rfl rfl (Nat.le_of_ble_eq_true rfl) dX8_init_42 (fun H locs hP hD hS => ?_)
  have hP : va_P D classes [(h, .inr (8, [.int 0, .int 1, .int 0, .int 0, .int 0, .ref q_1, .ref q_2, .null, .null, .null])), (q_1, .inl (cI, 6, .inl z0)), (q_2, .inl (cI, 6, .inl z0))] H := hP
  have hD : va_D A [(h, .inr (8, [.int 0, .int 1, .int 0, .int 0, .int 0, .ref q_1, .ref q_2, .null, .null, .null])), (q_1, .inl (cI, 6, .inl z0)), (q_2, .inl (cI, 6, .inl z0))] := hD
  refine lv_aload_n hx hb dX8_init_45 rfl (lv_at hl 0 rfl) ?_
  refine lv_bipush (v := 30) hx hb dX8_init_46 rfl ?_
  refine va_newa (atype := .int) (a0 := (30, .inl z0)) (N' := 30) (ty := .int) hx hb (hts _ wd_8) rfl hK hP hD hS hA (fun cA => z0_int 30 cA) (by decide +kernel) (by decide +kernel) (by decide +kernel) (Nat.le_of_ble_eq_true rfl) (Nat.le_of_ble_eq_true rfl) dX8_init_48 (fun q_3 cA_q_3 H hKn hP hD hS => ?_)
  obtain rfl := (K_int hKn).symm
  have hP : va_P D classes [(h, .inr (8, [.int 0, .int 1, .int 0, .int 0, .int 0, .ref q_1, .ref q_2, .null, .null, .null])), (q_1, .inl (cI, 6, .inl z0)), (q_2, .inl (cI, 6, .inl z0)), (q_3, .inl (cI, 30, .inl z0))] H := hP
  have hD : va_D A [(h, .inr (8, [.int 0, .int 1, .int 0, .int 0, .int 0, .ref q_1, .ref q_2, .null, .null, .null])), (q_1, .inl (cI, 6, .inl z0)), (q_2, .inl (cI, 6, .inl z0)), (q_3, .inl (cI, 30, .inl z0))] := hD
  refine W.widen (k := 3) (n := 42) (Nat.le_of_ble_eq_true rfl) (Nat.le_of_ble_eq_true rfl) ?_
  refine va_putF (D := D) (ci := 8) (v := .ref q_3) (ty := (.array .int)) (C := RX8) (T := TX8) (N := 10) hx hb hts iX8 tyX8 tyX8_ok nmX8 hown hK hP hD hS 0 rfl rfl 7 (Nat.le_of_ble_eq_true rfl) (hts _ wd_11) (fun _ h9 => h9) rfl hin rfl (by decide +kernel) rfl rfl (Nat.le_of_ble_eq_true rfl) dX8_init_50 (fun H locs hP hD hS => ?_)
  have hP : va_P D classes [(h, .inr (8, [.int 0, .int 1, .int 0, .int 0, .int 0, .ref q_1, .ref q_2, .ref q_3, .null, .null])), (q_1, .inl (cI, 6, .inl z0)), (q_2, .inl (cI, 6, .inl z0)), (q_3, .inl (cI, 30, .inl z0))] H := hP
  have hD : va_D A [(h, .inr (8, [.int 0, .int 1, .int 0, .int 0, .int 0, .ref q_1, .ref q_2, .ref q_3, .null, .null])), (q_1, .inl (cI, 6, .inl z0)), (q_2, .inl (cI, 6, .inl z0)), (q_3, .inl (cI, 30, .inl z0))] := hD
  refine lv_aload_n hx hb dX8_init_53 rfl (lv_at hl 0 rfl) ?_
  refine lv_bipush (v := 7) hx hb dX8_init_54 rfl ?_
  refine va_newa (atype := .int) (a0 := (7, .inl z0)) (N' := 7) (ty := .int) hx hb (hts _ wd_8) rfl hK hP hD hS hA (fun cA => z0_int 7 cA) (by decide +kernel) (by decide +kernel) (by decide +kernel) (Nat.le_of_ble_eq_true rfl) (Nat.le_of_ble_eq_true rfl) dX8_init_56 (fun q_4 cA_q_4 H hKn hP hD hS => ?_)
  obtain rfl := (K_int hKn).symm
  have hP : va_P D classes [(h, .inr (8, [.int 0, .int 1, .int 0, .int 0, .int 0, .ref q_1, .ref q_2, .ref q_3, .null, .null])), (q_1, .inl (cI, 6, .inl z0)), (q_2, .inl (cI, 6, .inl z0)), (q_3, .inl (cI, 30, .inl z0)), (q_4, .inl (cI, 7, .inl z0))] H := hP
  have hD : va_D A [(h, .inr (8, [.int 0, .int 1, .int 0, .int 0, .int 0, .ref q_1, .ref q_2, .ref q_3, .null, .null])), (q_1, .inl (cI, 6, .inl z0)), (q_2, .inl (cI, 6, .inl z0)), (q_3, .inl (cI, 30, .inl z0)), (q_4, .inl (cI, 7, .inl z0))] := hD
  refine W.widen (k := 4) (n := 49) (Nat.le_of_ble_eq_true rfl) (Nat.le_of_ble_eq_true rfl) ?_
  refine va_putF (D := D) (ci := 8) (v := .ref q_4) (ty := (.array .int)) (C := RX8) (T := TX8) (N := 10) hx hb hts iX8 tyX8 tyX8_ok nmX8 hown hK hP hD hS 0 rfl rfl 8 (Nat.le_of_ble_eq_true rfl) (hts _ wd_12) (fun _ h9 => h9) rfl hin rfl (by decide +kernel) rfl rfl (Nat.le_of_ble_eq_true rfl) dX8_init_58 (fun H locs hP hD hS => ?_)
  have hP : va_P D classes [(h, .inr (8, [.int 0, .int 1, .int 0, .int 0, .int 0, .ref q_1, .ref q_2, .ref q_3, .ref q_4, .null])), (q_1, .inl (cI, 6, .inl z0)), (q_2, .inl (cI, 6, .inl z0)), (q_3, .inl (cI, 30, .inl z0)), (q_4, .inl (cI, 7, .inl z0))] H := hP
  have hD : va_D A [(h, .inr (8, [.int 0, .int 1, .int 0, .int 0, .int 0, .ref q_1, .ref q_2, .ref q_3, .ref q_4, .null])), (q_1, .inl (cI, 6, .inl z0)), (q_2, .inl (cI, 6, .inl z0)), (q_3, .inl (cI, 30, .inl z0)), (q_4, .inl (cI, 7, .inl z0))] := hD
  refine lv_aload_n hx hb dX8_init_61 rfl (lv_at hl 0 rfl) ?_
  refine lv_bipush (v := 7) hx hb dX8_init_62 rfl ?_
  refine va_newa (atype := .int) (a0 := (7, .inl z0)) (N' := 7) (ty := .int) hx hb (hts _ wd_8) rfl hK hP hD hS hA (fun cA => z0_int 7 cA) (by decide +kernel) (by decide +kernel) (by decide +kernel) (Nat.le_of_ble_eq_true rfl) (Nat.le_of_ble_eq_true rfl) dX8_init_64 (fun q_5 cA_q_5 H hKn hP hD hS => ?_)
  obtain rfl := (K_int hKn).symm
  have hP : va_P D classes [(h, .inr (8, [.int 0, .int 1, .int 0, .int 0, .int 0, .ref q_1, .ref q_2, .ref q_3, .ref q_4, .null])), (q_1, .inl (cI, 6, .inl z0)), (q_2, .inl (cI, 6, .inl z0)), (q_3, .inl (cI, 30, .inl z0)), (q_4, .inl (cI, 7, .inl z0)), (q_5, .inl (cI, 7, .inl z0))] H := hP
  have hD : va_D A [(h, .inr (8, [.int 0, .int 1, .int 0, .int 0, .int 0, .ref q_1, .ref q_2, .ref q_3, .ref q_4, .null])), (q_1, .inl (cI, 6, .inl z0)), (q_2, .inl (cI, 6, .inl z0)), (q_3, .inl (cI, 30, .inl z0)), (q_4, .inl (cI, 7, .inl z0)), (q_5, .inl (cI, 7, .inl z0))] := hD
  refine W.widen (k := 5) (n := 56) (Nat.le_of_ble_eq_true rfl) (Nat.le_of_ble_eq_true rfl) ?_
  refine va_putF (D := D) (ci := 8) (v := .ref q_5) (ty := (.array .int)) (C := RX8) (T := TX8) (N := 10) hx hb hts iX8 tyX8 tyX8_ok nmX8 hown hK hP hD hS 0 rfl rfl 9 (Nat.le_of_ble_eq_true rfl) (hts _ wd_13) (fun _ h9 => h9) rfl hin rfl (by decide +kernel) rfl rfl (Nat.le_of_ble_eq_true rfl) dX8_init_66 (fun H locs hP hD hS => ?_)
  have hP : va_P D classes [(h, .inr (8, [.int 0, .int 1, .int 0, .int 0, .int 0, .ref q_1, .ref q_2, .ref q_3, .ref q_4, .ref q_5])), (q_1, .inl (cI, 6, .inl z0)), (q_2, .inl (cI, 6, .inl z0)), (q_3, .inl (cI, 30, .inl z0)), (q_4, .inl (cI, 7, .inl z0)), (q_5, .inl (cI, 7, .inl z0))] H := hP
  have hD : va_D A [(h, .inr (8, [.int 0, .int 1, .int 0, .int 0, .int 0, .ref q_1, .ref q_2, .ref q_3, .ref q_4, .ref q_5])), (q_1, .inl (cI, 6, .inl z0)), (q_2, .inl (cI, 6, .inl z0)), (q_3, .inl (cI, 30, .inl z0)), (q_4, .inl (cI, 7, .inl z0)), (q_5, .inl (cI, 7, .inl z0))] := hD
  refine W.widen (k := rm_k_town_init.cells) (n := rm_k_town_init.slots) (Nat.le_of_ble_eq_true rfl) (Nat.le_of_ble_eq_true rfl) ?_
  exact hret ⟨q_1, q_2, q_3, q_4, q_5⟩ _ _ _ _ dX8_init_69 trivial hP hD hS
def rm_k_state_init : Room := { frames := 1, cells := 1, slots := 41, locals := 16 }
set_option maxHeartbeats 4000000 in
set_option maxRecDepth 100000 in
theorem k_state_init {l : Launch} {D : va_G} {cI cZ : ClassId} {sz : Nat} (h : Nat) : KV l yX7_init cX7_init 1 rm_k_state_init D cI cZ [.ref h] sz [(h, .inr (7, [.null]))] (fun (_ : Nat) => True) (fun (u : Nat) => [(h, .inr (7, [.ref u])), (u, .inl (cI, 41, .inl z0))]) := by
  refine KV.go rfl (Nat.le_of_ble_eq_true rfl) ?_
  intro p e s m args below meth c ls A Q hx hb hml hts hown hin hP hK hD hS hA hN hl hret
  have hl : lv_has ls 1 [(0, .ref h)] := hl
  refine lv_aload_n hx hb dX7_init_0 rfl (lv_at hl 0 rfl) ?_
  refine W.objInit hx hb hown (hts _ wd_14) (hts _ wd_1) (hts _ wd_2) rfl (by rw [hml]; exact hl.1) rfl dX7_init_1 (Nat.le_of_ble_eq_true rfl) (Nat.le_of_ble_eq_true rfl) ?_
  refine W.eq (g2 := F0 m 4 ls []) rfl ?_
  refine lv_aload_n hx hb dX7_init_4 rfl (lv_at hl 0 rfl) ?_
  refine lv_bipush (v := 41) hx hb dX7_init_5 rfl ?_
  refine va_newa (atype := .int) (a0 := (41, .inl z0)) (N' := 41) (ty := .int) hx hb (hts _ wd_8) rfl hK hP hD hS hA (fun cA => z0_int 41 cA) (by decide +kernel) (by decide +kernel) (by decide +kernel) (Nat.le_of_ble_eq_true rfl) (Nat.le_of_ble_eq_true rfl) dX7_init_7 (fun q_1 cA_q_1 H hKn hP hD hS => ?_)
  obtain rfl := (K_int hKn).symm
  have hP : va_P D classes [(h, .inr (7, [.null])), (q_1, .inl (cI, 41, .inl z0))] H := hP
  have hD : va_D A [(h, .inr (7, [.null])), (q_1, .inl (cI, 41, .inl z0))] := hD
  refine W.widen (k := 1) (n := 41) (Nat.le_of_ble_eq_true rfl) (Nat.le_of_ble_eq_true rfl) ?_
  refine va_putF (D := D) (ci := 7) (v := .ref q_1) (ty := (.array .int)) (C := RX7) (T := TX7) (N := 1) hx hb hts iX7 tyX7 tyX7_ok nmX7 hown hK hP hD hS 0 rfl rfl 0 (Nat.le_of_ble_eq_true rfl) (hts _ wd_15) (fun _ h9 => h9) rfl hin rfl (by decide +kernel) rfl rfl (Nat.le_of_ble_eq_true rfl) dX7_init_9 (fun H locs hP hD hS => ?_)
  have hP : va_P D classes [(h, .inr (7, [.ref q_1])), (q_1, .inl (cI, 41, .inl z0))] H := hP
  have hD : va_D A [(h, .inr (7, [.ref q_1])), (q_1, .inl (cI, 41, .inl z0))] := hD
  refine W.widen (k := rm_k_state_init.cells) (n := rm_k_state_init.slots) (Nat.le_of_ble_eq_true rfl) (Nat.le_of_ble_eq_true rfl) ?_
  exact hret q_1 _ _ _ _ dX7_init_12 trivial hP hD hS
def rm_k_book_init : Room := { frames := 1, cells := 2, slots := 30, locals := 16 }
set_option maxHeartbeats 4000000 in
set_option maxRecDepth 100000 in
theorem k_book_init {l : Launch} {D : va_G} {cI cZ : ClassId} {sz : Nat} (h : Nat) : KV l yX0_init cX0_init 1 rm_k_book_init D cI cZ [.ref h] sz [(h, .inr (0, [.int 0, .null, .null]))] (fun (_ : Nat × Nat) => True) (fun (u : Nat × Nat) => [(h, .inr (0, [.int 0, .ref u.1, .ref u.2])), (u.1, .inl (cI, 15, .inl z0)), (u.2, .inl (cI, 15, .inl z0))]) := by
  refine KV.go rfl (Nat.le_of_ble_eq_true rfl) ?_
  intro p e s m args below meth c ls A Q hx hb hml hts hown hin hP hK hD hS hA hN hl hret
  have hl : lv_has ls 1 [(0, .ref h)] := hl
  refine lv_aload_n hx hb dX0_init_0 rfl (lv_at hl 0 rfl) ?_
  refine W.objInit hx hb hown (hts _ wd_16) (hts _ wd_1) (hts _ wd_2) rfl (by rw [hml]; exact hl.1) rfl dX0_init_1 (Nat.le_of_ble_eq_true rfl) (Nat.le_of_ble_eq_true rfl) ?_
  refine W.eq (g2 := F0 m 4 ls []) rfl ?_
  refine lv_aload_n hx hb dX0_init_4 rfl (lv_at hl 0 rfl) ?_
  refine lv_iconst (v := 0) hx hb dX0_init_5 rfl ?_
  refine va_put (D := D) (ci := 0) (v := .int 0) (ty := .int) (C := RX0) (T := TX0) (N := 3) hx hb hts iX0 tyX0 tyX0_ok nmX0 hown hK hP hD hS 0 rfl rfl 0 (Nat.le_of_ble_eq_true rfl) (hts _ wd_17) (fun _ h9 => h9) rfl (by decide +kernel) rfl rfl (Nat.le_of_ble_eq_true rfl) dX0_init_6 (fun H locs hP hD hS => ?_)
  have hP : va_P D classes [(h, .inr (0, [.int 0, .null, .null]))] H := hP
  have hD : va_D A [(h, .inr (0, [.int 0, .null, .null]))] := hD
  refine lv_aload_n hx hb dX0_init_9 rfl (lv_at hl 0 rfl) ?_
  refine lv_bipush (v := 15) hx hb dX0_init_10 rfl ?_
  refine va_newa (atype := .int) (a0 := (15, .inl z0)) (N' := 15) (ty := .int) hx hb (hts _ wd_8) rfl hK hP hD hS hA (fun cA => z0_int 15 cA) (by decide +kernel) (by decide +kernel) (by decide +kernel) (Nat.le_of_ble_eq_true rfl) (Nat.le_of_ble_eq_true rfl) dX0_init_12 (fun q_1 cA_q_1 H hKn hP hD hS => ?_)
  obtain rfl := (K_int hKn).symm
  have hP : va_P D classes [(h, .inr (0, [.int 0, .null, .null])), (q_1, .inl (cI, 15, .inl z0))] H := hP
  have hD : va_D A [(h, .inr (0, [.int 0, .null, .null])), (q_1, .inl (cI, 15, .inl z0))] := hD
  refine W.widen (k := 1) (n := 15) (Nat.le_of_ble_eq_true rfl) (Nat.le_of_ble_eq_true rfl) ?_
  refine va_putF (D := D) (ci := 0) (v := .ref q_1) (ty := (.array .int)) (C := RX0) (T := TX0) (N := 3) hx hb hts iX0 tyX0 tyX0_ok nmX0 hown hK hP hD hS 0 rfl rfl 1 (Nat.le_of_ble_eq_true rfl) (hts _ wd_18) (fun _ h9 => h9) rfl hin rfl (by decide +kernel) rfl rfl (Nat.le_of_ble_eq_true rfl) dX0_init_14 (fun H locs hP hD hS => ?_)
  have hP : va_P D classes [(h, .inr (0, [.int 0, .ref q_1, .null])), (q_1, .inl (cI, 15, .inl z0))] H := hP
  have hD : va_D A [(h, .inr (0, [.int 0, .ref q_1, .null])), (q_1, .inl (cI, 15, .inl z0))] := hD
  refine lv_aload_n hx hb dX0_init_17 rfl (lv_at hl 0 rfl) ?_
  refine lv_bipush (v := 15) hx hb dX0_init_18 rfl ?_
  refine va_newa (atype := .int) (a0 := (15, .inl z0)) (N' := 15) (ty := .int) hx hb (hts _ wd_8) rfl hK hP hD hS hA (fun cA => z0_int 15 cA) (by decide +kernel) (by decide +kernel) (by decide +kernel) (Nat.le_of_ble_eq_true rfl) (Nat.le_of_ble_eq_true rfl) dX0_init_20 (fun q_2 cA_q_2 H hKn hP hD hS => ?_)
  obtain rfl := (K_int hKn).symm
  have hP : va_P D classes [(h, .inr (0, [.int 0, .ref q_1, .null])), (q_1, .inl (cI, 15, .inl z0)), (q_2, .inl (cI, 15, .inl z0))] H := hP
  have hD : va_D A [(h, .inr (0, [.int 0, .ref q_1, .null])), (q_1, .inl (cI, 15, .inl z0)), (q_2, .inl (cI, 15, .inl z0))] := hD
  refine W.widen (k := 2) (n := 30) (Nat.le_of_ble_eq_true rfl) (Nat.le_of_ble_eq_true rfl) ?_
  refine va_putF (D := D) (ci := 0) (v := .ref q_2) (ty := (.array .int)) (C := RX0) (T := TX0) (N := 3) hx hb hts iX0 tyX0 tyX0_ok nmX0 hown hK hP hD hS 0 rfl rfl 2 (Nat.le_of_ble_eq_true rfl) (hts _ wd_19) (fun _ h9 => h9) rfl hin rfl (by decide +kernel) rfl rfl (Nat.le_of_ble_eq_true rfl) dX0_init_22 (fun H locs hP hD hS => ?_)
  have hP : va_P D classes [(h, .inr (0, [.int 0, .ref q_1, .ref q_2])), (q_1, .inl (cI, 15, .inl z0)), (q_2, .inl (cI, 15, .inl z0))] H := hP
  have hD : va_D A [(h, .inr (0, [.int 0, .ref q_1, .ref q_2])), (q_1, .inl (cI, 15, .inl z0)), (q_2, .inl (cI, 15, .inl z0))] := hD
  refine W.widen (k := rm_k_book_init.cells) (n := rm_k_book_init.slots) (Nat.le_of_ble_eq_true rfl) (Nat.le_of_ble_eq_true rfl) ?_
  exact hret ⟨q_1, q_2⟩ _ _ _ _ dX0_init_25 trivial hP hD hS
def rm_k_quarrel_init : Room := { frames := 1, cells := 0, slots := 0, locals := 16 }
set_option maxHeartbeats 4000000 in
set_option maxRecDepth 100000 in
theorem k_quarrel_init {l : Launch} {D : va_G} {cI cZ : ClassId} {sz : Nat} (h : Nat) : KV l yX4_init cX4_init 1 rm_k_quarrel_init D cI cZ [.ref h] sz [(h, .inr (4, [.int 0, .int 0, .int 0, .int 0, .int 0]))] (fun (_ : Unit) => True) (fun (_ : Unit) => [(h, .inr (4, [.int 0, .int 0, .int 0, .int 0, .int 0]))]) := by
  refine KV.go rfl (Nat.le_of_ble_eq_true rfl) ?_
  intro p e s m args below meth c ls A Q hx hb hml hts hown hin hP hK hD hS hA hN hl hret
  have hl : lv_has ls 1 [(0, .ref h)] := hl
  refine lv_aload_n hx hb dX4_init_0 rfl (lv_at hl 0 rfl) ?_
  refine W.objInit hx hb hown (hts _ wd_20) (hts _ wd_1) (hts _ wd_2) rfl (by rw [hml]; exact hl.1) rfl dX4_init_1 (Nat.le_of_ble_eq_true rfl) (Nat.le_of_ble_eq_true rfl) ?_
  refine W.eq (g2 := F0 m 4 ls []) rfl ?_
  refine lv_aload_n hx hb dX4_init_4 rfl (lv_at hl 0 rfl) ?_
  refine lv_iconst (v := 0) hx hb dX4_init_5 rfl ?_
  refine va_put (D := D) (ci := 4) (v := .int 0) (ty := .int) (C := RX4) (T := TX4) (N := 5) hx hb hts iX4 tyX4 tyX4_ok nmX4 hown hK hP hD hS 0 rfl rfl 0 (Nat.le_of_ble_eq_true rfl) (hts _ wd_21) (fun _ h9 => h9) rfl (by decide +kernel) rfl rfl (Nat.le_of_ble_eq_true rfl) dX4_init_6 (fun H locs hP hD hS => ?_)
  have hP : va_P D classes [(h, .inr (4, [.int 0, .int 0, .int 0, .int 0, .int 0]))] H := hP
  have hD : va_D A [(h, .inr (4, [.int 0, .int 0, .int 0, .int 0, .int 0]))] := hD
  refine lv_aload_n hx hb dX4_init_9 rfl (lv_at hl 0 rfl) ?_
  refine lv_iconst (v := 0) hx hb dX4_init_10 rfl ?_
  refine va_put (D := D) (ci := 4) (v := .int 0) (ty := .int) (C := RX4) (T := TX4) (N := 5) hx hb hts iX4 tyX4 tyX4_ok nmX4 hown hK hP hD hS 0 rfl rfl 1 (Nat.le_of_ble_eq_true rfl) (hts _ wd_22) (fun _ h9 => h9) rfl (by decide +kernel) rfl rfl (Nat.le_of_ble_eq_true rfl) dX4_init_11 (fun H locs hP hD hS => ?_)
  have hP : va_P D classes [(h, .inr (4, [.int 0, .int 0, .int 0, .int 0, .int 0]))] H := hP
  have hD : va_D A [(h, .inr (4, [.int 0, .int 0, .int 0, .int 0, .int 0]))] := hD
  refine lv_aload_n hx hb dX4_init_14 rfl (lv_at hl 0 rfl) ?_
  refine lv_iconst (v := 0) hx hb dX4_init_15 rfl ?_
  refine va_put (D := D) (ci := 4) (v := .int 0) (ty := .int) (C := RX4) (T := TX4) (N := 5) hx hb hts iX4 tyX4 tyX4_ok nmX4 hown hK hP hD hS 0 rfl rfl 2 (Nat.le_of_ble_eq_true rfl) (hts _ wd_23) (fun _ h9 => h9) rfl (by decide +kernel) rfl rfl (Nat.le_of_ble_eq_true rfl) dX4_init_16 (fun H locs hP hD hS => ?_)
  have hP : va_P D classes [(h, .inr (4, [.int 0, .int 0, .int 0, .int 0, .int 0]))] H := hP
  have hD : va_D A [(h, .inr (4, [.int 0, .int 0, .int 0, .int 0, .int 0]))] := hD
  refine lv_aload_n hx hb dX4_init_19 rfl (lv_at hl 0 rfl) ?_
  refine lv_iconst (v := 0) hx hb dX4_init_20 rfl ?_
  refine va_put (D := D) (ci := 4) (v := .int 0) (ty := .boolean) (C := RX4) (T := TX4) (N := 5) hx hb hts iX4 tyX4 tyX4_ok nmX4 hown hK hP hD hS 0 rfl rfl 3 (Nat.le_of_ble_eq_true rfl) (hts _ wd_24) (fun _ h9 => h9) rfl (by decide +kernel) rfl rfl (Nat.le_of_ble_eq_true rfl) dX4_init_21 (fun H locs hP hD hS => ?_)
  have hP : va_P D classes [(h, .inr (4, [.int 0, .int 0, .int 0, .int 0, .int 0]))] H := hP
  have hD : va_D A [(h, .inr (4, [.int 0, .int 0, .int 0, .int 0, .int 0]))] := hD
  refine lv_aload_n hx hb dX4_init_24 rfl (lv_at hl 0 rfl) ?_
  refine lv_iconst (v := 0) hx hb dX4_init_25 rfl ?_
  refine va_put (D := D) (ci := 4) (v := .int 0) (ty := .boolean) (C := RX4) (T := TX4) (N := 5) hx hb hts iX4 tyX4 tyX4_ok nmX4 hown hK hP hD hS 0 rfl rfl 4 (Nat.le_of_ble_eq_true rfl) (hts _ wd_25) (fun _ h9 => h9) rfl (by decide +kernel) rfl rfl (Nat.le_of_ble_eq_true rfl) dX4_init_26 (fun H locs hP hD hS => ?_)
  have hP : va_P D classes [(h, .inr (4, [.int 0, .int 0, .int 0, .int 0, .int 0]))] H := hP
  have hD : va_D A [(h, .inr (4, [.int 0, .int 0, .int 0, .int 0, .int 0]))] := hD
  exact hret () _ _ _ _ dX4_init_29 trivial hP hD hS
def rm_k_pairing_init : Room := { frames := 1, cells := 3, slots := 164, locals := 16 }
set_option maxHeartbeats 4000000 in
set_option maxRecDepth 100000 in
theorem k_pairing_init {l : Launch} {D : va_G} {cI cZ : ClassId} {sz : Nat} (h : Nat) : KV l yX3_init cX3_init 1 rm_k_pairing_init D cI cZ [.ref h] sz [(h, .inr (3, [.null, .null, .null]))] (fun (_ : Nat × Nat × Nat) => True) (fun (u : Nat × Nat × Nat) => [(h, .inr (3, [.ref u.1, .ref u.2.1, .ref u.2.2])), (u.1, .inl (cI, 36, .inl z0)), (u.2.1, .inl (cI, 64, .inl z0)), (u.2.2, .inl (cI, 64, .inl z0))]) := by
  refine KV.go rfl (Nat.le_of_ble_eq_true rfl) ?_
  intro p e s m args below meth c ls A Q hx hb hml hts hown hin hP hK hD hS hA hN hl hret
  have hl : lv_has ls 1 [(0, .ref h)] := hl
  refine lv_aload_n hx hb dX3_init_0 rfl (lv_at hl 0 rfl) ?_
  refine W.objInit hx hb hown (hts _ wd_26) (hts _ wd_1) (hts _ wd_2) rfl (by rw [hml]; exact hl.1) rfl dX3_init_1 (Nat.le_of_ble_eq_true rfl) (Nat.le_of_ble_eq_true rfl) ?_
  refine W.eq (g2 := F0 m 4 ls []) rfl ?_
  refine lv_aload_n hx hb dX3_init_4 rfl (lv_at hl 0 rfl) ?_
  refine lv_bipush (v := 36) hx hb dX3_init_5 rfl ?_
  refine va_newa (atype := .int) (a0 := (36, .inl z0)) (N' := 36) (ty := .int) hx hb (hts _ wd_8) rfl hK hP hD hS hA (fun cA => z0_int 36 cA) (by decide +kernel) (by decide +kernel) (by decide +kernel) (Nat.le_of_ble_eq_true rfl) (Nat.le_of_ble_eq_true rfl) dX3_init_7 (fun q_1 cA_q_1 H hKn hP hD hS => ?_)
  obtain rfl := (K_int hKn).symm
  have hP : va_P D classes [(h, .inr (3, [.null, .null, .null])), (q_1, .inl (cI, 36, .inl z0))] H := hP
  have hD : va_D A [(h, .inr (3, [.null, .null, .null])), (q_1, .inl (cI, 36, .inl z0))] := hD
  refine W.widen (k := 1) (n := 36) (Nat.le_of_ble_eq_true rfl) (Nat.le_of_ble_eq_true rfl) ?_
  refine va_putF (D := D) (ci := 3) (v := .ref q_1) (ty := (.array .int)) (C := RX3) (T := TX3) (N := 3) hx hb hts iX3 tyX3 tyX3_ok nmX3 hown hK hP hD hS 0 rfl rfl 0 (Nat.le_of_ble_eq_true rfl) (hts _ wd_27) (fun _ h9 => h9) rfl hin rfl (by decide +kernel) rfl rfl (Nat.le_of_ble_eq_true rfl) dX3_init_9 (fun H locs hP hD hS => ?_)
  have hP : va_P D classes [(h, .inr (3, [.ref q_1, .null, .null])), (q_1, .inl (cI, 36, .inl z0))] H := hP
  have hD : va_D A [(h, .inr (3, [.ref q_1, .null, .null])), (q_1, .inl (cI, 36, .inl z0))] := hD
  refine lv_aload_n hx hb dX3_init_12 rfl (lv_at hl 0 rfl) ?_
  refine lv_bipush (v := 64) hx hb dX3_init_13 rfl ?_
  refine va_newa (atype := .int) (a0 := (64, .inl z0)) (N' := 64) (ty := .int) hx hb (hts _ wd_8) rfl hK hP hD hS hA (fun cA => z0_int 64 cA) (by decide +kernel) (by decide +kernel) (by decide +kernel) (Nat.le_of_ble_eq_true rfl) (Nat.le_of_ble_eq_true rfl) dX3_init_15 (fun q_2 cA_q_2 H hKn hP hD hS => ?_)
  obtain rfl := (K_int hKn).symm
  have hP : va_P D classes [(h, .inr (3, [.ref q_1, .null, .null])), (q_1, .inl (cI, 36, .inl z0)), (q_2, .inl (cI, 64, .inl z0))] H := hP
  have hD : va_D A [(h, .inr (3, [.ref q_1, .null, .null])), (q_1, .inl (cI, 36, .inl z0)), (q_2, .inl (cI, 64, .inl z0))] := hD
  refine W.widen (k := 2) (n := 100) (Nat.le_of_ble_eq_true rfl) (Nat.le_of_ble_eq_true rfl) ?_
  refine va_putF (D := D) (ci := 3) (v := .ref q_2) (ty := (.array .int)) (C := RX3) (T := TX3) (N := 3) hx hb hts iX3 tyX3 tyX3_ok nmX3 hown hK hP hD hS 0 rfl rfl 1 (Nat.le_of_ble_eq_true rfl) (hts _ wd_28) (fun _ h9 => h9) rfl hin rfl (by decide +kernel) rfl rfl (Nat.le_of_ble_eq_true rfl) dX3_init_17 (fun H locs hP hD hS => ?_)
  have hP : va_P D classes [(h, .inr (3, [.ref q_1, .ref q_2, .null])), (q_1, .inl (cI, 36, .inl z0)), (q_2, .inl (cI, 64, .inl z0))] H := hP
  have hD : va_D A [(h, .inr (3, [.ref q_1, .ref q_2, .null])), (q_1, .inl (cI, 36, .inl z0)), (q_2, .inl (cI, 64, .inl z0))] := hD
  refine lv_aload_n hx hb dX3_init_20 rfl (lv_at hl 0 rfl) ?_
  refine lv_bipush (v := 64) hx hb dX3_init_21 rfl ?_
  refine va_newa (atype := .int) (a0 := (64, .inl z0)) (N' := 64) (ty := .int) hx hb (hts _ wd_8) rfl hK hP hD hS hA (fun cA => z0_int 64 cA) (by decide +kernel) (by decide +kernel) (by decide +kernel) (Nat.le_of_ble_eq_true rfl) (Nat.le_of_ble_eq_true rfl) dX3_init_23 (fun q_3 cA_q_3 H hKn hP hD hS => ?_)
  obtain rfl := (K_int hKn).symm
  have hP : va_P D classes [(h, .inr (3, [.ref q_1, .ref q_2, .null])), (q_1, .inl (cI, 36, .inl z0)), (q_2, .inl (cI, 64, .inl z0)), (q_3, .inl (cI, 64, .inl z0))] H := hP
  have hD : va_D A [(h, .inr (3, [.ref q_1, .ref q_2, .null])), (q_1, .inl (cI, 36, .inl z0)), (q_2, .inl (cI, 64, .inl z0)), (q_3, .inl (cI, 64, .inl z0))] := hD
  refine W.widen (k := 3) (n := 164) (Nat.le_of_ble_eq_true rfl) (Nat.le_of_ble_eq_true rfl) ?_
  refine va_putF (D := D) (ci := 3) (v := .ref q_3) (ty := (.array .int)) (C := RX3) (T := TX3) (N := 3) hx hb hts iX3 tyX3 tyX3_ok nmX3 hown hK hP hD hS 0 rfl rfl 2 (Nat.le_of_ble_eq_true rfl) (hts _ wd_29) (fun _ h9 => h9) rfl hin rfl (by decide +kernel) rfl rfl (Nat.le_of_ble_eq_true rfl) dX3_init_25 (fun H locs hP hD hS => ?_)
  have hP : va_P D classes [(h, .inr (3, [.ref q_1, .ref q_2, .ref q_3])), (q_1, .inl (cI, 36, .inl z0)), (q_2, .inl (cI, 64, .inl z0)), (q_3, .inl (cI, 64, .inl z0))] H := hP
  have hD : va_D A [(h, .inr (3, [.ref q_1, .ref q_2, .ref q_3])), (q_1, .inl (cI, 36, .inl z0)), (q_2, .inl (cI, 64, .inl z0)), (q_3, .inl (cI, 64, .inl z0))] := hD
  refine W.widen (k := rm_k_pairing_init.cells) (n := rm_k_pairing_init.slots) (Nat.le_of_ble_eq_true rfl) (Nat.le_of_ble_eq_true rfl) ?_
  exact hret ⟨q_1, q_2, q_3⟩ _ _ _ _ dX3_init_28 trivial hP hD hS
def rm_k_convoy_init : Room := { frames := 1, cells := 6, slots := 445, locals := 16 }
set_option maxHeartbeats 4000000 in
set_option maxRecDepth 100000 in
theorem k_convoy_init {l : Launch} {D : va_G} {cI cZ : ClassId} {sz : Nat} (h : Nat) : KV l yX1_init cX1_init 1 rm_k_convoy_init D cI cZ [.ref h] sz [(h, .inr (1, [.int 0, .null, .null, .null, .null, .null, .null, .int 0, .int 0, .null]))] (fun (_ : Nat × Nat × Nat × Nat × Nat × Nat) => True) (fun (u : Nat × Nat × Nat × Nat × Nat × Nat) => [(h, .inr (1, [.int 0, .ref u.1, .ref u.2.1, .ref u.2.2.1, .ref u.2.2.2.1, .ref u.2.2.2.2.1, .ref u.2.2.2.2.2, .int 0, .int 0, .null])), (u.1, .inl (cI, 7, .inl z0)), (u.2.1, .inl (cI, 6, .inl z0)), (u.2.2.1, .inl (cI, 48, .inl z0)), (u.2.2.2.1, .inl (cI, 128, .inl z0)), (u.2.2.2.2.1, .inl (cI, 128, .inl z0)), (u.2.2.2.2.2, .inl (cI, 128, .inl z0))]) := by
  refine KV.go rfl (Nat.le_of_ble_eq_true rfl) ?_
  intro p e s m args below meth c ls A Q hx hb hml hts hown hin hP hK hD hS hA hN hl hret
  have hl : lv_has ls 1 [(0, .ref h)] := hl
  refine lv_aload_n hx hb dX1_init_0 rfl (lv_at hl 0 rfl) ?_
  refine W.objInit hx hb hown (hts _ wd_30) (hts _ wd_1) (hts _ wd_2) rfl (by rw [hml]; exact hl.1) rfl dX1_init_1 (Nat.le_of_ble_eq_true rfl) (Nat.le_of_ble_eq_true rfl) ?_
  refine W.eq (g2 := F0 m 4 ls []) rfl ?_
  refine lv_aload_n hx hb dX1_init_4 rfl (lv_at hl 0 rfl) ?_
  refine lv_iconst (v := 0) hx hb dX1_init_5 rfl ?_
  refine va_put (D := D) (ci := 1) (v := .int 0) (ty := .int) (C := RX1) (T := TX1) (N := 10) hx hb hts iX1 tyX1 tyX1_ok nmX1 hown hK hP hD hS 0 rfl rfl 0 (Nat.le_of_ble_eq_true rfl) (hts _ wd_31) (fun _ h9 => h9) rfl (by decide +kernel) rfl rfl (Nat.le_of_ble_eq_true rfl) dX1_init_6 (fun H locs hP hD hS => ?_)
  have hP : va_P D classes [(h, .inr (1, [.int 0, .null, .null, .null, .null, .null, .null, .int 0, .int 0, .null]))] H := hP
  have hD : va_D A [(h, .inr (1, [.int 0, .null, .null, .null, .null, .null, .null, .int 0, .int 0, .null]))] := hD
  refine lv_aload_n hx hb dX1_init_9 rfl (lv_at hl 0 rfl) ?_
  refine lv_bipush (v := 7) hx hb dX1_init_10 rfl ?_
  refine va_newa (atype := .int) (a0 := (7, .inl z0)) (N' := 7) (ty := .int) hx hb (hts _ wd_8) rfl hK hP hD hS hA (fun cA => z0_int 7 cA) (by decide +kernel) (by decide +kernel) (by decide +kernel) (Nat.le_of_ble_eq_true rfl) (Nat.le_of_ble_eq_true rfl) dX1_init_12 (fun q_1 cA_q_1 H hKn hP hD hS => ?_)
  obtain rfl := (K_int hKn).symm
  have hP : va_P D classes [(h, .inr (1, [.int 0, .null, .null, .null, .null, .null, .null, .int 0, .int 0, .null])), (q_1, .inl (cI, 7, .inl z0))] H := hP
  have hD : va_D A [(h, .inr (1, [.int 0, .null, .null, .null, .null, .null, .null, .int 0, .int 0, .null])), (q_1, .inl (cI, 7, .inl z0))] := hD
  refine W.widen (k := 1) (n := 7) (Nat.le_of_ble_eq_true rfl) (Nat.le_of_ble_eq_true rfl) ?_
  refine va_putF (D := D) (ci := 1) (v := .ref q_1) (ty := (.array .int)) (C := RX1) (T := TX1) (N := 10) hx hb hts iX1 tyX1 tyX1_ok nmX1 hown hK hP hD hS 0 rfl rfl 1 (Nat.le_of_ble_eq_true rfl) (hts _ wd_32) (fun _ h9 => h9) rfl hin rfl (by decide +kernel) rfl rfl (Nat.le_of_ble_eq_true rfl) dX1_init_14 (fun H locs hP hD hS => ?_)
  have hP : va_P D classes [(h, .inr (1, [.int 0, .ref q_1, .null, .null, .null, .null, .null, .int 0, .int 0, .null])), (q_1, .inl (cI, 7, .inl z0))] H := hP
  have hD : va_D A [(h, .inr (1, [.int 0, .ref q_1, .null, .null, .null, .null, .null, .int 0, .int 0, .null])), (q_1, .inl (cI, 7, .inl z0))] := hD
  refine lv_aload_n hx hb dX1_init_17 rfl (lv_at hl 0 rfl) ?_
  refine lv_bipush (v := 6) hx hb dX1_init_18 rfl ?_
  refine va_newa (atype := .int) (a0 := (6, .inl z0)) (N' := 6) (ty := .int) hx hb (hts _ wd_8) rfl hK hP hD hS hA (fun cA => z0_int 6 cA) (by decide +kernel) (by decide +kernel) (by decide +kernel) (Nat.le_of_ble_eq_true rfl) (Nat.le_of_ble_eq_true rfl) dX1_init_20 (fun q_2 cA_q_2 H hKn hP hD hS => ?_)
  obtain rfl := (K_int hKn).symm
  have hP : va_P D classes [(h, .inr (1, [.int 0, .ref q_1, .null, .null, .null, .null, .null, .int 0, .int 0, .null])), (q_1, .inl (cI, 7, .inl z0)), (q_2, .inl (cI, 6, .inl z0))] H := hP
  have hD : va_D A [(h, .inr (1, [.int 0, .ref q_1, .null, .null, .null, .null, .null, .int 0, .int 0, .null])), (q_1, .inl (cI, 7, .inl z0)), (q_2, .inl (cI, 6, .inl z0))] := hD
  refine W.widen (k := 2) (n := 13) (Nat.le_of_ble_eq_true rfl) (Nat.le_of_ble_eq_true rfl) ?_
  refine va_putF (D := D) (ci := 1) (v := .ref q_2) (ty := (.array .int)) (C := RX1) (T := TX1) (N := 10) hx hb hts iX1 tyX1 tyX1_ok nmX1 hown hK hP hD hS 0 rfl rfl 2 (Nat.le_of_ble_eq_true rfl) (hts _ wd_33) (fun _ h9 => h9) rfl hin rfl (by decide +kernel) rfl rfl (Nat.le_of_ble_eq_true rfl) dX1_init_22 (fun H locs hP hD hS => ?_)
  have hP : va_P D classes [(h, .inr (1, [.int 0, .ref q_1, .ref q_2, .null, .null, .null, .null, .int 0, .int 0, .null])), (q_1, .inl (cI, 7, .inl z0)), (q_2, .inl (cI, 6, .inl z0))] H := hP
  have hD : va_D A [(h, .inr (1, [.int 0, .ref q_1, .ref q_2, .null, .null, .null, .null, .int 0, .int 0, .null])), (q_1, .inl (cI, 7, .inl z0)), (q_2, .inl (cI, 6, .inl z0))] := hD
  refine lv_aload_n hx hb dX1_init_25 rfl (lv_at hl 0 rfl) ?_
  refine lv_bipush (v := 48) hx hb dX1_init_26 rfl ?_
  refine va_newa (atype := .int) (a0 := (48, .inl z0)) (N' := 48) (ty := .int) hx hb (hts _ wd_8) rfl hK hP hD hS hA (fun cA => z0_int 48 cA) (by decide +kernel) (by decide +kernel) (by decide +kernel) (Nat.le_of_ble_eq_true rfl) (Nat.le_of_ble_eq_true rfl) dX1_init_28 (fun q_3 cA_q_3 H hKn hP hD hS => ?_)
  obtain rfl := (K_int hKn).symm
  have hP : va_P D classes [(h, .inr (1, [.int 0, .ref q_1, .ref q_2, .null, .null, .null, .null, .int 0, .int 0, .null])), (q_1, .inl (cI, 7, .inl z0)), (q_2, .inl (cI, 6, .inl z0)), (q_3, .inl (cI, 48, .inl z0))] H := hP
  have hD : va_D A [(h, .inr (1, [.int 0, .ref q_1, .ref q_2, .null, .null, .null, .null, .int 0, .int 0, .null])), (q_1, .inl (cI, 7, .inl z0)), (q_2, .inl (cI, 6, .inl z0)), (q_3, .inl (cI, 48, .inl z0))] := hD
  refine W.widen (k := 3) (n := 61) (Nat.le_of_ble_eq_true rfl) (Nat.le_of_ble_eq_true rfl) ?_
  refine va_putF (D := D) (ci := 1) (v := .ref q_3) (ty := (.array .int)) (C := RX1) (T := TX1) (N := 10) hx hb hts iX1 tyX1 tyX1_ok nmX1 hown hK hP hD hS 0 rfl rfl 3 (Nat.le_of_ble_eq_true rfl) (hts _ wd_34) (fun _ h9 => h9) rfl hin rfl (by decide +kernel) rfl rfl (Nat.le_of_ble_eq_true rfl) dX1_init_30 (fun H locs hP hD hS => ?_)
  have hP : va_P D classes [(h, .inr (1, [.int 0, .ref q_1, .ref q_2, .ref q_3, .null, .null, .null, .int 0, .int 0, .null])), (q_1, .inl (cI, 7, .inl z0)), (q_2, .inl (cI, 6, .inl z0)), (q_3, .inl (cI, 48, .inl z0))] H := hP
  have hD : va_D A [(h, .inr (1, [.int 0, .ref q_1, .ref q_2, .ref q_3, .null, .null, .null, .int 0, .int 0, .null])), (q_1, .inl (cI, 7, .inl z0)), (q_2, .inl (cI, 6, .inl z0)), (q_3, .inl (cI, 48, .inl z0))] := hD
  refine lv_aload_n hx hb dX1_init_33 rfl (lv_at hl 0 rfl) ?_
  refine lv_sipush (v := 128) hx hb dX1_init_34 rfl ?_
  refine va_newa (atype := .int) (a0 := (128, .inl z0)) (N' := 128) (ty := .int) hx hb (hts _ wd_8) rfl hK hP hD hS hA (fun cA => z0_int 128 cA) (by decide +kernel) (by decide +kernel) (by decide +kernel) (Nat.le_of_ble_eq_true rfl) (Nat.le_of_ble_eq_true rfl) dX1_init_37 (fun q_4 cA_q_4 H hKn hP hD hS => ?_)
  obtain rfl := (K_int hKn).symm
  have hP : va_P D classes [(h, .inr (1, [.int 0, .ref q_1, .ref q_2, .ref q_3, .null, .null, .null, .int 0, .int 0, .null])), (q_1, .inl (cI, 7, .inl z0)), (q_2, .inl (cI, 6, .inl z0)), (q_3, .inl (cI, 48, .inl z0)), (q_4, .inl (cI, 128, .inl z0))] H := hP
  have hD : va_D A [(h, .inr (1, [.int 0, .ref q_1, .ref q_2, .ref q_3, .null, .null, .null, .int 0, .int 0, .null])), (q_1, .inl (cI, 7, .inl z0)), (q_2, .inl (cI, 6, .inl z0)), (q_3, .inl (cI, 48, .inl z0)), (q_4, .inl (cI, 128, .inl z0))] := hD
  refine W.widen (k := 4) (n := 189) (Nat.le_of_ble_eq_true rfl) (Nat.le_of_ble_eq_true rfl) ?_
  refine va_putF (D := D) (ci := 1) (v := .ref q_4) (ty := (.array .int)) (C := RX1) (T := TX1) (N := 10) hx hb hts iX1 tyX1 tyX1_ok nmX1 hown hK hP hD hS 0 rfl rfl 4 (Nat.le_of_ble_eq_true rfl) (hts _ wd_35) (fun _ h9 => h9) rfl hin rfl (by decide +kernel) rfl rfl (Nat.le_of_ble_eq_true rfl) dX1_init_39 (fun H locs hP hD hS => ?_)
  have hP : va_P D classes [(h, .inr (1, [.int 0, .ref q_1, .ref q_2, .ref q_3, .ref q_4, .null, .null, .int 0, .int 0, .null])), (q_1, .inl (cI, 7, .inl z0)), (q_2, .inl (cI, 6, .inl z0)), (q_3, .inl (cI, 48, .inl z0)), (q_4, .inl (cI, 128, .inl z0))] H := hP
  have hD : va_D A [(h, .inr (1, [.int 0, .ref q_1, .ref q_2, .ref q_3, .ref q_4, .null, .null, .int 0, .int 0, .null])), (q_1, .inl (cI, 7, .inl z0)), (q_2, .inl (cI, 6, .inl z0)), (q_3, .inl (cI, 48, .inl z0)), (q_4, .inl (cI, 128, .inl z0))] := hD
  refine lv_aload_n hx hb dX1_init_42 rfl (lv_at hl 0 rfl) ?_
  refine lv_sipush (v := 128) hx hb dX1_init_43 rfl ?_
  refine va_newa (atype := .int) (a0 := (128, .inl z0)) (N' := 128) (ty := .int) hx hb (hts _ wd_8) rfl hK hP hD hS hA (fun cA => z0_int 128 cA) (by decide +kernel) (by decide +kernel) (by decide +kernel) (Nat.le_of_ble_eq_true rfl) (Nat.le_of_ble_eq_true rfl) dX1_init_46 (fun q_5 cA_q_5 H hKn hP hD hS => ?_)
  obtain rfl := (K_int hKn).symm
  have hP : va_P D classes [(h, .inr (1, [.int 0, .ref q_1, .ref q_2, .ref q_3, .ref q_4, .null, .null, .int 0, .int 0, .null])), (q_1, .inl (cI, 7, .inl z0)), (q_2, .inl (cI, 6, .inl z0)), (q_3, .inl (cI, 48, .inl z0)), (q_4, .inl (cI, 128, .inl z0)), (q_5, .inl (cI, 128, .inl z0))] H := hP
  have hD : va_D A [(h, .inr (1, [.int 0, .ref q_1, .ref q_2, .ref q_3, .ref q_4, .null, .null, .int 0, .int 0, .null])), (q_1, .inl (cI, 7, .inl z0)), (q_2, .inl (cI, 6, .inl z0)), (q_3, .inl (cI, 48, .inl z0)), (q_4, .inl (cI, 128, .inl z0)), (q_5, .inl (cI, 128, .inl z0))] := hD
  refine W.widen (k := 5) (n := 317) (Nat.le_of_ble_eq_true rfl) (Nat.le_of_ble_eq_true rfl) ?_
  refine va_putF (D := D) (ci := 1) (v := .ref q_5) (ty := (.array .int)) (C := RX1) (T := TX1) (N := 10) hx hb hts iX1 tyX1 tyX1_ok nmX1 hown hK hP hD hS 0 rfl rfl 5 (Nat.le_of_ble_eq_true rfl) (hts _ wd_36) (fun _ h9 => h9) rfl hin rfl (by decide +kernel) rfl rfl (Nat.le_of_ble_eq_true rfl) dX1_init_48 (fun H locs hP hD hS => ?_)
  have hP : va_P D classes [(h, .inr (1, [.int 0, .ref q_1, .ref q_2, .ref q_3, .ref q_4, .ref q_5, .null, .int 0, .int 0, .null])), (q_1, .inl (cI, 7, .inl z0)), (q_2, .inl (cI, 6, .inl z0)), (q_3, .inl (cI, 48, .inl z0)), (q_4, .inl (cI, 128, .inl z0)), (q_5, .inl (cI, 128, .inl z0))] H := hP
  have hD : va_D A [(h, .inr (1, [.int 0, .ref q_1, .ref q_2, .ref q_3, .ref q_4, .ref q_5, .null, .int 0, .int 0, .null])), (q_1, .inl (cI, 7, .inl z0)), (q_2, .inl (cI, 6, .inl z0)), (q_3, .inl (cI, 48, .inl z0)), (q_4, .inl (cI, 128, .inl z0)), (q_5, .inl (cI, 128, .inl z0))] := hD
  refine lv_aload_n hx hb dX1_init_51 rfl (lv_at hl 0 rfl) ?_
  refine lv_sipush (v := 128) hx hb dX1_init_52 rfl ?_
  refine va_newa (atype := .int) (a0 := (128, .inl z0)) (N' := 128) (ty := .int) hx hb (hts _ wd_8) rfl hK hP hD hS hA (fun cA => z0_int 128 cA) (by decide +kernel) (by decide +kernel) (by decide +kernel) (Nat.le_of_ble_eq_true rfl) (Nat.le_of_ble_eq_true rfl) dX1_init_55 (fun q_6 cA_q_6 H hKn hP hD hS => ?_)
  obtain rfl := (K_int hKn).symm
  have hP : va_P D classes [(h, .inr (1, [.int 0, .ref q_1, .ref q_2, .ref q_3, .ref q_4, .ref q_5, .null, .int 0, .int 0, .null])), (q_1, .inl (cI, 7, .inl z0)), (q_2, .inl (cI, 6, .inl z0)), (q_3, .inl (cI, 48, .inl z0)), (q_4, .inl (cI, 128, .inl z0)), (q_5, .inl (cI, 128, .inl z0)), (q_6, .inl (cI, 128, .inl z0))] H := hP
  have hD : va_D A [(h, .inr (1, [.int 0, .ref q_1, .ref q_2, .ref q_3, .ref q_4, .ref q_5, .null, .int 0, .int 0, .null])), (q_1, .inl (cI, 7, .inl z0)), (q_2, .inl (cI, 6, .inl z0)), (q_3, .inl (cI, 48, .inl z0)), (q_4, .inl (cI, 128, .inl z0)), (q_5, .inl (cI, 128, .inl z0)), (q_6, .inl (cI, 128, .inl z0))] := hD
  refine W.widen (k := 6) (n := 445) (Nat.le_of_ble_eq_true rfl) (Nat.le_of_ble_eq_true rfl) ?_
  refine va_putF (D := D) (ci := 1) (v := .ref q_6) (ty := (.array .int)) (C := RX1) (T := TX1) (N := 10) hx hb hts iX1 tyX1 tyX1_ok nmX1 hown hK hP hD hS 0 rfl rfl 6 (Nat.le_of_ble_eq_true rfl) (hts _ wd_37) (fun _ h9 => h9) rfl hin rfl (by decide +kernel) rfl rfl (Nat.le_of_ble_eq_true rfl) dX1_init_57 (fun H locs hP hD hS => ?_)
  have hP : va_P D classes [(h, .inr (1, [.int 0, .ref q_1, .ref q_2, .ref q_3, .ref q_4, .ref q_5, .ref q_6, .int 0, .int 0, .null])), (q_1, .inl (cI, 7, .inl z0)), (q_2, .inl (cI, 6, .inl z0)), (q_3, .inl (cI, 48, .inl z0)), (q_4, .inl (cI, 128, .inl z0)), (q_5, .inl (cI, 128, .inl z0)), (q_6, .inl (cI, 128, .inl z0))] H := hP
  have hD : va_D A [(h, .inr (1, [.int 0, .ref q_1, .ref q_2, .ref q_3, .ref q_4, .ref q_5, .ref q_6, .int 0, .int 0, .null])), (q_1, .inl (cI, 7, .inl z0)), (q_2, .inl (cI, 6, .inl z0)), (q_3, .inl (cI, 48, .inl z0)), (q_4, .inl (cI, 128, .inl z0)), (q_5, .inl (cI, 128, .inl z0)), (q_6, .inl (cI, 128, .inl z0))] := hD
  refine lv_aload_n hx hb dX1_init_60 rfl (lv_at hl 0 rfl) ?_
  refine lv_iconst (v := 0) hx hb dX1_init_61 rfl ?_
  refine va_put (D := D) (ci := 1) (v := .int 0) (ty := .int) (C := RX1) (T := TX1) (N := 10) hx hb hts iX1 tyX1 tyX1_ok nmX1 hown hK hP hD hS 0 rfl rfl 7 (Nat.le_of_ble_eq_true rfl) (hts _ wd_38) (fun _ h9 => h9) rfl (by decide +kernel) rfl rfl (Nat.le_of_ble_eq_true rfl) dX1_init_62 (fun H locs hP hD hS => ?_)
  have hP : va_P D classes [(h, .inr (1, [.int 0, .ref q_1, .ref q_2, .ref q_3, .ref q_4, .ref q_5, .ref q_6, .int 0, .int 0, .null])), (q_1, .inl (cI, 7, .inl z0)), (q_2, .inl (cI, 6, .inl z0)), (q_3, .inl (cI, 48, .inl z0)), (q_4, .inl (cI, 128, .inl z0)), (q_5, .inl (cI, 128, .inl z0)), (q_6, .inl (cI, 128, .inl z0))] H := hP
  have hD : va_D A [(h, .inr (1, [.int 0, .ref q_1, .ref q_2, .ref q_3, .ref q_4, .ref q_5, .ref q_6, .int 0, .int 0, .null])), (q_1, .inl (cI, 7, .inl z0)), (q_2, .inl (cI, 6, .inl z0)), (q_3, .inl (cI, 48, .inl z0)), (q_4, .inl (cI, 128, .inl z0)), (q_5, .inl (cI, 128, .inl z0)), (q_6, .inl (cI, 128, .inl z0))] := hD
  refine lv_aload_n hx hb dX1_init_65 rfl (lv_at hl 0 rfl) ?_
  refine lv_iconst (v := 0) hx hb dX1_init_66 rfl ?_
  refine va_put (D := D) (ci := 1) (v := .int 0) (ty := .int) (C := RX1) (T := TX1) (N := 10) hx hb hts iX1 tyX1 tyX1_ok nmX1 hown hK hP hD hS 0 rfl rfl 8 (Nat.le_of_ble_eq_true rfl) (hts _ wd_39) (fun _ h9 => h9) rfl (by decide +kernel) rfl rfl (Nat.le_of_ble_eq_true rfl) dX1_init_67 (fun H locs hP hD hS => ?_)
  have hP : va_P D classes [(h, .inr (1, [.int 0, .ref q_1, .ref q_2, .ref q_3, .ref q_4, .ref q_5, .ref q_6, .int 0, .int 0, .null])), (q_1, .inl (cI, 7, .inl z0)), (q_2, .inl (cI, 6, .inl z0)), (q_3, .inl (cI, 48, .inl z0)), (q_4, .inl (cI, 128, .inl z0)), (q_5, .inl (cI, 128, .inl z0)), (q_6, .inl (cI, 128, .inl z0))] H := hP
  have hD : va_D A [(h, .inr (1, [.int 0, .ref q_1, .ref q_2, .ref q_3, .ref q_4, .ref q_5, .ref q_6, .int 0, .int 0, .null])), (q_1, .inl (cI, 7, .inl z0)), (q_2, .inl (cI, 6, .inl z0)), (q_3, .inl (cI, 48, .inl z0)), (q_4, .inl (cI, 128, .inl z0)), (q_5, .inl (cI, 128, .inl z0)), (q_6, .inl (cI, 128, .inl z0))] := hD
  refine lv_aload_n hx hb dX1_init_70 rfl (lv_at hl 0 rfl) ?_
  refine lv_null hx hb dX1_init_71 ?_
  refine va_put (D := D) (ci := 1) (v := .null) (ty := (.object "QuarrelBridges$Town")) (C := RX1) (T := TX1) (N := 10) hx hb hts iX1 tyX1 tyX1_ok nmX1 hown hK hP hD hS 0 rfl rfl 9 (Nat.le_of_ble_eq_true rfl) (hts _ wd_40) (fun _ h9 => h9) rfl (by decide +kernel) rfl rfl (Nat.le_of_ble_eq_true rfl) dX1_init_72 (fun H locs hP hD hS => ?_)
  have hP : va_P D classes [(h, .inr (1, [.int 0, .ref q_1, .ref q_2, .ref q_3, .ref q_4, .ref q_5, .ref q_6, .int 0, .int 0, .null])), (q_1, .inl (cI, 7, .inl z0)), (q_2, .inl (cI, 6, .inl z0)), (q_3, .inl (cI, 48, .inl z0)), (q_4, .inl (cI, 128, .inl z0)), (q_5, .inl (cI, 128, .inl z0)), (q_6, .inl (cI, 128, .inl z0))] H := hP
  have hD : va_D A [(h, .inr (1, [.int 0, .ref q_1, .ref q_2, .ref q_3, .ref q_4, .ref q_5, .ref q_6, .int 0, .int 0, .null])), (q_1, .inl (cI, 7, .inl z0)), (q_2, .inl (cI, 6, .inl z0)), (q_3, .inl (cI, 48, .inl z0)), (q_4, .inl (cI, 128, .inl z0)), (q_5, .inl (cI, 128, .inl z0)), (q_6, .inl (cI, 128, .inl z0))] := hD
  refine W.widen (k := rm_k_convoy_init.cells) (n := rm_k_convoy_init.slots) (Nat.le_of_ble_eq_true rfl) (Nat.le_of_ble_eq_true rfl) ?_
  exact hret ⟨q_1, q_2, q_3, q_4, q_5, q_6⟩ _ _ _ _ dX1_init_75 trivial hP hD hS
def rm_k_reader_init : Room := { frames := 1, cells := 1, slots := 0, locals := 16 }
set_option maxHeartbeats 4000000 in
set_option maxRecDepth 100000 in
theorem k_reader_init {l : Launch} {D : va_G} {cI cZ : ClassId} {sz : Nat} (h : Nat) : KV l yX5_init cX5_init 1 rm_k_reader_init D cI cZ [.ref h] sz [(h, .inr (5, [.int 0, .int 0, .null, .int 0, .int 0, .int 0, .int 0]))] (fun (_ : Nat) => True) (fun (u : Nat) => [(h, .inr (5, [.int 0, .int (-1), .ref u, .int 0, .int 0, .int 0, .int 0])), (u, .inl (cI, 0, .inl z0))]) := by
  refine KV.go rfl (Nat.le_of_ble_eq_true rfl) ?_
  intro p e s m args below meth c ls A Q hx hb hml hts hown hin hP hK hD hS hA hN hl hret
  have hl : lv_has ls 1 [(0, .ref h)] := hl
  refine lv_aload_n hx hb dX5_init_0 rfl (lv_at hl 0 rfl) ?_
  refine W.objInit hx hb hown (hts _ wd_41) (hts _ wd_1) (hts _ wd_2) rfl (by rw [hml]; exact hl.1) rfl dX5_init_1 (Nat.le_of_ble_eq_true rfl) (Nat.le_of_ble_eq_true rfl) ?_
  refine W.eq (g2 := F0 m 4 ls []) rfl ?_
  refine lv_aload_n hx hb dX5_init_4 rfl (lv_at hl 0 rfl) ?_
  refine lv_iconst (v := 0) hx hb dX5_init_5 rfl ?_
  refine va_put (D := D) (ci := 5) (v := .int 0) (ty := .int) (C := RX5) (T := TX5) (N := 7) hx hb hts iX5 tyX5 tyX5_ok nmX5 hown hK hP hD hS 0 rfl rfl 0 (Nat.le_of_ble_eq_true rfl) (hts _ wd_42) (fun _ h9 => h9) rfl (by decide +kernel) rfl rfl (Nat.le_of_ble_eq_true rfl) dX5_init_6 (fun H locs hP hD hS => ?_)
  have hP : va_P D classes [(h, .inr (5, [.int 0, .int 0, .null, .int 0, .int 0, .int 0, .int 0]))] H := hP
  have hD : va_D A [(h, .inr (5, [.int 0, .int 0, .null, .int 0, .int 0, .int 0, .int 0]))] := hD
  refine lv_aload_n hx hb dX5_init_9 rfl (lv_at hl 0 rfl) ?_
  refine lv_iconst (v := (-1)) hx hb dX5_init_10 rfl ?_
  refine va_put (D := D) (ci := 5) (v := .int (-1)) (ty := .int) (C := RX5) (T := TX5) (N := 7) hx hb hts iX5 tyX5 tyX5_ok nmX5 hown hK hP hD hS 0 rfl rfl 1 (Nat.le_of_ble_eq_true rfl) (hts _ wd_43) (fun _ h9 => h9) rfl (by decide +kernel) rfl rfl (Nat.le_of_ble_eq_true rfl) dX5_init_11 (fun H locs hP hD hS => ?_)
  have hP : va_P D classes [(h, .inr (5, [.int 0, .int (-1), .null, .int 0, .int 0, .int 0, .int 0]))] H := hP
  have hD : va_D A [(h, .inr (5, [.int 0, .int (-1), .null, .int 0, .int 0, .int 0, .int 0]))] := hD
  refine lv_aload_n hx hb dX5_init_14 rfl (lv_at hl 0 rfl) ?_
  refine lv_iconst (v := 0) hx hb dX5_init_15 rfl ?_
  refine va_newa (atype := .int) (a0 := (0, .inl z0)) (N' := 0) (ty := .int) hx hb (hts _ wd_8) rfl hK hP hD hS hA (fun cA => z0_int 0 cA) (by decide +kernel) (by decide +kernel) (by decide +kernel) (Nat.le_of_ble_eq_true rfl) (Nat.le_of_ble_eq_true rfl) dX5_init_16 (fun q_1 cA_q_1 H hKn hP hD hS => ?_)
  obtain rfl := (K_int hKn).symm
  have hP : va_P D classes [(h, .inr (5, [.int 0, .int (-1), .null, .int 0, .int 0, .int 0, .int 0])), (q_1, .inl (cI, 0, .inl z0))] H := hP
  have hD : va_D A [(h, .inr (5, [.int 0, .int (-1), .null, .int 0, .int 0, .int 0, .int 0])), (q_1, .inl (cI, 0, .inl z0))] := hD
  refine W.widen (k := 1) (n := 0) (Nat.le_of_ble_eq_true rfl) (Nat.le_of_ble_eq_true rfl) ?_
  refine va_put (D := D) (ci := 5) (v := .ref q_1) (ty := (.array .int)) (C := RX5) (T := TX5) (N := 7) hx hb hts iX5 tyX5 tyX5_ok nmX5 hown hK hP hD hS 0 rfl rfl 2 (Nat.le_of_ble_eq_true rfl) (hts _ wd_44) (fun _ h9 => h9) rfl (by decide +kernel) rfl rfl (Nat.le_of_ble_eq_true rfl) dX5_init_18 (fun H locs hP hD hS => ?_)
  have hP : va_P D classes [(h, .inr (5, [.int 0, .int (-1), .ref q_1, .int 0, .int 0, .int 0, .int 0])), (q_1, .inl (cI, 0, .inl z0))] H := hP
  have hD : va_D A [(h, .inr (5, [.int 0, .int (-1), .ref q_1, .int 0, .int 0, .int 0, .int 0])), (q_1, .inl (cI, 0, .inl z0))] := hD
  refine lv_aload_n hx hb dX5_init_21 rfl (lv_at hl 0 rfl) ?_
  refine lv_iconst (v := 0) hx hb dX5_init_22 rfl ?_
  refine va_put (D := D) (ci := 5) (v := .int 0) (ty := .int) (C := RX5) (T := TX5) (N := 7) hx hb hts iX5 tyX5 tyX5_ok nmX5 hown hK hP hD hS 0 rfl rfl 3 (Nat.le_of_ble_eq_true rfl) (hts _ wd_45) (fun _ h9 => h9) rfl (by decide +kernel) rfl rfl (Nat.le_of_ble_eq_true rfl) dX5_init_23 (fun H locs hP hD hS => ?_)
  have hP : va_P D classes [(h, .inr (5, [.int 0, .int (-1), .ref q_1, .int 0, .int 0, .int 0, .int 0])), (q_1, .inl (cI, 0, .inl z0))] H := hP
  have hD : va_D A [(h, .inr (5, [.int 0, .int (-1), .ref q_1, .int 0, .int 0, .int 0, .int 0])), (q_1, .inl (cI, 0, .inl z0))] := hD
  refine lv_aload_n hx hb dX5_init_26 rfl (lv_at hl 0 rfl) ?_
  refine lv_iconst (v := 0) hx hb dX5_init_27 rfl ?_
  refine va_put (D := D) (ci := 5) (v := .int 0) (ty := .int) (C := RX5) (T := TX5) (N := 7) hx hb hts iX5 tyX5 tyX5_ok nmX5 hown hK hP hD hS 0 rfl rfl 4 (Nat.le_of_ble_eq_true rfl) (hts _ wd_46) (fun _ h9 => h9) rfl (by decide +kernel) rfl rfl (Nat.le_of_ble_eq_true rfl) dX5_init_28 (fun H locs hP hD hS => ?_)
  have hP : va_P D classes [(h, .inr (5, [.int 0, .int (-1), .ref q_1, .int 0, .int 0, .int 0, .int 0])), (q_1, .inl (cI, 0, .inl z0))] H := hP
  have hD : va_D A [(h, .inr (5, [.int 0, .int (-1), .ref q_1, .int 0, .int 0, .int 0, .int 0])), (q_1, .inl (cI, 0, .inl z0))] := hD
  refine lv_aload_n hx hb dX5_init_31 rfl (lv_at hl 0 rfl) ?_
  refine lv_iconst (v := 0) hx hb dX5_init_32 rfl ?_
  refine va_put (D := D) (ci := 5) (v := .int 0) (ty := .boolean) (C := RX5) (T := TX5) (N := 7) hx hb hts iX5 tyX5 tyX5_ok nmX5 hown hK hP hD hS 0 rfl rfl 5 (Nat.le_of_ble_eq_true rfl) (hts _ wd_47) (fun _ h9 => h9) rfl (by decide +kernel) rfl rfl (Nat.le_of_ble_eq_true rfl) dX5_init_33 (fun H locs hP hD hS => ?_)
  have hP : va_P D classes [(h, .inr (5, [.int 0, .int (-1), .ref q_1, .int 0, .int 0, .int 0, .int 0])), (q_1, .inl (cI, 0, .inl z0))] H := hP
  have hD : va_D A [(h, .inr (5, [.int 0, .int (-1), .ref q_1, .int 0, .int 0, .int 0, .int 0])), (q_1, .inl (cI, 0, .inl z0))] := hD
  refine lv_aload_n hx hb dX5_init_36 rfl (lv_at hl 0 rfl) ?_
  refine lv_iconst (v := 0) hx hb dX5_init_37 rfl ?_
  refine va_put (D := D) (ci := 5) (v := .int 0) (ty := .boolean) (C := RX5) (T := TX5) (N := 7) hx hb hts iX5 tyX5 tyX5_ok nmX5 hown hK hP hD hS 0 rfl rfl 6 (Nat.le_of_ble_eq_true rfl) (hts _ wd_48) (fun _ h9 => h9) rfl (by decide +kernel) rfl rfl (Nat.le_of_ble_eq_true rfl) dX5_init_38 (fun H locs hP hD hS => ?_)
  have hP : va_P D classes [(h, .inr (5, [.int 0, .int (-1), .ref q_1, .int 0, .int 0, .int 0, .int 0])), (q_1, .inl (cI, 0, .inl z0))] H := hP
  have hD : va_D A [(h, .inr (5, [.int 0, .int (-1), .ref q_1, .int 0, .int 0, .int 0, .int 0])), (q_1, .inl (cI, 0, .inl z0))] := hD
  refine W.widen (k := rm_k_reader_init.cells) (n := rm_k_reader_init.slots) (Nat.le_of_ble_eq_true rfl) (Nat.le_of_ble_eq_true rfl) ?_
  exact hret q_1 _ _ _ _ dX5_init_41 trivial hP hD hS
def rm_k_shelf_init20 : Room := { frames := 1, cells := 1, slots := 820, locals := 30 }
set_option maxHeartbeats 4000000 in
set_option maxRecDepth 100000 in
theorem k_shelf_init20 {l : Launch} {D : va_G} {cI cZ : ClassId} {sz : Nat} (h : Nat) : KV l yX6_init cX6_init 2 rm_k_shelf_init20 D cI cZ [.ref h, .int 20] sz [(h, .inr (6, [.int 0, .null]))] (fun (_ : Nat) => True) (fun (u : Nat) => [(h, .inr (6, [.int 20, .ref u])), (u, .inl (cI, 820, .inl z0))]) := by
  refine KV.go rfl (Nat.le_of_ble_eq_true rfl) ?_
  intro p e s m args below meth c ls A Q hx hb hml hts hown hin hP hK hD hS hA hN hl hret
  have hl : lv_has ls 2 [(0, .ref h), (1, .int 20)] := hl
  refine lv_aload_n hx hb dX6_init_0 rfl (lv_at hl 0 rfl) ?_
  refine W.objInit hx hb hown (hts _ wd_49) (hts _ wd_1) (hts _ wd_2) rfl (by rw [hml]; exact hl.1) rfl dX6_init_1 (Nat.le_of_ble_eq_true rfl) (Nat.le_of_ble_eq_true rfl) ?_
  refine W.eq (g2 := F0 m 4 ls []) rfl ?_
  refine lv_aload_n hx hb dX6_init_4 rfl (lv_at hl 0 rfl) ?_
  refine lv_iconst (v := 0) hx hb dX6_init_5 rfl ?_
  refine lv_iload_n hx hb dX6_init_6 rfl (lv_at hl 1 rfl) ?_
  refine va_mmax hx hb (by rw [hml]; exact hl.1.symm) hown (hts _ wd_50) (hts _ wd_51) (hts _ wd_52) (hts _ wd_53) (Nat.le_of_ble_eq_true rfl) (Nat.le_of_ble_eq_true rfl) (Nat.le_of_ble_eq_true rfl) (Nat.le_of_ble_eq_true rfl) dX6_init_7 ?_
  refine lv_topi (fun z_1 ez_1 => ?_)
  obtain rfl : z_1 = 20 := ez_1.trans (by decide +kernel)
  refine va_putF (D := D) (ci := 6) (v := .int 20) (ty := .int) (C := RX6) (T := TX6) (N := 2) hx hb hts iX6 tyX6 tyX6_ok nmX6 hown hK hP hD hS 0 rfl rfl 0 (Nat.le_of_ble_eq_true rfl) (hts _ wd_54) (fun _ h9 => h9) rfl hin rfl (by decide +kernel) rfl rfl (Nat.le_of_ble_eq_true rfl) dX6_init_10 (fun H locs hP hD hS => ?_)
  have hP : va_P D classes [(h, .inr (6, [.int 20, .null]))] H := hP
  have hD : va_D A [(h, .inr (6, [.int 20, .null]))] := hD
  refine lv_aload_n hx hb dX6_init_13 rfl (lv_at hl 0 rfl) ?_
  refine lv_aload_n hx hb dX6_init_14 rfl (lv_at hl 0 rfl) ?_
  refine va_get (D := D) (ci := 6) (v := .int 20) (C := RX6) (T := TX6) (N := 2) hx hb hts iX6 hown hK hP 0 rfl rfl 0 (Nat.le_of_ble_eq_true rfl) (hts _ wd_54) (fun _ h9 => h9) rfl dX6_init_15 ?_
  refine lv_bipush (v := 41) hx hb dX6_init_18 rfl ?_
  refine lv_imul hx hb dX6_init_20 ?_
  refine lv_topi (fun z_2 ez_2 => ?_)
  obtain rfl : z_2 = 820 := ez_2.trans (by decide +kernel)
  refine va_newa (atype := .int) (a0 := (820, .inl z0)) (N' := 820) (ty := .int) hx hb (hts _ wd_8) rfl hK hP hD hS hA (fun cA => z0_int 820 cA) (by decide +kernel) (by decide +kernel) (by decide +kernel) (Nat.le_of_ble_eq_true rfl) (Nat.le_of_ble_eq_true rfl) dX6_init_21 (fun q_3 cA_q_3 H hKn hP hD hS => ?_)
  obtain rfl := (K_int hKn).symm
  have hP : va_P D classes [(h, .inr (6, [.int 20, .null])), (q_3, .inl (cI, 820, .inl z0))] H := hP
  have hD : va_D A [(h, .inr (6, [.int 20, .null])), (q_3, .inl (cI, 820, .inl z0))] := hD
  refine W.widen (k := 1) (n := 820) (Nat.le_of_ble_eq_true rfl) (Nat.le_of_ble_eq_true rfl) ?_
  refine va_putF (D := D) (ci := 6) (v := .ref q_3) (ty := (.array .int)) (C := RX6) (T := TX6) (N := 2) hx hb hts iX6 tyX6 tyX6_ok nmX6 hown hK hP hD hS 0 rfl rfl 1 (Nat.le_of_ble_eq_true rfl) (hts _ wd_55) (fun _ h9 => h9) rfl hin rfl (by decide +kernel) rfl rfl (Nat.le_of_ble_eq_true rfl) dX6_init_23 (fun H locs hP hD hS => ?_)
  have hP : va_P D classes [(h, .inr (6, [.int 20, .ref q_3])), (q_3, .inl (cI, 820, .inl z0))] H := hP
  have hD : va_D A [(h, .inr (6, [.int 20, .ref q_3])), (q_3, .inl (cI, 820, .inl z0))] := hD
  refine W.widen (k := rm_k_shelf_init20.cells) (n := rm_k_shelf_init20.slots) (Nat.le_of_ble_eq_true rfl) (Nat.le_of_ble_eq_true rfl) ?_
  exact hret q_3 _ _ _ _ dX6_init_26 trivial hP hD hS
def rm_k_shelf_init2 : Room := { frames := 1, cells := 1, slots := 82, locals := 30 }
set_option maxHeartbeats 4000000 in
set_option maxRecDepth 100000 in
theorem k_shelf_init2 {l : Launch} {D : va_G} {cI cZ : ClassId} {sz : Nat} (h : Nat) : KV l yX6_init cX6_init 2 rm_k_shelf_init2 D cI cZ [.ref h, .int 2] sz [(h, .inr (6, [.int 0, .null]))] (fun (_ : Nat) => True) (fun (u : Nat) => [(h, .inr (6, [.int 2, .ref u])), (u, .inl (cI, 82, .inl z0))]) := by
  refine KV.go rfl (Nat.le_of_ble_eq_true rfl) ?_
  intro p e s m args below meth c ls A Q hx hb hml hts hown hin hP hK hD hS hA hN hl hret
  have hl : lv_has ls 2 [(0, .ref h), (1, .int 2)] := hl
  refine lv_aload_n hx hb dX6_init_0 rfl (lv_at hl 0 rfl) ?_
  refine W.objInit hx hb hown (hts _ wd_49) (hts _ wd_1) (hts _ wd_2) rfl (by rw [hml]; exact hl.1) rfl dX6_init_1 (Nat.le_of_ble_eq_true rfl) (Nat.le_of_ble_eq_true rfl) ?_
  refine W.eq (g2 := F0 m 4 ls []) rfl ?_
  refine lv_aload_n hx hb dX6_init_4 rfl (lv_at hl 0 rfl) ?_
  refine lv_iconst (v := 0) hx hb dX6_init_5 rfl ?_
  refine lv_iload_n hx hb dX6_init_6 rfl (lv_at hl 1 rfl) ?_
  refine va_mmax hx hb (by rw [hml]; exact hl.1.symm) hown (hts _ wd_50) (hts _ wd_51) (hts _ wd_52) (hts _ wd_53) (Nat.le_of_ble_eq_true rfl) (Nat.le_of_ble_eq_true rfl) (Nat.le_of_ble_eq_true rfl) (Nat.le_of_ble_eq_true rfl) dX6_init_7 ?_
  refine lv_topi (fun z_1 ez_1 => ?_)
  obtain rfl : z_1 = 2 := ez_1.trans (by decide +kernel)
  refine va_putF (D := D) (ci := 6) (v := .int 2) (ty := .int) (C := RX6) (T := TX6) (N := 2) hx hb hts iX6 tyX6 tyX6_ok nmX6 hown hK hP hD hS 0 rfl rfl 0 (Nat.le_of_ble_eq_true rfl) (hts _ wd_54) (fun _ h9 => h9) rfl hin rfl (by decide +kernel) rfl rfl (Nat.le_of_ble_eq_true rfl) dX6_init_10 (fun H locs hP hD hS => ?_)
  have hP : va_P D classes [(h, .inr (6, [.int 2, .null]))] H := hP
  have hD : va_D A [(h, .inr (6, [.int 2, .null]))] := hD
  refine lv_aload_n hx hb dX6_init_13 rfl (lv_at hl 0 rfl) ?_
  refine lv_aload_n hx hb dX6_init_14 rfl (lv_at hl 0 rfl) ?_
  refine va_get (D := D) (ci := 6) (v := .int 2) (C := RX6) (T := TX6) (N := 2) hx hb hts iX6 hown hK hP 0 rfl rfl 0 (Nat.le_of_ble_eq_true rfl) (hts _ wd_54) (fun _ h9 => h9) rfl dX6_init_15 ?_
  refine lv_bipush (v := 41) hx hb dX6_init_18 rfl ?_
  refine lv_imul hx hb dX6_init_20 ?_
  refine lv_topi (fun z_2 ez_2 => ?_)
  obtain rfl : z_2 = 82 := ez_2.trans (by decide +kernel)
  refine va_newa (atype := .int) (a0 := (82, .inl z0)) (N' := 82) (ty := .int) hx hb (hts _ wd_8) rfl hK hP hD hS hA (fun cA => z0_int 82 cA) (by decide +kernel) (by decide +kernel) (by decide +kernel) (Nat.le_of_ble_eq_true rfl) (Nat.le_of_ble_eq_true rfl) dX6_init_21 (fun q_3 cA_q_3 H hKn hP hD hS => ?_)
  obtain rfl := (K_int hKn).symm
  have hP : va_P D classes [(h, .inr (6, [.int 2, .null])), (q_3, .inl (cI, 82, .inl z0))] H := hP
  have hD : va_D A [(h, .inr (6, [.int 2, .null])), (q_3, .inl (cI, 82, .inl z0))] := hD
  refine W.widen (k := 1) (n := 82) (Nat.le_of_ble_eq_true rfl) (Nat.le_of_ble_eq_true rfl) ?_
  refine va_putF (D := D) (ci := 6) (v := .ref q_3) (ty := (.array .int)) (C := RX6) (T := TX6) (N := 2) hx hb hts iX6 tyX6 tyX6_ok nmX6 hown hK hP hD hS 0 rfl rfl 1 (Nat.le_of_ble_eq_true rfl) (hts _ wd_55) (fun _ h9 => h9) rfl hin rfl (by decide +kernel) rfl rfl (Nat.le_of_ble_eq_true rfl) dX6_init_23 (fun H locs hP hD hS => ?_)
  have hP : va_P D classes [(h, .inr (6, [.int 2, .ref q_3])), (q_3, .inl (cI, 82, .inl z0))] H := hP
  have hD : va_D A [(h, .inr (6, [.int 2, .ref q_3])), (q_3, .inl (cI, 82, .inl z0))] := hD
  refine W.widen (k := rm_k_shelf_init2.cells) (n := rm_k_shelf_init2.slots) (Nat.le_of_ble_eq_true rfl) (Nat.le_of_ble_eq_true rfl) ?_
  exact hret q_3 _ _ _ _ dX6_init_26 trivial hP hD hS
def rm_k_history_init : Room := { frames := 2, cells := 2, slots := 822, locals := 51 }
set_option maxHeartbeats 4000000 in
set_option maxRecDepth 100000 in
theorem k_history_init {l : Launch} {D : va_G} {cI cZ : ClassId} {sz : Nat} (h : Nat) : KV l yX2_init cX2_init 1 rm_k_history_init D cI cZ [.ref h] sz [(h, .inr (2, [.null, .int 0, .int 0]))] (fun (_ : Nat × Nat) => True) (fun (u : Nat × Nat) => [(h, .inr (2, [.ref u.1, .int 0, .int 0])), (u.1, .inr (6, [.int 20, .ref u.2])), (u.2, .inl (cI, 820, .inl z0))]) := by
  refine KV.go rfl (Nat.le_of_ble_eq_true rfl) ?_
  intro p e s m args below meth c ls A Q hx hb hml hts hown hin hP hK hD hS hA hN hl hret
  have hl : lv_has ls 1 [(0, .ref h)] := hl
  refine lv_aload_n hx hb dX2_init_0 rfl (lv_at hl 0 rfl) ?_
  refine W.objInit hx hb hown (hts _ wd_56) (hts _ wd_1) (hts _ wd_2) rfl (by rw [hml]; exact hl.1) rfl dX2_init_1 (Nat.le_of_ble_eq_true rfl) (Nat.le_of_ble_eq_true rfl) ?_
  refine W.eq (g2 := F0 m 4 ls []) rfl ?_
  refine lv_aload_n hx hb dX2_init_4 rfl (lv_at hl 0 rfl) ?_
  refine va_new (ci := 6) (fs := [.int 0, .null]) (C := RX6) (T := TX6) (N := 2) hx hb hts iX6 tyX6 tyX6_ok hown (hts _ wd_57) (hts _ wd_58) (hts _ wd_59) hK hP hD hS hA rfl (by decide +kernel) (Nat.le_of_ble_eq_true rfl) (Nat.le_of_ble_eq_true rfl) dX2_init_5 (fun q_1 H hP hD hS => ?_)
  have hP : va_P D classes [(h, .inr (2, [.null, .int 0, .int 0])), (q_1, .inr (6, [.int 0, .null]))] H := hP
  have hD : va_D A [(h, .inr (2, [.null, .int 0, .int 0])), (q_1, .inr (6, [.int 0, .null]))] := hD
  refine W.widen (k := 1) (n := 2) (Nat.le_of_ble_eq_true rfl) (Nat.le_of_ble_eq_true rfl) ?_
  refine lv_dup hx hb dX2_init_8 rfl ?_
  refine lv_bipush (v := 20) hx hb dX2_init_9 rfl ?_
  refine cIv (wr := [(h, .inr (2, [.null, .int 0, .int 0]))]) (rest := [.ref q_1, .ref h]) (k_shelf_init20 q_1) okI_X6_init wd_60 hx hb hml hown hts hK hP hD hS hA hN hl.1 [1] [0] rfl rfl rfl rfl (of_decide_eq_true rfl) rfl (Nat.le_of_ble_eq_true rfl) (Nat.le_of_ble_eq_true rfl) (Nat.le_of_ble_eq_true rfl) (Nat.le_of_ble_eq_true rfl) (Nat.le_of_ble_eq_true rfl) dX2_init_11 (fun u_2 H locs hw_u_2 hP hD hS => ?_)
  refine W.widen (k := 2) (n := 822) (Nat.le_of_ble_eq_true rfl) (Nat.le_of_ble_eq_true rfl) ?_
  have hP : va_P D classes [(h, .inr (2, [.null, .int 0, .int 0])), (q_1, .inr (6, [.int 20, .ref u_2])), (u_2, .inl (cI, 820, .inl z0))] H := hP
  have hD : va_D A [(h, .inr (2, [.null, .int 0, .int 0])), (q_1, .inr (6, [.int 20, .ref u_2])), (u_2, .inl (cI, 820, .inl z0))] := hD
  refine va_putF (D := D) (ci := 2) (v := .ref q_1) (ty := (.object "QuarrelBridges$Shelf")) (C := RX2) (T := TX2) (N := 3) hx hb hts iX2 tyX2 tyX2_ok nmX2 hown hK hP hD hS 0 rfl rfl 0 (Nat.le_of_ble_eq_true rfl) (hts _ wd_63) (fun _ h9 => h9) rfl hin rfl (by decide +kernel) rfl rfl (Nat.le_of_ble_eq_true rfl) dX2_init_14 (fun H locs hP hD hS => ?_)
  have hP : va_P D classes [(h, .inr (2, [.ref q_1, .int 0, .int 0])), (q_1, .inr (6, [.int 20, .ref u_2])), (u_2, .inl (cI, 820, .inl z0))] H := hP
  have hD : va_D A [(h, .inr (2, [.ref q_1, .int 0, .int 0])), (q_1, .inr (6, [.int 20, .ref u_2])), (u_2, .inl (cI, 820, .inl z0))] := hD
  refine lv_aload_n hx hb dX2_init_17 rfl (lv_at hl 0 rfl) ?_
  refine lv_iconst (v := 0) hx hb dX2_init_18 rfl ?_
  refine va_put (D := D) (ci := 2) (v := .int 0) (ty := .int) (C := RX2) (T := TX2) (N := 3) hx hb hts iX2 tyX2 tyX2_ok nmX2 hown hK hP hD hS 0 rfl rfl 1 (Nat.le_of_ble_eq_true rfl) (hts _ wd_64) (fun _ h9 => h9) rfl (by decide +kernel) rfl rfl (Nat.le_of_ble_eq_true rfl) dX2_init_19 (fun H locs hP hD hS => ?_)
  have hP : va_P D classes [(h, .inr (2, [.ref q_1, .int 0, .int 0])), (q_1, .inr (6, [.int 20, .ref u_2])), (u_2, .inl (cI, 820, .inl z0))] H := hP
  have hD : va_D A [(h, .inr (2, [.ref q_1, .int 0, .int 0])), (q_1, .inr (6, [.int 20, .ref u_2])), (u_2, .inl (cI, 820, .inl z0))] := hD
  refine lv_aload_n hx hb dX2_init_22 rfl (lv_at hl 0 rfl) ?_
  refine lv_iconst (v := 0) hx hb dX2_init_23 rfl ?_
  refine va_put (D := D) (ci := 2) (v := .int 0) (ty := .int) (C := RX2) (T := TX2) (N := 3) hx hb hts iX2 tyX2 tyX2_ok nmX2 hown hK hP hD hS 0 rfl rfl 2 (Nat.le_of_ble_eq_true rfl) (hts _ wd_65) (fun _ h9 => h9) rfl (by decide +kernel) rfl rfl (Nat.le_of_ble_eq_true rfl) dX2_init_24 (fun H locs hP hD hS => ?_)
  have hP : va_P D classes [(h, .inr (2, [.ref q_1, .int 0, .int 0])), (q_1, .inr (6, [.int 20, .ref u_2])), (u_2, .inl (cI, 820, .inl z0))] H := hP
  have hD : va_D A [(h, .inr (2, [.ref q_1, .int 0, .int 0])), (q_1, .inr (6, [.int 20, .ref u_2])), (u_2, .inl (cI, 820, .inl z0))] := hD
  refine W.widen (k := rm_k_history_init.cells) (n := rm_k_history_init.slots) (Nat.le_of_ble_eq_true rfl) (Nat.le_of_ble_eq_true rfl) ?_
  exact hret ⟨q_1, u_2⟩ _ _ _ _ dX2_init_27 trivial hP hD hS
end
section
def fw_cJ7_fill_53178 : List (List Nat) := [[3, 61, 42, 190, 62, 28, 29, 162, 0, 13, 42, 28, 27, 79, 132, 2, 1, 167], [1, 167, 255, 244, 177]]
theorem fW_cJ7_fill_53178 : fq_wins 2 cJ7_fill_53178.data.toList = fw_cJ7_fill_53178 := by decide +kernel
theorem fk_cJ7_fill_53178_0 : fq_ck cJ7_fill_53178 0 [3, 61, 42, 190, 62, 28, 29, 162, 0, 13, 42, 28, 27, 79, 132, 2, 1, 167] := fq_of fW_cJ7_fill_53178 0 rfl rfl
theorem dJ7_fill_53178_0 : decode cJ7_fill_53178 0 = .ok (.iconst 0, 1) := fq_3 fk_cJ7_fill_53178_0 0 rfl rfl
theorem dJ7_fill_53178_1 : decode cJ7_fill_53178 1 = .ok (.istore_n 2, 1) := fq_61 fk_cJ7_fill_53178_0 1 rfl rfl
theorem dJ7_fill_53178_2 : decode cJ7_fill_53178 2 = .ok (.aload_n 0, 1) := fq_42 fk_cJ7_fill_53178_0 2 rfl rfl
theorem dJ7_fill_53178_3 : decode cJ7_fill_53178 3 = .ok (.arraylength, 1) := fq_190 fk_cJ7_fill_53178_0 3 rfl rfl
theorem dJ7_fill_53178_4 : decode cJ7_fill_53178 4 = .ok (.istore_n 3, 1) := fq_62 fk_cJ7_fill_53178_0 4 rfl rfl
theorem dJ7_fill_53178_5 : decode cJ7_fill_53178 5 = .ok (.iload_n 2, 1) := fq_28 fk_cJ7_fill_53178_0 5 rfl rfl
theorem dJ7_fill_53178_6 : decode cJ7_fill_53178 6 = .ok (.iload_n 3, 1) := fq_29 fk_cJ7_fill_53178_0 6 rfl rfl
theorem dJ7_fill_53178_7 : decode cJ7_fill_53178 7 = .ok (.if_icmp .ge 13, 3) := fq_162 fk_cJ7_fill_53178_0 7 rfl rfl rfl rfl rfl
theorem fk_cJ7_fill_53178_1 : fq_ck cJ7_fill_53178 16 [1, 167, 255, 244, 177] := fq_of fW_cJ7_fill_53178 1 rfl rfl
theorem dJ7_fill_53178_20 : decode cJ7_fill_53178 20 = .ok (.return_, 1) := fq_177 fk_cJ7_fill_53178_1 4 rfl rfl
theorem dJ7_fill_53178_10 : decode cJ7_fill_53178 10 = .ok (.aload_n 0, 1) := fq_42 fk_cJ7_fill_53178_0 10 rfl rfl
theorem dJ7_fill_53178_11 : decode cJ7_fill_53178 11 = .ok (.iload_n 2, 1) := fq_28 fk_cJ7_fill_53178_0 11 rfl rfl
theorem dJ7_fill_53178_12 : decode cJ7_fill_53178 12 = .ok (.iload_n 1, 1) := fq_27 fk_cJ7_fill_53178_0 12 rfl rfl
theorem dJ7_fill_53178_13 : decode cJ7_fill_53178 13 = .ok (.iastore, 1) := fq_79 fk_cJ7_fill_53178_0 13 rfl rfl
theorem dJ7_fill_53178_14 : decode cJ7_fill_53178 14 = .ok (.iinc 2 1, 3) := fq_132 fk_cJ7_fill_53178_0 14 rfl rfl rfl rfl rfl
theorem dJ7_fill_53178_17 : decode cJ7_fill_53178 17 = .ok (.goto (-12), 3) := fq_167 fk_cJ7_fill_53178_1 1 rfl rfl rfl rfl rfl
def fw_cX7_begin : List (List Nat) := [[42, 180, 0, 11, 3, 184, 0, 15, 3, 61, 28, 16, 6, 162, 0, 51, 42, 180], [42, 180, 0, 11, 5, 28, 96, 28, 43, 180, 0, 21, 162, 0, 14, 43, 180, 0], [180, 0, 27, 28, 184, 0, 30, 167, 0, 4, 3, 184, 0, 34, 42, 180, 0, 11], [0, 11, 16, 8, 28, 96, 2, 184, 0, 34, 132, 2, 1, 167, 255, 205, 3, 61], [3, 61, 28, 16, 7, 162, 0, 33, 42, 180, 0, 11, 16, 27, 28, 96, 2, 184], [2, 184, 0, 34, 42, 180, 0, 11, 16, 34, 28, 96, 2, 184, 0, 34, 132, 2], [132, 2, 1, 167, 255, 223, 177]]
theorem fW_cX7_begin : fq_wins 7 cX7_begin.data.toList = fw_cX7_begin := by decide +kernel
theorem fk_cX7_begin_0 : fq_ck cX7_begin 0 [42, 180, 0, 11, 3, 184, 0, 15, 3, 61, 28, 16, 6, 162, 0, 51, 42, 180] := fq_of fW_cX7_begin 0 rfl rfl
theorem dX7_begin_0 : decode cX7_begin 0 = .ok (.aload_n 0, 1) := fq_42 fk_cX7_begin_0 0 rfl rfl
theorem dX7_begin_1 : decode cX7_begin 1 = .ok (.getfield 11, 3) := fq_180 fk_cX7_begin_0 1 rfl rfl rfl rfl rfl
theorem dX7_begin_4 : decode cX7_begin 4 = .ok (.iconst 0, 1) := fq_3 fk_cX7_begin_0 4 rfl rfl
theorem dX7_begin_5 : decode cX7_begin 5 = .ok (.invokestatic 15, 3) := fq_184 fk_cX7_begin_0 5 rfl rfl rfl rfl rfl
theorem wd_66 : Cond.methodLink RX7 15 yJ7_fill_53178 ∈ BG := BG_at2 26 (by decide +kernel) rfl
theorem wd_67 : Cond.code yJ7_fill_53178 cJ7_fill_53178 4 none ∈ BG := BG_at2 28 rfl rfl
theorem wd_68 : Cond.initialized RJ7 ∈ BG := BG_at1 12 (by decide +kernel) rfl
theorem wd_69 : Cond.static yJ7_fill_53178 ∈ BG := BG_at2 27 (by decide +kernel) rfl
theorem okS_J7_fill_53178 : okS yJ7_fill_53178 cJ7_fill_53178 4 none 2 := ⟨⟨wd_67, wd_68, by decide +kernel⟩, wd_69⟩
theorem dX7_begin_8 : decode cX7_begin 8 = .ok (.iconst 0, 1) := fq_3 fk_cX7_begin_0 8 rfl rfl
theorem dX7_begin_9 : decode cX7_begin 9 = .ok (.istore_n 2, 1) := fq_61 fk_cX7_begin_0 9 rfl rfl
theorem dX7_begin_10 : decode cX7_begin 10 = .ok (.iload_n 2, 1) := fq_28 fk_cX7_begin_0 10 rfl rfl
theorem dX7_begin_11 : decode cX7_begin 11 = .ok (.bipush 6, 2) := fq_16 fk_cX7_begin_0 11 rfl rfl rfl rfl
theorem dX7_begin_13 : decode cX7_begin 13 = .ok (.if_icmp .ge 51, 3) := fq_162 fk_cX7_begin_0 13 rfl rfl rfl rfl rfl
theorem fk_cX7_begin_4 : fq_ck cX7_begin 64 [3, 61, 28, 16, 7, 162, 0, 33, 42, 180, 0, 11, 16, 27, 28, 96, 2, 184] := fq_of fW_cX7_begin 4 rfl rfl
theorem dX7_begin_64 : decode cX7_begin 64 = .ok (.iconst 0, 1) := fq_3 fk_cX7_begin_4 0 rfl rfl
theorem dX7_begin_65 : decode cX7_begin 65 = .ok (.istore_n 2, 1) := fq_61 fk_cX7_begin_4 1 rfl rfl
theorem dX7_begin_66 : decode cX7_begin 66 = .ok (.iload_n 2, 1) := fq_28 fk_cX7_begin_4 2 rfl rfl
theorem dX7_begin_67 : decode cX7_begin 67 = .ok (.bipush 7, 2) := fq_16 fk_cX7_begin_4 3 rfl rfl rfl rfl
theorem dX7_begin_69 : decode cX7_begin 69 = .ok (.if_icmp .ge 33, 3) := fq_162 fk_cX7_begin_4 5 rfl rfl rfl rfl rfl
theorem fk_cX7_begin_6 : fq_ck cX7_begin 96 [132, 2, 1, 167, 255, 223, 177] := fq_of fW_cX7_begin 6 rfl rfl
theorem dX7_begin_102 : decode cX7_begin 102 = .ok (.return_, 1) := fq_177 fk_cX7_begin_6 6 rfl rfl
theorem dX7_begin_72 : decode cX7_begin 72 = .ok (.aload_n 0, 1) := fq_42 fk_cX7_begin_4 8 rfl rfl
theorem dX7_begin_73 : decode cX7_begin 73 = .ok (.getfield 11, 3) := fq_180 fk_cX7_begin_4 9 rfl rfl rfl rfl rfl
theorem dX7_begin_76 : decode cX7_begin 76 = .ok (.bipush 27, 2) := fq_16 fk_cX7_begin_4 12 rfl rfl rfl rfl
theorem dX7_begin_78 : decode cX7_begin 78 = .ok (.iload_n 2, 1) := fq_28 fk_cX7_begin_4 14 rfl rfl
theorem dX7_begin_79 : decode cX7_begin 79 = .ok (.iadd, 1) := fq_96 fk_cX7_begin_4 15 rfl rfl
theorem fk_cX7_begin_5 : fq_ck cX7_begin 80 [2, 184, 0, 34, 42, 180, 0, 11, 16, 34, 28, 96, 2, 184, 0, 34, 132, 2] := fq_of fW_cX7_begin 5 rfl rfl
theorem dX7_begin_80 : decode cX7_begin 80 = .ok (.iconst (-1), 1) := fq_2 fk_cX7_begin_5 0 rfl rfl
theorem dX7_begin_81 : decode cX7_begin 81 = .ok (.invokestatic 34, 3) := fq_184 fk_cX7_begin_5 1 rfl rfl rfl rfl rfl
theorem wd_70 : Cond.code yX9_put cX9_put 3 none ∈ BG := BG_at2 34 rfl rfl
theorem wd_71 : Cond.initialized RX9 ∈ BG := BG_at1 1 (by decide +kernel) rfl
theorem wd_72 : Cond.static yX9_put ∈ BG := BG_at2 33 (by decide +kernel) rfl
theorem okS_X9_put : okS yX9_put cX9_put 3 none 3 := ⟨⟨wd_70, wd_71, by decide +kernel⟩, wd_72⟩
theorem dX7_begin_84 : decode cX7_begin 84 = .ok (.aload_n 0, 1) := fq_42 fk_cX7_begin_5 4 rfl rfl
theorem dX7_begin_85 : decode cX7_begin 85 = .ok (.getfield 11, 3) := fq_180 fk_cX7_begin_5 5 rfl rfl rfl rfl rfl
theorem dX7_begin_88 : decode cX7_begin 88 = .ok (.bipush 34, 2) := fq_16 fk_cX7_begin_5 8 rfl rfl rfl rfl
theorem dX7_begin_90 : decode cX7_begin 90 = .ok (.iload_n 2, 1) := fq_28 fk_cX7_begin_5 10 rfl rfl
theorem dX7_begin_91 : decode cX7_begin 91 = .ok (.iadd, 1) := fq_96 fk_cX7_begin_5 11 rfl rfl
theorem dX7_begin_92 : decode cX7_begin 92 = .ok (.iconst (-1), 1) := fq_2 fk_cX7_begin_5 12 rfl rfl
theorem dX7_begin_93 : decode cX7_begin 93 = .ok (.invokestatic 34, 3) := fq_184 fk_cX7_begin_5 13 rfl rfl rfl rfl rfl
theorem dX7_begin_96 : decode cX7_begin 96 = .ok (.iinc 2 1, 3) := fq_132 fk_cX7_begin_6 0 rfl rfl rfl rfl rfl
theorem dX7_begin_99 : decode cX7_begin 99 = .ok (.goto (-33), 3) := fq_167 fk_cX7_begin_6 3 rfl rfl rfl rfl rfl
theorem fk_cX7_begin_1 : fq_ck cX7_begin 16 [42, 180, 0, 11, 5, 28, 96, 28, 43, 180, 0, 21, 162, 0, 14, 43, 180, 0] := fq_of fW_cX7_begin 1 rfl rfl
theorem dX7_begin_16 : decode cX7_begin 16 = .ok (.aload_n 0, 1) := fq_42 fk_cX7_begin_1 0 rfl rfl
theorem dX7_begin_17 : decode cX7_begin 17 = .ok (.getfield 11, 3) := fq_180 fk_cX7_begin_1 1 rfl rfl rfl rfl rfl
theorem dX7_begin_20 : decode cX7_begin 20 = .ok (.iconst 2, 1) := fq_5 fk_cX7_begin_1 4 rfl rfl
theorem dX7_begin_21 : decode cX7_begin 21 = .ok (.iload_n 2, 1) := fq_28 fk_cX7_begin_1 5 rfl rfl
theorem dX7_begin_22 : decode cX7_begin 22 = .ok (.iadd, 1) := fq_96 fk_cX7_begin_1 6 rfl rfl
theorem dX7_begin_23 : decode cX7_begin 23 = .ok (.iload_n 2, 1) := fq_28 fk_cX7_begin_1 7 rfl rfl
theorem dX7_begin_24 : decode cX7_begin 24 = .ok (.aload_n 1, 1) := fq_43 fk_cX7_begin_1 8 rfl rfl
theorem wd_73 : Cond.fieldLink RX7 21 "QuarrelBridges$Town" "couples" "I" ∈ BG := BG_at1 69 (by decide +kernel) rfl
theorem dX7_begin_25 : decode cX7_begin 25 = .ok (.getfield 21, 3) := fq_180 fk_cX7_begin_1 9 rfl rfl rfl rfl rfl
theorem dX7_begin_28 : decode cX7_begin 28 = .ok (.if_icmp .ge 14, 3) := fq_162 fk_cX7_begin_1 12 rfl rfl rfl rfl rfl
theorem fk_cX7_begin_2 : fq_ck cX7_begin 32 [180, 0, 27, 28, 184, 0, 30, 167, 0, 4, 3, 184, 0, 34, 42, 180, 0, 11] := fq_of fW_cX7_begin 2 rfl rfl
theorem dX7_begin_42 : decode cX7_begin 42 = .ok (.iconst 0, 1) := fq_3 fk_cX7_begin_2 10 rfl rfl
theorem dX7_begin_43 : decode cX7_begin 43 = .ok (.invokestatic 34, 3) := fq_184 fk_cX7_begin_2 11 rfl rfl rfl rfl rfl
theorem dX7_begin_46 : decode cX7_begin 46 = .ok (.aload_n 0, 1) := fq_42 fk_cX7_begin_2 14 rfl rfl
theorem dX7_begin_47 : decode cX7_begin 47 = .ok (.getfield 11, 3) := fq_180 fk_cX7_begin_2 15 rfl rfl rfl rfl rfl
theorem fk_cX7_begin_3 : fq_ck cX7_begin 48 [0, 11, 16, 8, 28, 96, 2, 184, 0, 34, 132, 2, 1, 167, 255, 205, 3, 61] := fq_of fW_cX7_begin 3 rfl rfl
theorem dX7_begin_50 : decode cX7_begin 50 = .ok (.bipush 8, 2) := fq_16 fk_cX7_begin_3 2 rfl rfl rfl rfl
theorem dX7_begin_52 : decode cX7_begin 52 = .ok (.iload_n 2, 1) := fq_28 fk_cX7_begin_3 4 rfl rfl
theorem dX7_begin_53 : decode cX7_begin 53 = .ok (.iadd, 1) := fq_96 fk_cX7_begin_3 5 rfl rfl
theorem dX7_begin_54 : decode cX7_begin 54 = .ok (.iconst (-1), 1) := fq_2 fk_cX7_begin_3 6 rfl rfl
theorem dX7_begin_55 : decode cX7_begin 55 = .ok (.invokestatic 34, 3) := fq_184 fk_cX7_begin_3 7 rfl rfl rfl rfl rfl
theorem dX7_begin_58 : decode cX7_begin 58 = .ok (.iinc 2 1, 3) := fq_132 fk_cX7_begin_3 10 rfl rfl rfl rfl rfl
theorem dX7_begin_61 : decode cX7_begin 61 = .ok (.goto (-51), 3) := fq_167 fk_cX7_begin_3 13 rfl rfl rfl rfl rfl
def fillZ (f : Nat → Int32) : Nat → Nat → Int32
  | 0 => f
  | k + 1 => upd (fillZ f k) (nI k).toNatClampNeg 0
/-- begin(town) where the town has no couples -/
def cB1 (f : Nat → Int32) : Nat → Nat → Int32
  | 0 => fillZ f 41
  | k + 1 => putF 41 (putF 41 (cB1 f k) (2 + nI k) 0) (8 + nI k) (-1)
def cB2 (f : Nat → Int32) : Nat → Nat → Int32
  | 0 => cB1 f 6
  | k + 1 => putF 41 (putF 41 (cB2 f k) (27 + nI k) (-1)) (34 + nI k) (-1)
def rm_k_fill41 : Room := { frames := 0, cells := 0, slots := 0, locals := 0 }
set_option maxHeartbeats 4000000 in
set_option maxRecDepth 100000 in
theorem k_fill41 {l : Launch} {D : va_G} {cI cZ : ClassId} {sz : Nat} (a : Nat) (f : Nat → Int32) : KV l yJ7_fill_53178 cJ7_fill_53178 4 rm_k_fill41 D cI cZ [.ref a, .int 0] sz [(a, .inl (cI, 41, .inl f))] (fun (_ : Unit) => True) (fun (_ : Unit) => [(a, .inl (cI, 41, .inl (fillZ f 41)))]) := by
  refine KV.go rfl (Nat.le_of_ble_eq_true rfl) ?_
  intro p e s m args below meth c ls A Q hx hb hml hts hown hin hP hK hD hS hA hN hl hret
  have hl : lv_has ls 4 [(0, .ref a), (1, .int 0)] := hl
  refine lv_iconst (v := 0) hx hb dJ7_fill_53178_0 rfl ?_
  refine lv_istore_n (lv' := [(2, .int 0), (0, .ref a), (1, .int 0)]) hx hb dJ7_fill_53178_1 rfl hl (Nat.le_of_ble_eq_true rfl) rfl (fun ls hl => ?_)
  refine lv_aload_n hx hb dJ7_fill_53178_2 rfl (lv_at hl 1 rfl) ?_
  refine va_alen (v := 41) hx hb hK hP 0 0 rfl rfl rfl dJ7_fill_53178_3 ?_
  refine lv_istore_n (lv' := [(3, .int 41), (2, .int 0), (0, .ref a), (1, .int 0)]) hx hb dJ7_fill_53178_4 rfl hl (Nat.le_of_ble_eq_true rfl) rfl (fun ls hl => ?_)
  have lp_1 : ∀ (n k : Nat), k + n = 41 → ∀ (H : Heap) (locs : List Loc) (ls : Array Slot), va_P D classes [(a, .inl (cI, 41, .inl (fillZ f k)))] H → va_D A [(a, .inl (cI, 41, .inl (fillZ f k)))] → va_S A s.heap H locs → lv_has ls 4 [(3, .int 41), (2, .int (nI k)), (0, .ref a), (1, .int 0)] → W p l e rm_k_fill41 s m args below meth c H locs 0 0 Q (F0 m 5 ls []) := by
    intro n
    induction n with
    | zero =>
      intro k hk H locs ls hP hD hS hl
      obtain rfl : k = 41 := by omega
      refine lv_iload_n hx hb dJ7_fill_53178_5 rfl (lv_at hl 1 rfl) ?_
      refine lv_iload_n hx hb dJ7_fill_53178_6 rfl (lv_at hl 0 rfl) ?_
      refine lv_icmp_ge (tgt := 20) hx hb dJ7_fill_53178_7 rfl (fun c_2 => ?_) (fun c_2 => absurd (by decide +kernel) c_2)
      exact hret () _ _ _ _ dJ7_fill_53178_20 trivial hP hD hS
    | succ n ih_lp_1 =>
      intro k hk H locs ls hP hD hS hl
      have hkN_lp_1 : k < 41 := by omega
      refine lv_iload_n hx hb dJ7_fill_53178_5 rfl (lv_at hl 1 rfl) ?_
      refine lv_iload_n hx hb dJ7_fill_53178_6 rfl (lv_at hl 0 rfl) ?_
      refine lv_icmp_ge (tgt := 20) hx hb dJ7_fill_53178_7 rfl (fun c_3 => absurd c_3 (nI_ge hkN_lp_1 (by decide))) (fun c_3 => ?_)
      refine lv_aload_n hx hb dJ7_fill_53178_10 rfl (lv_at hl 2 rfl) ?_
      refine lv_iload_n hx hb dJ7_fill_53178_11 rfl (lv_at hl 1 rfl) ?_
      refine lv_iload_n hx hb dJ7_fill_53178_12 rfl (lv_at hl 3 rfl) ?_
      refine va_iast hx hb hK hP hD hS 0 0 rfl rfl (nI_in hkN_lp_1 (Nat.le_of_ble_eq_true rfl)) dJ7_fill_53178_13 (fun H locs hP hD hS => ?_)
      have hP : va_P D classes [(a, .inl (cI, 41, .inl (upd (fillZ f k) ((nI k) : Int32).toNatClampNeg 0)))] H := hP
      have hD : va_D A [(a, .inl (cI, 41, .inl (upd (fillZ f k) ((nI k) : Int32).toNatClampNeg 0)))] := hD
      refine lv_iinc (v := (nI (k + 1))) (lv' := [(2, .int (nI (k + 1))), (3, .int 41), (0, .ref a), (1, .int 0)]) hx hb dJ7_fill_53178_14 hl (k := 1) rfl (nI_1 k) (Nat.le_of_ble_eq_true rfl) rfl (fun ls hl => ?_)
      refine lv_goto (tgt := 5) hx hb dJ7_fill_53178_17 rfl ?_
      exact ih_lp_1 (k + 1) (by omega) _ _ ls hP hD hS (lv_sub hl [1, 0, 2, 3] rfl)
  exact lp_1 41 0 (by omega) _ _ ls hP hD hS hl
def rm_k_fill6 : Room := { frames := 0, cells := 0, slots := 0, locals := 0 }
set_option maxHeartbeats 4000000 in
set_option maxRecDepth 100000 in
theorem k_fill6 {l : Launch} {D : va_G} {cI cZ : ClassId} {sz : Nat} (a : Nat) (f : Nat → Int32) : KV l yJ7_fill_53178 cJ7_fill_53178 4 rm_k_fill6 D cI cZ [.ref a, .int 0] sz [(a, .inl (cI, 6, .inl f))] (fun (_ : Unit) => True) (fun (_ : Unit) => [(a, .inl (cI, 6, .inl (fillZ f 6)))]) := by
  refine KV.go rfl (Nat.le_of_ble_eq_true rfl) ?_
  intro p e s m args below meth c ls A Q hx hb hml hts hown hin hP hK hD hS hA hN hl hret
  have hl : lv_has ls 4 [(0, .ref a), (1, .int 0)] := hl
  refine lv_iconst (v := 0) hx hb dJ7_fill_53178_0 rfl ?_
  refine lv_istore_n (lv' := [(2, .int 0), (0, .ref a), (1, .int 0)]) hx hb dJ7_fill_53178_1 rfl hl (Nat.le_of_ble_eq_true rfl) rfl (fun ls hl => ?_)
  refine lv_aload_n hx hb dJ7_fill_53178_2 rfl (lv_at hl 1 rfl) ?_
  refine va_alen (v := 6) hx hb hK hP 0 0 rfl rfl rfl dJ7_fill_53178_3 ?_
  refine lv_istore_n (lv' := [(3, .int 6), (2, .int 0), (0, .ref a), (1, .int 0)]) hx hb dJ7_fill_53178_4 rfl hl (Nat.le_of_ble_eq_true rfl) rfl (fun ls hl => ?_)
  have lp_1 : ∀ (n k : Nat), k + n = 6 → ∀ (H : Heap) (locs : List Loc) (ls : Array Slot), va_P D classes [(a, .inl (cI, 6, .inl (fillZ f k)))] H → va_D A [(a, .inl (cI, 6, .inl (fillZ f k)))] → va_S A s.heap H locs → lv_has ls 4 [(3, .int 6), (2, .int (nI k)), (0, .ref a), (1, .int 0)] → W p l e rm_k_fill6 s m args below meth c H locs 0 0 Q (F0 m 5 ls []) := by
    intro n
    induction n with
    | zero =>
      intro k hk H locs ls hP hD hS hl
      obtain rfl : k = 6 := by omega
      refine lv_iload_n hx hb dJ7_fill_53178_5 rfl (lv_at hl 1 rfl) ?_
      refine lv_iload_n hx hb dJ7_fill_53178_6 rfl (lv_at hl 0 rfl) ?_
      refine lv_icmp_ge (tgt := 20) hx hb dJ7_fill_53178_7 rfl (fun c_2 => ?_) (fun c_2 => absurd (by decide +kernel) c_2)
      exact hret () _ _ _ _ dJ7_fill_53178_20 trivial hP hD hS
    | succ n ih_lp_1 =>
      intro k hk H locs ls hP hD hS hl
      have hkN_lp_1 : k < 6 := by omega
      refine lv_iload_n hx hb dJ7_fill_53178_5 rfl (lv_at hl 1 rfl) ?_
      refine lv_iload_n hx hb dJ7_fill_53178_6 rfl (lv_at hl 0 rfl) ?_
      refine lv_icmp_ge (tgt := 20) hx hb dJ7_fill_53178_7 rfl (fun c_3 => absurd c_3 (nI_ge hkN_lp_1 (by decide))) (fun c_3 => ?_)
      refine lv_aload_n hx hb dJ7_fill_53178_10 rfl (lv_at hl 2 rfl) ?_
      refine lv_iload_n hx hb dJ7_fill_53178_11 rfl (lv_at hl 1 rfl) ?_
      refine lv_iload_n hx hb dJ7_fill_53178_12 rfl (lv_at hl 3 rfl) ?_
      refine va_iast hx hb hK hP hD hS 0 0 rfl rfl (nI_in hkN_lp_1 (Nat.le_of_ble_eq_true rfl)) dJ7_fill_53178_13 (fun H locs hP hD hS => ?_)
      have hP : va_P D classes [(a, .inl (cI, 6, .inl (upd (fillZ f k) ((nI k) : Int32).toNatClampNeg 0)))] H := hP
      have hD : va_D A [(a, .inl (cI, 6, .inl (upd (fillZ f k) ((nI k) : Int32).toNatClampNeg 0)))] := hD
      refine lv_iinc (v := (nI (k + 1))) (lv' := [(2, .int (nI (k + 1))), (3, .int 6), (0, .ref a), (1, .int 0)]) hx hb dJ7_fill_53178_14 hl (k := 1) rfl (nI_1 k) (Nat.le_of_ble_eq_true rfl) rfl (fun ls hl => ?_)
      refine lv_goto (tgt := 5) hx hb dJ7_fill_53178_17 rfl ?_
      exact ih_lp_1 (k + 1) (by omega) _ _ ls hP hD hS (lv_sub hl [1, 0, 2, 3] rfl)
  exact lp_1 6 0 (by omega) _ _ ls hP hD hS hl
def rm_k_fill48 : Room := { frames := 0, cells := 0, slots := 0, locals := 0 }
set_option maxHeartbeats 4000000 in
set_option maxRecDepth 100000 in
theorem k_fill48 {l : Launch} {D : va_G} {cI cZ : ClassId} {sz : Nat} (a : Nat) (f : Nat → Int32) : KV l yJ7_fill_53178 cJ7_fill_53178 4 rm_k_fill48 D cI cZ [.ref a, .int 0] sz [(a, .inl (cI, 48, .inl f))] (fun (_ : Unit) => True) (fun (_ : Unit) => [(a, .inl (cI, 48, .inl (fillZ f 48)))]) := by
  refine KV.go rfl (Nat.le_of_ble_eq_true rfl) ?_
  intro p e s m args below meth c ls A Q hx hb hml hts hown hin hP hK hD hS hA hN hl hret
  have hl : lv_has ls 4 [(0, .ref a), (1, .int 0)] := hl
  refine lv_iconst (v := 0) hx hb dJ7_fill_53178_0 rfl ?_
  refine lv_istore_n (lv' := [(2, .int 0), (0, .ref a), (1, .int 0)]) hx hb dJ7_fill_53178_1 rfl hl (Nat.le_of_ble_eq_true rfl) rfl (fun ls hl => ?_)
  refine lv_aload_n hx hb dJ7_fill_53178_2 rfl (lv_at hl 1 rfl) ?_
  refine va_alen (v := 48) hx hb hK hP 0 0 rfl rfl rfl dJ7_fill_53178_3 ?_
  refine lv_istore_n (lv' := [(3, .int 48), (2, .int 0), (0, .ref a), (1, .int 0)]) hx hb dJ7_fill_53178_4 rfl hl (Nat.le_of_ble_eq_true rfl) rfl (fun ls hl => ?_)
  have lp_1 : ∀ (n k : Nat), k + n = 48 → ∀ (H : Heap) (locs : List Loc) (ls : Array Slot), va_P D classes [(a, .inl (cI, 48, .inl (fillZ f k)))] H → va_D A [(a, .inl (cI, 48, .inl (fillZ f k)))] → va_S A s.heap H locs → lv_has ls 4 [(3, .int 48), (2, .int (nI k)), (0, .ref a), (1, .int 0)] → W p l e rm_k_fill48 s m args below meth c H locs 0 0 Q (F0 m 5 ls []) := by
    intro n
    induction n with
    | zero =>
      intro k hk H locs ls hP hD hS hl
      obtain rfl : k = 48 := by omega
      refine lv_iload_n hx hb dJ7_fill_53178_5 rfl (lv_at hl 1 rfl) ?_
      refine lv_iload_n hx hb dJ7_fill_53178_6 rfl (lv_at hl 0 rfl) ?_
      refine lv_icmp_ge (tgt := 20) hx hb dJ7_fill_53178_7 rfl (fun c_2 => ?_) (fun c_2 => absurd (by decide +kernel) c_2)
      exact hret () _ _ _ _ dJ7_fill_53178_20 trivial hP hD hS
    | succ n ih_lp_1 =>
      intro k hk H locs ls hP hD hS hl
      have hkN_lp_1 : k < 48 := by omega
      refine lv_iload_n hx hb dJ7_fill_53178_5 rfl (lv_at hl 1 rfl) ?_
      refine lv_iload_n hx hb dJ7_fill_53178_6 rfl (lv_at hl 0 rfl) ?_
      refine lv_icmp_ge (tgt := 20) hx hb dJ7_fill_53178_7 rfl (fun c_3 => absurd c_3 (nI_ge hkN_lp_1 (by decide))) (fun c_3 => ?_)
      refine lv_aload_n hx hb dJ7_fill_53178_10 rfl (lv_at hl 2 rfl) ?_
      refine lv_iload_n hx hb dJ7_fill_53178_11 rfl (lv_at hl 1 rfl) ?_
      refine lv_iload_n hx hb dJ7_fill_53178_12 rfl (lv_at hl 3 rfl) ?_
      refine va_iast hx hb hK hP hD hS 0 0 rfl rfl (nI_in hkN_lp_1 (Nat.le_of_ble_eq_true rfl)) dJ7_fill_53178_13 (fun H locs hP hD hS => ?_)
      have hP : va_P D classes [(a, .inl (cI, 48, .inl (upd (fillZ f k) ((nI k) : Int32).toNatClampNeg 0)))] H := hP
      have hD : va_D A [(a, .inl (cI, 48, .inl (upd (fillZ f k) ((nI k) : Int32).toNatClampNeg 0)))] := hD
      refine lv_iinc (v := (nI (k + 1))) (lv' := [(2, .int (nI (k + 1))), (3, .int 48), (0, .ref a), (1, .int 0)]) hx hb dJ7_fill_53178_14 hl (k := 1) rfl (nI_1 k) (Nat.le_of_ble_eq_true rfl) rfl (fun ls hl => ?_)
      refine lv_goto (tgt := 5) hx hb dJ7_fill_53178_17 rfl ?_
      exact ih_lp_1 (k + 1) (by omega) _ _ ls hP hD hS (lv_sub hl [1, 0, 2, 3] rfl)
  exact lp_1 48 0 (by omega) _ _ ls hP hD hS hl
def rm_k_begin : Room := { frames := 1, cells := 0, slots := 0, locals := 23 }
set_option maxHeartbeats 4000000 in
set_option maxRecDepth 100000 in
theorem k_begin {l : Launch} {D : va_G} {cI cZ : ClassId} {sz : Nat} (h a : Nat) (f : Nat → Int32) (t : Nat) (t0 t1 t3 t4 : Int32) (ta tb tc td te : Nat) : KV l yX7_begin cX7_begin 3 rm_k_begin D cI cZ [.ref h, .ref t] sz [(h, .inr (7, [.ref a])), (a, .inl (cI, 41, .inl f)), (t, .inr (8, [.int t0, .int t1, .int 0, .int t3, .int t4, .ref ta, .ref tb, .ref tc, .ref td, .ref te]))] (fun (_ : Unit) => True) (fun (_ : Unit) => [(h, .inr (7, [.ref a])), (a, .inl (cI, 41, .inl (cB2 f 7))), (t, .inr (8, [.int t0, .int t1, .int 0, .int t3, .int t4, .ref ta, .ref tb, .ref tc, .ref td, .ref te]))]) := by
  refine KV.go rfl (Nat.le_of_ble_eq_true rfl) ?_
  intro p e s m args below meth c ls A Q hx hb hml hts hown hin hP hK hD hS hA hN hl hret
  have hl : lv_has ls 3 [(0, .ref h), (1, .ref t)] := hl
  refine lv_aload_n hx hb dX7_begin_0 rfl (lv_at hl 0 rfl) ?_
  refine va_get (D := D) (ci := 7) (v := .ref a) (C := RX7) (T := TX7) (N := 1) hx hb hts iX7 hown hK hP 0 rfl rfl 0 (Nat.le_of_ble_eq_true rfl) (hts _ wd_15) (fun _ h9 => h9) rfl dX7_begin_1 ?_
  refine lv_iconst (v := 0) hx hb dX7_begin_4 rfl ?_
  refine cSv (wr := [(h, .inr (7, [.ref a])), (t, .inr (8, [.int t0, .int t1, .int 0, .int t3, .int t4, .ref ta, .ref tb, .ref tc, .ref td, .ref te]))]) (rest := []) (k_fill41 a f) okS_J7_fill_53178 wd_66 hx hb hml hown hts hK hP hD hS hA hN hl.1 [1] [0, 2] rfl rfl rfl rfl (of_decide_eq_true rfl) rfl (Nat.le_of_ble_eq_true rfl) (Nat.le_of_ble_eq_true rfl) (Nat.le_of_ble_eq_true rfl) (Nat.le_of_ble_eq_true rfl) (Nat.le_of_ble_eq_true rfl) dX7_begin_5 (fun u_1 H locs hw_u_1 hP hD hS => ?_)
  have hP : va_P D classes [(h, .inr (7, [.ref a])), (t, .inr (8, [.int t0, .int t1, .int 0, .int t3, .int t4, .ref ta, .ref tb, .ref tc, .ref td, .ref te])), (a, .inl (cI, 41, .inl (fillZ f 41)))] H := hP
  have hD : va_D A [(h, .inr (7, [.ref a])), (t, .inr (8, [.int t0, .int t1, .int 0, .int t3, .int t4, .ref ta, .ref tb, .ref tc, .ref td, .ref te])), (a, .inl (cI, 41, .inl (fillZ f 41)))] := hD
  refine lv_iconst (v := 0) hx hb dX7_begin_8 rfl ?_
  refine lv_istore_n (lv' := [(2, .int 0), (0, .ref h), (1, .ref t)]) hx hb dX7_begin_9 rfl hl (Nat.le_of_ble_eq_true rfl) rfl (fun ls hl => ?_)
  have lp_3 : ∀ (n k : Nat), k + n = 6 → ∀ (H : Heap) (locs : List Loc) (ls : Array Slot), va_P D classes [(h, .inr (7, [.ref a])), (t, .inr (8, [.int t0, .int t1, .int 0, .int t3, .int t4, .ref ta, .ref tb, .ref tc, .ref td, .ref te])), (a, .inl (cI, 41, .inl (cB1 f k)))] H → va_D A [(h, .inr (7, [.ref a])), (t, .inr (8, [.int t0, .int t1, .int 0, .int t3, .int t4, .ref ta, .ref tb, .ref tc, .ref td, .ref te])), (a, .inl (cI, 41, .inl (cB1 f k)))] → va_S A s.heap H locs → lv_has ls 3 [(2, .int (nI k)), (0, .ref h), (1, .ref t)] → W p l e rm_k_begin s m args below meth c H locs 0 0 Q (F0 m 10 ls []) := by
    intro n
    induction n with
    | zero =>
      intro k hk H locs ls hP hD hS hl
      obtain rfl : k = 6 := by omega
      refine lv_iload_n hx hb dX7_begin_10 rfl (lv_at hl 0 rfl) ?_
      refine lv_bipush (v := 6) hx hb dX7_begin_11 rfl ?_
      refine lv_icmp_ge (tgt := 64) hx hb dX7_begin_13 rfl (fun c_4 => ?_) (fun c_4 => absurd (by decide +kernel) c_4)
      refine lv_iconst (v := 0) hx hb dX7_begin_64 rfl ?_
      refine lv_istore_n (lv' := [(2, .int 0), (0, .ref h), (1, .ref t)]) hx hb dX7_begin_65 rfl hl (Nat.le_of_ble_eq_true rfl) rfl (fun ls hl => ?_)
      have lp_5 : ∀ (n j : Nat), j + n = 7 → ∀ (H : Heap) (locs : List Loc) (ls : Array Slot), va_P D classes [(h, .inr (7, [.ref a])), (t, .inr (8, [.int t0, .int t1, .int 0, .int t3, .int t4, .ref ta, .ref tb, .ref tc, .ref td, .ref te])), (a, .inl (cI, 41, .inl (cB2 f j)))] H → va_D A [(h, .inr (7, [.ref a])), (t, .inr (8, [.int t0, .int t1, .int 0, .int t3, .int t4, .ref ta, .ref tb, .ref tc, .ref td, .ref te])), (a, .inl (cI, 41, .inl (cB2 f j)))] → va_S A s.heap H locs → lv_has ls 3 [(2, .int (nI j)), (0, .ref h), (1, .ref t)] → W p l e rm_k_begin s m args below meth c H locs 0 0 Q (F0 m 66 ls []) := by
        intro n
        induction n with
        | zero =>
          intro j hk H locs ls hP hD hS hl
          obtain rfl : j = 7 := by omega
          refine lv_iload_n hx hb dX7_begin_66 rfl (lv_at hl 0 rfl) ?_
          refine lv_bipush (v := 7) hx hb dX7_begin_67 rfl ?_
          refine lv_icmp_ge (tgt := 102) hx hb dX7_begin_69 rfl (fun c_6 => ?_) (fun c_6 => absurd (by decide +kernel) c_6)
          exact hret () _ _ _ _ dX7_begin_102 trivial (cutP (isC := [0, 2, 1]) hP rfl) (cutD (isC := [0, 2, 1]) hD rfl rfl) hS
        | succ n ih_lp_5 =>
          intro j hk H locs ls hP hD hS hl
          have hkN_lp_5 : j < 7 := by omega
          refine lv_iload_n hx hb dX7_begin_66 rfl (lv_at hl 0 rfl) ?_
          refine lv_bipush (v := 7) hx hb dX7_begin_67 rfl ?_
          refine lv_icmp_ge (tgt := 102) hx hb dX7_begin_69 rfl (fun c_7 => absurd c_7 (nI_ge hkN_lp_5 (by decide))) (fun c_7 => ?_)
          refine lv_aload_n hx hb dX7_begin_72 rfl (lv_at hl 1 rfl) ?_
          refine va_get (D := D) (ci := 7) (v := .ref a) (C := RX7) (T := TX7) (N := 1) hx hb hts iX7 hown hK hP 0 rfl rfl 0 (Nat.le_of_ble_eq_true rfl) (hts _ wd_15) (fun _ h9 => h9) rfl dX7_begin_73 ?_
          refine lv_bipush (v := 27) hx hb dX7_begin_76 rfl ?_
          refine lv_iload_n hx hb dX7_begin_78 rfl (lv_at hl 0 rfl) ?_
          refine lv_iadd hx hb dX7_begin_79 ?_
          refine lv_iconst (v := (-1)) hx hb dX7_begin_80 rfl ?_
          refine cNv (wr := [(h, .inr (7, [.ref a])), (t, .inr (8, [.int t0, .int t1, .int 0, .int t3, .int t4, .ref ta, .ref tb, .ref tc, .ref td, .ref te]))]) (rest := []) (k_put a 41 (cB2 f j) (27 + (nI j)) (-1) (of_decide_eq_true rfl)) okS_X9_put 17 rfl hx hb hml hown hts hK hP hD hS hA hN hl.1 [2] [0, 1] rfl rfl rfl rfl (by decide) rfl (Nat.le_of_ble_eq_true rfl) (Nat.le_of_ble_eq_true rfl) (Nat.le_of_ble_eq_true rfl) (Nat.le_of_ble_eq_true rfl) (Nat.le_of_ble_eq_true rfl) dX7_begin_81 (fun u_8 H locs hw_u_8 hP hD hS => ?_)
          have hP : va_P D classes [(h, .inr (7, [.ref a])), (t, .inr (8, [.int t0, .int t1, .int 0, .int t3, .int t4, .ref ta, .ref tb, .ref tc, .ref td, .ref te])), (a, .inl (cI, 41, .inl (putF 41 (cB2 f j) (27 + (nI j)) (-1))))] H := hP
          have hD : va_D A [(h, .inr (7, [.ref a])), (t, .inr (8, [.int t0, .int t1, .int 0, .int t3, .int t4, .ref ta, .ref tb, .ref tc, .ref td, .ref te])), (a, .inl (cI, 41, .inl (putF 41 (cB2 f j) (27 + (nI j)) (-1))))] := hD
          refine lv_aload_n hx hb dX7_begin_84 rfl (lv_at hl 1 rfl) ?_
          refine va_get (D := D) (ci := 7) (v := .ref a) (C := RX7) (T := TX7) (N := 1) hx hb hts iX7 hown hK hP 0 rfl rfl 0 (Nat.le_of_ble_eq_true rfl) (hts _ wd_15) (fun _ h9 => h9) rfl dX7_begin_85 ?_
          refine lv_bipush (v := 34) hx hb dX7_begin_88 rfl ?_
          refine lv_iload_n hx hb dX7_begin_90 rfl (lv_at hl 0 rfl) ?_
          refine lv_iadd hx hb dX7_begin_91 ?_
          refine lv_iconst (v := (-1)) hx hb dX7_begin_92 rfl ?_
          refine cNv (wr := [(h, .inr (7, [.ref a])), (t, .inr (8, [.int t0, .int t1, .int 0, .int t3, .int t4, .ref ta, .ref tb, .ref tc, .ref td, .ref te]))]) (rest := []) (k_put a 41 (putF 41 (cB2 f j) (27 + (nI j)) (-1)) (34 + (nI j)) (-1) (of_decide_eq_true rfl)) okS_X9_put 17 rfl hx hb hml hown hts hK hP hD hS hA hN hl.1 [2] [0, 1] rfl rfl rfl rfl (by decide) rfl (Nat.le_of_ble_eq_true rfl) (Nat.le_of_ble_eq_true rfl) (Nat.le_of_ble_eq_true rfl) (Nat.le_of_ble_eq_true rfl) (Nat.le_of_ble_eq_true rfl) dX7_begin_93 (fun u_10 H locs hw_u_10 hP hD hS => ?_)
          have hP : va_P D classes [(h, .inr (7, [.ref a])), (t, .inr (8, [.int t0, .int t1, .int 0, .int t3, .int t4, .ref ta, .ref tb, .ref tc, .ref td, .ref te])), (a, .inl (cI, 41, .inl (putF 41 (putF 41 (cB2 f j) (27 + (nI j)) (-1)) (34 + (nI j)) (-1))))] H := hP
          have hD : va_D A [(h, .inr (7, [.ref a])), (t, .inr (8, [.int t0, .int t1, .int 0, .int t3, .int t4, .ref ta, .ref tb, .ref tc, .ref td, .ref te])), (a, .inl (cI, 41, .inl (putF 41 (putF 41 (cB2 f j) (27 + (nI j)) (-1)) (34 + (nI j)) (-1))))] := hD
          refine lv_iinc (v := (nI (j + 1))) (lv' := [(2, .int (nI (j + 1))), (0, .ref h), (1, .ref t)]) hx hb dX7_begin_96 hl (k := 0) rfl (nI_1 j) (Nat.le_of_ble_eq_true rfl) rfl (fun ls hl => ?_)
          refine lv_goto (tgt := 66) hx hb dX7_begin_99 rfl ?_
          exact ih_lp_5 (j + 1) (by omega) _ _ ls hP hD hS (lv_sub hl [0, 1, 2] rfl)
      exact lp_5 7 0 (by omega) _ _ ls hP hD hS hl
    | succ n ih_lp_3 =>
      intro k hk H locs ls hP hD hS hl
      have hkN_lp_3 : k < 6 := by omega
      refine lv_iload_n hx hb dX7_begin_10 rfl (lv_at hl 0 rfl) ?_
      refine lv_bipush (v := 6) hx hb dX7_begin_11 rfl ?_
      refine lv_icmp_ge (tgt := 64) hx hb dX7_begin_13 rfl (fun c_12 => absurd c_12 (nI_ge hkN_lp_3 (by decide))) (fun c_12 => ?_)
      refine lv_aload_n hx hb dX7_begin_16 rfl (lv_at hl 1 rfl) ?_
      refine va_get (D := D) (ci := 7) (v := .ref a) (C := RX7) (T := TX7) (N := 1) hx hb hts iX7 hown hK hP 0 rfl rfl 0 (Nat.le_of_ble_eq_true rfl) (hts _ wd_15) (fun _ h9 => h9) rfl dX7_begin_17 ?_
      refine lv_iconst (v := 2) hx hb dX7_begin_20 rfl ?_
      refine lv_iload_n hx hb dX7_begin_21 rfl (lv_at hl 0 rfl) ?_
      refine lv_iadd hx hb dX7_begin_22 ?_
      refine lv_iload_n hx hb dX7_begin_23 rfl (lv_at hl 0 rfl) ?_
      refine lv_aload_n hx hb dX7_begin_24 rfl (lv_at hl 2 rfl) ?_
      refine va_get (D := D) (ci := 8) (v := .int 0) (C := RX8) (T := TX8) (N := 10) hx hb hts iX8 hown hK hP 1 rfl rfl 2 (Nat.le_of_ble_eq_true rfl) (hts _ wd_73) (fun _ h9 => h9) rfl dX7_begin_25 ?_
      refine lv_icmp_ge (tgt := 42) hx hb dX7_begin_28 rfl (fun c_13 => ?_) (fun c_13 => absurd (nI_pos' (by omega)) c_13)
      refine lv_iconst (v := 0) hx hb dX7_begin_42 rfl ?_
      refine cNv (wr := [(h, .inr (7, [.ref a])), (t, .inr (8, [.int t0, .int t1, .int 0, .int t3, .int t4, .ref ta, .ref tb, .ref tc, .ref td, .ref te]))]) (rest := []) (k_put a 41 (cB1 f k) (2 + (nI k)) 0 (of_decide_eq_true rfl)) okS_X9_put 17 rfl hx hb hml hown hts hK hP hD hS hA hN hl.1 [2] [0, 1] rfl rfl rfl rfl (by decide) rfl (Nat.le_of_ble_eq_true rfl) (Nat.le_of_ble_eq_true rfl) (Nat.le_of_ble_eq_true rfl) (Nat.le_of_ble_eq_true rfl) (Nat.le_of_ble_eq_true rfl) dX7_begin_43 (fun u_14 H locs hw_u_14 hP hD hS => ?_)
      have hP : va_P D classes [(h, .inr (7, [.ref a])), (t, .inr (8, [.int t0, .int t1, .int 0, .int t3, .int t4, .ref ta, .ref tb, .ref tc, .ref td, .ref te])), (a, .inl (cI, 41, .inl (putF 41 (cB1 f k) (2 + (nI k)) 0)))] H := hP
      have hD : va_D A [(h, .inr (7, [.ref a])), (t, .inr (8, [.int t0, .int t1, .int 0, .int t3, .int t4, .ref ta, .ref tb, .ref tc, .ref td, .ref te])), (a, .inl (cI, 41, .inl (putF 41 (cB1 f k) (2 + (nI k)) 0)))] := hD
      refine lv_aload_n hx hb dX7_begin_46 rfl (lv_at hl 1 rfl) ?_
      refine va_get (D := D) (ci := 7) (v := .ref a) (C := RX7) (T := TX7) (N := 1) hx hb hts iX7 hown hK hP 0 rfl rfl 0 (Nat.le_of_ble_eq_true rfl) (hts _ wd_15) (fun _ h9 => h9) rfl dX7_begin_47 ?_
      refine lv_bipush (v := 8) hx hb dX7_begin_50 rfl ?_
      refine lv_iload_n hx hb dX7_begin_52 rfl (lv_at hl 0 rfl) ?_
      refine lv_iadd hx hb dX7_begin_53 ?_
      refine lv_iconst (v := (-1)) hx hb dX7_begin_54 rfl ?_
      refine cNv (wr := [(h, .inr (7, [.ref a])), (t, .inr (8, [.int t0, .int t1, .int 0, .int t3, .int t4, .ref ta, .ref tb, .ref tc, .ref td, .ref te]))]) (rest := []) (k_put a 41 (putF 41 (cB1 f k) (2 + (nI k)) 0) (8 + (nI k)) (-1) (of_decide_eq_true rfl)) okS_X9_put 17 rfl hx hb hml hown hts hK hP hD hS hA hN hl.1 [2] [0, 1] rfl rfl rfl rfl (by decide) rfl (Nat.le_of_ble_eq_true rfl) (Nat.le_of_ble_eq_true rfl) (Nat.le_of_ble_eq_true rfl) (Nat.le_of_ble_eq_true rfl) (Nat.le_of_ble_eq_true rfl) dX7_begin_55 (fun u_16 H locs hw_u_16 hP hD hS => ?_)
      have hP : va_P D classes [(h, .inr (7, [.ref a])), (t, .inr (8, [.int t0, .int t1, .int 0, .int t3, .int t4, .ref ta, .ref tb, .ref tc, .ref td, .ref te])), (a, .inl (cI, 41, .inl (putF 41 (putF 41 (cB1 f k) (2 + (nI k)) 0) (8 + (nI k)) (-1))))] H := hP
      have hD : va_D A [(h, .inr (7, [.ref a])), (t, .inr (8, [.int t0, .int t1, .int 0, .int t3, .int t4, .ref ta, .ref tb, .ref tc, .ref td, .ref te])), (a, .inl (cI, 41, .inl (putF 41 (putF 41 (cB1 f k) (2 + (nI k)) 0) (8 + (nI k)) (-1))))] := hD
      refine lv_iinc (v := (nI (k + 1))) (lv' := [(2, .int (nI (k + 1))), (0, .ref h), (1, .ref t)]) hx hb dX7_begin_58 hl (k := 0) rfl (nI_1 k) (Nat.le_of_ble_eq_true rfl) rfl (fun ls hl => ?_)
      refine lv_goto (tgt := 10) hx hb dX7_begin_61 rfl ?_
      exact ih_lp_3 (k + 1) (by omega) _ _ ls hP hD hS (lv_sub hl [0, 1, 2] rfl)
  exact lp_3 6 0 (by omega) _ _ ls hP hD hS hl
end
section
def fw_cX9_init : List (List Nat) := [[42, 183, 0, 1, 42, 17, 0, 240, 188, 10, 181, 0, 9, 42, 3, 181, 0, 13], [0, 13, 42, 2, 181, 0, 17, 42, 187, 0, 20, 89, 183, 0, 22, 181, 0, 23], [0, 23, 42, 187, 0, 27, 89, 183, 0, 29, 181, 0, 30, 42, 187, 0, 27, 89], [27, 89, 183, 0, 29, 181, 0, 34, 42, 187, 0, 37, 89, 183, 0, 39, 181, 0], [181, 0, 40, 42, 187, 0, 44, 89, 183, 0, 46, 181, 0, 47, 42, 187, 0, 51], [0, 51, 89, 5, 183, 0, 53, 181, 0, 56, 42, 5, 188, 10, 181, 0, 60, 42], [60, 42, 3, 181, 0, 63, 42, 187, 0, 66, 89, 183, 0, 68, 181, 0, 69, 42], [69, 42, 3, 181, 0, 73, 42, 187, 0, 76, 89, 183, 0, 78, 181, 0, 79, 42], [79, 42, 187, 0, 83, 89, 183, 0, 85, 181, 0, 86, 42, 187, 0, 90, 89, 183], [89, 183, 0, 92, 181, 0, 93, 42, 16, 30, 188, 10, 181, 0, 97, 42, 180, 0], [180, 0, 40, 42, 180, 0, 30, 182, 0, 100, 177]]
theorem fW_cX9_init : fq_wins 11 cX9_init.data.toList = fw_cX9_init := by decide +kernel
theorem fk_cX9_init_0 : fq_ck cX9_init 0 [42, 183, 0, 1, 42, 17, 0, 240, 188, 10, 181, 0, 9, 42, 3, 181, 0, 13] := fq_of fW_cX9_init 0 rfl rfl
theorem dX9_init_0 : decode cX9_init 0 = .ok (.aload_n 0, 1) := fq_42 fk_cX9_init_0 0 rfl rfl
theorem dX9_init_1 : decode cX9_init 1 = .ok (.invokespecial 1, 3) := fq_183 fk_cX9_init_0 1 rfl rfl rfl rfl rfl
theorem wd_74 : Cond.methodLink RX9 1 objectInit ∈ BG := BG_in (by decide +kernel) rfl
theorem dX9_init_4 : decode cX9_init 4 = .ok (.aload_n 0, 1) := fq_42 fk_cX9_init_0 4 rfl rfl
theorem dX9_init_5 : decode cX9_init 5 = .ok (.sipush 240, 3) := fq_17 fk_cX9_init_0 5 rfl rfl rfl rfl rfl
theorem dX9_init_8 : decode cX9_init 8 = .ok (.newarray .int, 2) := fq_188_10 fk_cX9_init_0 8 rfl rfl rfl
theorem iX9_t : ∀ w ∈ wsX90, w ∈ lw_tbl ∧ goodWord w = true := by decide +kernel
theorem iX9 : ∀ w ∈ wsX90, w ∈ BG := fun w h => BG_in (iX9_t w h).1 (iX9_t w h).2
theorem wd_75 : Cond.fieldLink RX9 9 "QuarrelBridges" "text" "[I" ∈ BG := BG_at2 35 (by decide +kernel) rfl
theorem dX9_init_10 : decode cX9_init 10 = .ok (.putfield 9, 3) := fq_181 fk_cX9_init_0 10 rfl rfl rfl rfl rfl
theorem dX9_init_13 : decode cX9_init 13 = .ok (.aload_n 0, 1) := fq_42 fk_cX9_init_0 13 rfl rfl
theorem dX9_init_14 : decode cX9_init 14 = .ok (.iconst 0, 1) := fq_3 fk_cX9_init_0 14 rfl rfl
theorem wd_76 : Cond.fieldLink RX9 13 "QuarrelBridges" "letters" "I" ∈ BG := BG_at2 36 (by decide +kernel) rfl
theorem dX9_init_15 : decode cX9_init 15 = .ok (.putfield 13, 3) := fq_181 fk_cX9_init_0 15 rfl rfl rfl rfl rfl
theorem fk_cX9_init_1 : fq_ck cX9_init 16 [0, 13, 42, 2, 181, 0, 17, 42, 187, 0, 20, 89, 183, 0, 22, 181, 0, 23] := fq_of fW_cX9_init 1 rfl rfl
theorem dX9_init_18 : decode cX9_init 18 = .ok (.aload_n 0, 1) := fq_42 fk_cX9_init_1 2 rfl rfl
theorem dX9_init_19 : decode cX9_init 19 = .ok (.iconst (-1), 1) := fq_2 fk_cX9_init_1 3 rfl rfl
theorem wd_77 : Cond.fieldLink RX9 17 "QuarrelBridges" "faultAt" "I" ∈ BG := BG_at2 37 (by decide +kernel) rfl
theorem dX9_init_20 : decode cX9_init 20 = .ok (.putfield 17, 3) := fq_181 fk_cX9_init_1 4 rfl rfl rfl rfl rfl
theorem dX9_init_23 : decode cX9_init 23 = .ok (.aload_n 0, 1) := fq_42 fk_cX9_init_1 7 rfl rfl
theorem wd_78 : Cond.classLink RX9 20 RX5 ∈ BG := BG_at1 24 (by decide +kernel) rfl
theorem wd_79 : Cond.instantiable RX5 7 ∈ BG := BG_at1 25 (by decide +kernel) rfl
theorem wd_80 : Cond.initialized RX5 ∈ BG := BG_at1 2 (by decide +kernel) rfl
theorem dX9_init_24 : decode cX9_init 24 = .ok (.new 20, 3) := fq_187 fk_cX9_init_1 8 rfl rfl rfl rfl rfl
theorem dX9_init_27 : decode cX9_init 27 = .ok (.dup, 1) := fq_89 fk_cX9_init_1 11 rfl rfl
theorem dX9_init_28 : decode cX9_init 28 = .ok (.invokespecial 22, 3) := fq_183 fk_cX9_init_1 12 rfl rfl rfl rfl rfl
theorem wd_81 : Cond.code yX5_init cX5_init 1 none ∈ BG := BG_at1 28 rfl rfl
theorem wd_82 : Cond.instanceMethod yX5_init ∈ BG := BG_at1 27 (by decide +kernel) rfl
theorem okI_X5_init : okI yX5_init cX5_init 1 0 := ⟨⟨wd_81, wd_80, by decide +kernel⟩, wd_82, rfl⟩
theorem wd_83 : Cond.fieldLink RX9 23 "QuarrelBridges" "reader" "LQuarrelBridges$Reader;" ∈ BG := BG_at2 38 (by decide +kernel) rfl
theorem dX9_init_31 : decode cX9_init 31 = .ok (.putfield 23, 3) := fq_181 fk_cX9_init_1 15 rfl rfl rfl rfl rfl
theorem fk_cX9_init_2 : fq_ck cX9_init 32 [0, 23, 42, 187, 0, 27, 89, 183, 0, 29, 181, 0, 30, 42, 187, 0, 27, 89] := fq_of fW_cX9_init 2 rfl rfl
theorem dX9_init_34 : decode cX9_init 34 = .ok (.aload_n 0, 1) := fq_42 fk_cX9_init_2 2 rfl rfl
theorem wd_84 : Cond.classLink RX9 27 RX8 ∈ BG := BG_at1 55 (by decide +kernel) rfl
theorem wd_85 : Cond.instantiable RX8 10 ∈ BG := BG_at1 56 (by decide +kernel) rfl
theorem wd_86 : Cond.initialized RX8 ∈ BG := BG_at1 3 (by decide +kernel) rfl
theorem dX9_init_35 : decode cX9_init 35 = .ok (.new 27, 3) := fq_187 fk_cX9_init_2 3 rfl rfl rfl rfl rfl
theorem dX9_init_38 : decode cX9_init 38 = .ok (.dup, 1) := fq_89 fk_cX9_init_2 6 rfl rfl
theorem dX9_init_39 : decode cX9_init 39 = .ok (.invokespecial 29, 3) := fq_183 fk_cX9_init_2 7 rfl rfl rfl rfl rfl
theorem wd_87 : Cond.code yX8_init cX8_init 1 none ∈ BG := BG_at1 59 rfl rfl
theorem wd_88 : Cond.instanceMethod yX8_init ∈ BG := BG_at1 58 (by decide +kernel) rfl
theorem okI_X8_init : okI yX8_init cX8_init 1 0 := ⟨⟨wd_87, wd_86, by decide +kernel⟩, wd_88, rfl⟩
theorem wd_89 : Cond.fieldLink RX9 30 "QuarrelBridges" "town" "LQuarrelBridges$Town;" ∈ BG := BG_at2 39 (by decide +kernel) rfl
theorem dX9_init_42 : decode cX9_init 42 = .ok (.putfield 30, 3) := fq_181 fk_cX9_init_2 10 rfl rfl rfl rfl rfl
theorem dX9_init_45 : decode cX9_init 45 = .ok (.aload_n 0, 1) := fq_42 fk_cX9_init_2 13 rfl rfl
theorem dX9_init_46 : decode cX9_init 46 = .ok (.new 27, 3) := fq_187 fk_cX9_init_2 14 rfl rfl rfl rfl rfl
theorem fk_cX9_init_3 : fq_ck cX9_init 48 [27, 89, 183, 0, 29, 181, 0, 34, 42, 187, 0, 37, 89, 183, 0, 39, 181, 0] := fq_of fW_cX9_init 3 rfl rfl
theorem dX9_init_49 : decode cX9_init 49 = .ok (.dup, 1) := fq_89 fk_cX9_init_3 1 rfl rfl
theorem dX9_init_50 : decode cX9_init 50 = .ok (.invokespecial 29, 3) := fq_183 fk_cX9_init_3 2 rfl rfl rfl rfl rfl
theorem wd_90 : Cond.fieldLink RX9 34 "QuarrelBridges" "draft" "LQuarrelBridges$Town;" ∈ BG := BG_at2 40 (by decide +kernel) rfl
theorem dX9_init_53 : decode cX9_init 53 = .ok (.putfield 34, 3) := fq_181 fk_cX9_init_3 5 rfl rfl rfl rfl rfl
theorem dX9_init_56 : decode cX9_init 56 = .ok (.aload_n 0, 1) := fq_42 fk_cX9_init_3 8 rfl rfl
theorem wd_91 : Cond.classLink RX9 37 RX7 ∈ BG := BG_at1 117 (by decide +kernel) rfl
theorem wd_92 : Cond.instantiable RX7 1 ∈ BG := BG_at1 118 (by decide +kernel) rfl
theorem wd_93 : Cond.initialized RX7 ∈ BG := BG_at1 4 (by decide +kernel) rfl
theorem dX9_init_57 : decode cX9_init 57 = .ok (.new 37, 3) := fq_187 fk_cX9_init_3 9 rfl rfl rfl rfl rfl
theorem dX9_init_60 : decode cX9_init 60 = .ok (.dup, 1) := fq_89 fk_cX9_init_3 12 rfl rfl
theorem dX9_init_61 : decode cX9_init 61 = .ok (.invokespecial 39, 3) := fq_183 fk_cX9_init_3 13 rfl rfl rfl rfl rfl
theorem wd_94 : Cond.code yX7_init cX7_init 1 none ∈ BG := BG_at1 121 rfl rfl
theorem wd_95 : Cond.instanceMethod yX7_init ∈ BG := BG_at1 120 (by decide +kernel) rfl
theorem okI_X7_init : okI yX7_init cX7_init 1 0 := ⟨⟨wd_94, wd_93, by decide +kernel⟩, wd_95, rfl⟩
theorem wd_96 : Cond.fieldLink RX9 40 "QuarrelBridges" "now" "LQuarrelBridges$State;" ∈ BG := BG_at2 41 (by decide +kernel) rfl
theorem fk_cX9_init_4 : fq_ck cX9_init 64 [181, 0, 40, 42, 187, 0, 44, 89, 183, 0, 46, 181, 0, 47, 42, 187, 0, 51] := fq_of fW_cX9_init 4 rfl rfl
theorem dX9_init_64 : decode cX9_init 64 = .ok (.putfield 40, 3) := fq_181 fk_cX9_init_4 0 rfl rfl rfl rfl rfl
theorem dX9_init_67 : decode cX9_init 67 = .ok (.aload_n 0, 1) := fq_42 fk_cX9_init_4 3 rfl rfl
theorem wd_97 : Cond.classLink RX9 44 RX2 ∈ BG := BG_at1 128 (by decide +kernel) rfl
theorem wd_98 : Cond.instantiable RX2 3 ∈ BG := BG_at1 129 (by decide +kernel) rfl
theorem wd_99 : Cond.initialized RX2 ∈ BG := BG_at1 5 (by decide +kernel) rfl
theorem dX9_init_68 : decode cX9_init 68 = .ok (.new 44, 3) := fq_187 fk_cX9_init_4 4 rfl rfl rfl rfl rfl
theorem dX9_init_71 : decode cX9_init 71 = .ok (.dup, 1) := fq_89 fk_cX9_init_4 7 rfl rfl
theorem dX9_init_72 : decode cX9_init 72 = .ok (.invokespecial 46, 3) := fq_183 fk_cX9_init_4 8 rfl rfl rfl rfl rfl
theorem wd_100 : Cond.code yX2_init cX2_init 1 none ∈ BG := BG_at1 132 rfl rfl
theorem wd_101 : Cond.instanceMethod yX2_init ∈ BG := BG_at1 131 (by decide +kernel) rfl
theorem okI_X2_init : okI yX2_init cX2_init 1 0 := ⟨⟨wd_100, wd_99, by decide +kernel⟩, wd_101, rfl⟩
theorem wd_102 : Cond.fieldLink RX9 47 "QuarrelBridges" "past" "LQuarrelBridges$History;" ∈ BG := BG_at2 42 (by decide +kernel) rfl
theorem dX9_init_75 : decode cX9_init 75 = .ok (.putfield 47, 3) := fq_181 fk_cX9_init_4 11 rfl rfl rfl rfl rfl
theorem dX9_init_78 : decode cX9_init 78 = .ok (.aload_n 0, 1) := fq_42 fk_cX9_init_4 14 rfl rfl
theorem wd_103 : Cond.classLink RX9 51 RX6 ∈ BG := BG_at1 161 (by decide +kernel) rfl
theorem dX9_init_79 : decode cX9_init 79 = .ok (.new 51, 3) := fq_187 fk_cX9_init_4 15 rfl rfl rfl rfl rfl
theorem fk_cX9_init_5 : fq_ck cX9_init 80 [0, 51, 89, 5, 183, 0, 53, 181, 0, 56, 42, 5, 188, 10, 181, 0, 60, 42] := fq_of fW_cX9_init 5 rfl rfl
theorem dX9_init_82 : decode cX9_init 82 = .ok (.dup, 1) := fq_89 fk_cX9_init_5 2 rfl rfl
theorem dX9_init_83 : decode cX9_init 83 = .ok (.iconst 2, 1) := fq_5 fk_cX9_init_5 3 rfl rfl
theorem dX9_init_84 : decode cX9_init 84 = .ok (.invokespecial 53, 3) := fq_183 fk_cX9_init_5 4 rfl rfl rfl rfl rfl
theorem wd_104 : Cond.methodLink RX9 53 yX6_init ∈ BG := BG_at1 162 (by decide +kernel) rfl
theorem wd_105 : Cond.fieldLink RX9 56 "QuarrelBridges" "images" "LQuarrelBridges$Shelf;" ∈ BG := BG_at2 43 (by decide +kernel) rfl
theorem dX9_init_87 : decode cX9_init 87 = .ok (.putfield 56, 3) := fq_181 fk_cX9_init_5 7 rfl rfl rfl rfl rfl
theorem dX9_init_90 : decode cX9_init 90 = .ok (.aload_n 0, 1) := fq_42 fk_cX9_init_5 10 rfl rfl
theorem dX9_init_91 : decode cX9_init 91 = .ok (.iconst 2, 1) := fq_5 fk_cX9_init_5 11 rfl rfl
theorem dX9_init_92 : decode cX9_init 92 = .ok (.newarray .int, 2) := fq_188_10 fk_cX9_init_5 12 rfl rfl rfl
theorem wd_106 : Cond.fieldLink RX9 60 "QuarrelBridges" "imageSeeds" "[I" ∈ BG := BG_at2 44 (by decide +kernel) rfl
theorem dX9_init_94 : decode cX9_init 94 = .ok (.putfield 60, 3) := fq_181 fk_cX9_init_5 14 rfl rfl rfl rfl rfl
theorem fk_cX9_init_6 : fq_ck cX9_init 96 [60, 42, 3, 181, 0, 63, 42, 187, 0, 66, 89, 183, 0, 68, 181, 0, 69, 42] := fq_of fW_cX9_init 6 rfl rfl
theorem dX9_init_97 : decode cX9_init 97 = .ok (.aload_n 0, 1) := fq_42 fk_cX9_init_6 1 rfl rfl
theorem dX9_init_98 : decode cX9_init 98 = .ok (.iconst 0, 1) := fq_3 fk_cX9_init_6 2 rfl rfl
theorem wd_107 : Cond.fieldLink RX9 63 "QuarrelBridges" "imagesKept" "I" ∈ BG := BG_at2 45 (by decide +kernel) rfl
theorem dX9_init_99 : decode cX9_init 99 = .ok (.putfield 63, 3) := fq_181 fk_cX9_init_6 3 rfl rfl rfl rfl rfl
theorem dX9_init_102 : decode cX9_init 102 = .ok (.aload_n 0, 1) := fq_42 fk_cX9_init_6 6 rfl rfl
theorem wd_108 : Cond.classLink RX9 66 RX0 ∈ BG := BG_at1 163 (by decide +kernel) rfl
theorem wd_109 : Cond.instantiable RX0 3 ∈ BG := BG_at1 164 (by decide +kernel) rfl
theorem wd_110 : Cond.initialized RX0 ∈ BG := BG_at1 8 (by decide +kernel) rfl
theorem dX9_init_103 : decode cX9_init 103 = .ok (.new 66, 3) := fq_187 fk_cX9_init_6 7 rfl rfl rfl rfl rfl
theorem dX9_init_106 : decode cX9_init 106 = .ok (.dup, 1) := fq_89 fk_cX9_init_6 10 rfl rfl
theorem dX9_init_107 : decode cX9_init 107 = .ok (.invokespecial 68, 3) := fq_183 fk_cX9_init_6 11 rfl rfl rfl rfl rfl
theorem wd_111 : Cond.code yX0_init cX0_init 1 none ∈ BG := BG_at1 167 rfl rfl
theorem wd_112 : Cond.instanceMethod yX0_init ∈ BG := BG_at1 166 (by decide +kernel) rfl
theorem okI_X0_init : okI yX0_init cX0_init 1 0 := ⟨⟨wd_111, wd_110, by decide +kernel⟩, wd_112, rfl⟩
theorem wd_113 : Cond.fieldLink RX9 69 "QuarrelBridges" "book" "LQuarrelBridges$Book;" ∈ BG := BG_at2 46 (by decide +kernel) rfl
theorem dX9_init_110 : decode cX9_init 110 = .ok (.putfield 69, 3) := fq_181 fk_cX9_init_6 14 rfl rfl rfl rfl rfl
theorem fk_cX9_init_7 : fq_ck cX9_init 112 [69, 42, 3, 181, 0, 73, 42, 187, 0, 76, 89, 183, 0, 78, 181, 0, 79, 42] := fq_of fW_cX9_init 7 rfl rfl
theorem dX9_init_113 : decode cX9_init 113 = .ok (.aload_n 0, 1) := fq_42 fk_cX9_init_7 1 rfl rfl
theorem dX9_init_114 : decode cX9_init 114 = .ok (.iconst 0, 1) := fq_3 fk_cX9_init_7 2 rfl rfl
theorem wd_114 : Cond.fieldLink RX9 73 "QuarrelBridges" "seed" "I" ∈ BG := BG_at2 47 (by decide +kernel) rfl
theorem dX9_init_115 : decode cX9_init 115 = .ok (.putfield 73, 3) := fq_181 fk_cX9_init_7 3 rfl rfl rfl rfl rfl
theorem dX9_init_118 : decode cX9_init 118 = .ok (.aload_n 0, 1) := fq_42 fk_cX9_init_7 6 rfl rfl
theorem wd_115 : Cond.classLink RX9 76 RX4 ∈ BG := BG_at1 180 (by decide +kernel) rfl
theorem wd_116 : Cond.instantiable RX4 5 ∈ BG := BG_at1 181 (by decide +kernel) rfl
theorem wd_117 : Cond.initialized RX4 ∈ BG := BG_at1 9 (by decide +kernel) rfl
theorem dX9_init_119 : decode cX9_init 119 = .ok (.new 76, 3) := fq_187 fk_cX9_init_7 7 rfl rfl rfl rfl rfl
theorem dX9_init_122 : decode cX9_init 122 = .ok (.dup, 1) := fq_89 fk_cX9_init_7 10 rfl rfl
theorem dX9_init_123 : decode cX9_init 123 = .ok (.invokespecial 78, 3) := fq_183 fk_cX9_init_7 11 rfl rfl rfl rfl rfl
theorem wd_118 : Cond.code yX4_init cX4_init 1 none ∈ BG := BG_at1 184 rfl rfl
theorem wd_119 : Cond.instanceMethod yX4_init ∈ BG := BG_at1 183 (by decide +kernel) rfl
theorem okI_X4_init : okI yX4_init cX4_init 1 0 := ⟨⟨wd_118, wd_117, by decide +kernel⟩, wd_119, rfl⟩
theorem wd_120 : Cond.fieldLink RX9 79 "QuarrelBridges" "quarrel" "LQuarrelBridges$Quarrel;" ∈ BG := BG_at2 48 (by decide +kernel) rfl
theorem dX9_init_126 : decode cX9_init 126 = .ok (.putfield 79, 3) := fq_181 fk_cX9_init_7 14 rfl rfl rfl rfl rfl
theorem fk_cX9_init_8 : fq_ck cX9_init 128 [79, 42, 187, 0, 83, 89, 183, 0, 85, 181, 0, 86, 42, 187, 0, 90, 89, 183] := fq_of fW_cX9_init 8 rfl rfl
theorem dX9_init_129 : decode cX9_init 129 = .ok (.aload_n 0, 1) := fq_42 fk_cX9_init_8 1 rfl rfl
theorem wd_121 : Cond.classLink RX9 83 RX3 ∈ BG := BG_at1 207 (by decide +kernel) rfl
theorem wd_122 : Cond.instantiable RX3 3 ∈ BG := BG_at1 208 (by decide +kernel) rfl
theorem wd_123 : Cond.initialized RX3 ∈ BG := BG_at1 10 (by decide +kernel) rfl
theorem dX9_init_130 : decode cX9_init 130 = .ok (.new 83, 3) := fq_187 fk_cX9_init_8 2 rfl rfl rfl rfl rfl
theorem dX9_init_133 : decode cX9_init 133 = .ok (.dup, 1) := fq_89 fk_cX9_init_8 5 rfl rfl
theorem dX9_init_134 : decode cX9_init 134 = .ok (.invokespecial 85, 3) := fq_183 fk_cX9_init_8 6 rfl rfl rfl rfl rfl
theorem wd_124 : Cond.code yX3_init cX3_init 1 none ∈ BG := BG_at1 211 rfl rfl
theorem wd_125 : Cond.instanceMethod yX3_init ∈ BG := BG_at1 210 (by decide +kernel) rfl
theorem okI_X3_init : okI yX3_init cX3_init 1 0 := ⟨⟨wd_124, wd_123, by decide +kernel⟩, wd_125, rfl⟩
theorem wd_126 : Cond.fieldLink RX9 86 "QuarrelBridges" "pairing" "LQuarrelBridges$Pairing;" ∈ BG := BG_at2 49 (by decide +kernel) rfl
theorem dX9_init_137 : decode cX9_init 137 = .ok (.putfield 86, 3) := fq_181 fk_cX9_init_8 9 rfl rfl rfl rfl rfl
theorem dX9_init_140 : decode cX9_init 140 = .ok (.aload_n 0, 1) := fq_42 fk_cX9_init_8 12 rfl rfl
theorem wd_127 : Cond.classLink RX9 90 RX1 ∈ BG := BG_at1 223 (by decide +kernel) rfl
theorem wd_128 : Cond.instantiable RX1 10 ∈ BG := BG_at1 224 (by decide +kernel) rfl
theorem wd_129 : Cond.initialized RX1 ∈ BG := BG_at1 11 (by decide +kernel) rfl
theorem dX9_init_141 : decode cX9_init 141 = .ok (.new 90, 3) := fq_187 fk_cX9_init_8 13 rfl rfl rfl rfl rfl
theorem fk_cX9_init_9 : fq_ck cX9_init 144 [89, 183, 0, 92, 181, 0, 93, 42, 16, 30, 188, 10, 181, 0, 97, 42, 180, 0] := fq_of fW_cX9_init 9 rfl rfl
theorem dX9_init_144 : decode cX9_init 144 = .ok (.dup, 1) := fq_89 fk_cX9_init_9 0 rfl rfl
theorem dX9_init_145 : decode cX9_init 145 = .ok (.invokespecial 92, 3) := fq_183 fk_cX9_init_9 1 rfl rfl rfl rfl rfl
theorem wd_130 : Cond.code yX1_init cX1_init 1 none ∈ BG := BG_at1 227 rfl rfl
theorem wd_131 : Cond.instanceMethod yX1_init ∈ BG := BG_at1 226 (by decide +kernel) rfl
theorem okI_X1_init : okI yX1_init cX1_init 1 0 := ⟨⟨wd_130, wd_129, by decide +kernel⟩, wd_131, rfl⟩
theorem wd_132 : Cond.fieldLink RX9 93 "QuarrelBridges" "convoy" "LQuarrelBridges$Convoy;" ∈ BG := BG_at2 50 (by decide +kernel) rfl
theorem dX9_init_148 : decode cX9_init 148 = .ok (.putfield 93, 3) := fq_181 fk_cX9_init_9 4 rfl rfl rfl rfl rfl
theorem dX9_init_151 : decode cX9_init 151 = .ok (.aload_n 0, 1) := fq_42 fk_cX9_init_9 7 rfl rfl
theorem dX9_init_152 : decode cX9_init 152 = .ok (.bipush 30, 2) := fq_16 fk_cX9_init_9 8 rfl rfl rfl rfl
theorem dX9_init_154 : decode cX9_init 154 = .ok (.newarray .int, 2) := fq_188_10 fk_cX9_init_9 10 rfl rfl rfl
theorem wd_133 : Cond.fieldLink RX9 97 "QuarrelBridges" "fitting" "[I" ∈ BG := BG_at2 51 (by decide +kernel) rfl
theorem dX9_init_156 : decode cX9_init 156 = .ok (.putfield 97, 3) := fq_181 fk_cX9_init_9 12 rfl rfl rfl rfl rfl
theorem dX9_init_159 : decode cX9_init 159 = .ok (.aload_n 0, 1) := fq_42 fk_cX9_init_9 15 rfl rfl
theorem fk_cX9_init_10 : fq_ck cX9_init 160 [180, 0, 40, 42, 180, 0, 30, 182, 0, 100, 177] := fq_of fW_cX9_init 10 rfl rfl
theorem dX9_init_160 : decode cX9_init 160 = .ok (.getfield 40, 3) := fq_180 fk_cX9_init_10 0 rfl rfl rfl rfl rfl
theorem dX9_init_163 : decode cX9_init 163 = .ok (.aload_n 0, 1) := fq_42 fk_cX9_init_10 3 rfl rfl
theorem dX9_init_164 : decode cX9_init 164 = .ok (.getfield 30, 3) := fq_180 fk_cX9_init_10 4 rfl rfl rfl rfl rfl
theorem dX9_init_167 : decode cX9_init 167 = .ok (.invokevirtual 100, 3) := fq_182 fk_cX9_init_10 7 rfl rfl rfl rfl rfl
theorem wd_134 : Cond.methodLink RX9 100 yX7_begin ∈ BG := BG_at2 22 (by decide +kernel) rfl
theorem wd_135 : Cond.code yX7_begin cX7_begin 3 none ∈ BG := BG_at2 25 rfl rfl
theorem wd_136 : Cond.instanceMethod yX7_begin ∈ BG := BG_at2 23 (by decide +kernel) rfl
theorem wd_137 : Cond.selects RX7 yX7_begin yX7_begin ∈ BG := BG_at2 24 (by decide +kernel) rfl
theorem okV_X7_begin : okV yX7_begin cX7_begin 3 none 1 := ⟨⟨wd_135, wd_93, by decide +kernel⟩, wd_136, wd_137⟩
theorem dX9_init_170 : decode cX9_init 170 = .ok (.return_, 1) := fq_177 fk_cX9_init_10 10 rfl rfl
def rm_k_QB_init : Room := { frames := 3, cells := 39, slots := 2022, locals := 71 }
set_option maxHeartbeats 4000000 in
set_option maxRecDepth 100000 in
theorem k_QB_init {l : Launch} {D : va_G} {cI cZ : ClassId} {sz : Nat} (h : Nat) : KV l yX9_init cX9_init 1 rm_k_QB_init D cI cZ [.ref h] sz [(h, .inr (9, [.null, .int 0, .int 0, .null, .null, .null, .null, .null, .null, .null, .int 0, .null, .int 0, .null, .null, .null, .null]))] (fun (_ : Nat × Nat × Nat × Nat × Nat × Nat × Nat × Nat × Nat × Nat × Nat × Nat × Nat × Nat × Nat × Nat × Nat × Nat × Nat × Nat × Nat × Nat × Nat × Nat × Nat × Nat × Nat × Nat × Nat × Nat × Nat × Nat × Nat × Nat × Nat × Nat × Nat × Nat × Nat) => True) (fun (u : Nat × Nat × Nat × Nat × Nat × Nat × Nat × Nat × Nat × Nat × Nat × Nat × Nat × Nat × Nat × Nat × Nat × Nat × Nat × Nat × Nat × Nat × Nat × Nat × Nat × Nat × Nat × Nat × Nat × Nat × Nat × Nat × Nat × Nat × Nat × Nat × Nat × Nat × Nat) => [(h, .inr (9, [.ref u.1, .int 0, .int (-1), .ref u.2.1, .ref u.2.2.2.1, .ref u.2.2.2.2.2.2.2.2.2.1, .ref u.2.2.2.2.2.2.2.2.2.2.2.2.2.2.2.1, .ref u.2.2.2.2.2.2.2.2.2.2.2.2.2.2.2.2.2.1, .ref u.2.2.2.2.2.2.2.2.2.2.2.2.2.2.2.2.2.2.2.2.1, .ref u.2.2.2.2.2.2.2.2.2.2.2.2.2.2.2.2.2.2.2.2.2.2.1, .int 0, .ref u.2.2.2.2.2.2.2.2.2.2.2.2.2.2.2.2.2.2.2.2.2.2.2.1, .int 0, .ref u.2.2.2.2.2.2.2.2.2.2.2.2.2.2.2.2.2.2.2.2.2.2.2.2.2.2.1, .ref u.2.2.2.2.2.2.2.2.2.2.2.2.2.2.2.2.2.2.2.2.2.2.2.2.2.2.2.1, .ref u.2.2.2.2.2.2.2.2.2.2.2.2.2.2.2.2.2.2.2.2.2.2.2.2.2.2.2.2.2.2.2.1, .ref u.2.2.2.2.2.2.2.2.2.2.2.2.2.2.2.2.2.2.2.2.2.2.2.2.2.2.2.2.2.2.2.2.2.2.2.2.2.2])), (u.1, .inl (cI, 240, .inl z0)), (u.2.1, .inr (5, [.int 0, .int (-1), .ref u.2.2.1, .int 0, .int 0, .int 0, .int 0])), (u.2.2.1, .inl (cI, 0, .inl z0)), (u.2.2.2.2.1, .inl (cI, 6, .inl z0)), (u.2.2.2.2.2.1, .inl (cI, 6, .inl z0)), (u.2.2.2.2.2.2.1, .inl (cI, 30, .inl z0)), (u.2.2.2.2.2.2.2.1, .inl (cI, 7, .inl z0)), (u.2.2.2.2.2.2.2.2.1, .inl (cI, 7, .inl z0)), (u.2.2.2.2.2.2.2.2.2.1, .inr (8, [.int 0, .int 1, .int 0, .int 0, .int 0, .ref u.2.2.2.2.2.2.2.2.2.2.1, .ref u.2.2.2.2.2.2.2.2.2.2.2.1, .ref u.2.2.2.2.2.2.2.2.2.2.2.2.1, .ref u.2.2.2.2.2.2.2.2.2.2.2.2.2.1, .ref u.2.2.2.2.2.2.2.2.2.2.2.2.2.2.1])), (u.2.2.2.2.2.2.2.2.2.2.1, .inl (cI, 6, .inl z0)), (u.2.2.2.2.2.2.2.2.2.2.2.1, .inl (cI, 6, .inl z0)), (u.2.2.2.2.2.2.2.2.2.2.2.2.1, .inl (cI, 30, .inl z0)), (u.2.2.2.2.2.2.2.2.2.2.2.2.2.1, .inl (cI, 7, .inl z0)), (u.2.2.2.2.2.2.2.2.2.2.2.2.2.2.1, .inl (cI, 7, .inl z0)), (u.2.2.2.2.2.2.2.2.2.2.2.2.2.2.2.2.2.1, .inr (2, [.ref u.2.2.2.2.2.2.2.2.2.2.2.2.2.2.2.2.2.2.1, .int 0, .int 0])), (u.2.2.2.2.2.2.2.2.2.2.2.2.2.2.2.2.2.2.1, .inr (6, [.int 20, .ref u.2.2.2.2.2.2.2.2.2.2.2.2.2.2.2.2.2.2.2.1])), (u.2.2.2.2.2.2.2.2.2.2.2.2.2.2.2.2.2.2.2.1, .inl (cI, 820, .inl z0)), (u.2.2.2.2.2.2.2.2.2.2.2.2.2.2.2.2.2.2.2.2.1, .inr (6, [.int 2, .ref u.2.2.2.2.2.2.2.2.2.2.2.2.2.2.2.2.2.2.2.2.2.1])), (u.2.2.2.2.2.2.2.2.2.2.2.2.2.2.2.2.2.2.2.2.2.1, .inl (cI, 82, .inl z0)), (u.2.2.2.2.2.2.2.2.2.2.2.2.2.2.2.2.2.2.2.2.2.2.1, .inl (cI, 2, .inl z0)), (u.2.2.2.2.2.2.2.2.2.2.2.2.2.2.2.2.2.2.2.2.2.2.2.1, .inr (0, [.int 0, .ref u.2.2.2.2.2.2.2.2.2.2.2.2.2.2.2.2.2.2.2.2.2.2.2.2.1, .ref u.2.2.2.2.2.2.2.2.2.2.2.2.2.2.2.2.2.2.2.2.2.2.2.2.2.1])), (u.2.2.2.2.2.2.2.2.2.2.2.2.2.2.2.2.2.2.2.2.2.2.2.2.1, .inl (cI, 15, .inl z0)), (u.2.2.2.2.2.2.2.2.2.2.2.2.2.2.2.2.2.2.2.2.2.2.2.2.2.1, .inl (cI, 15, .inl z0)), (u.2.2.2.2.2.2.2.2.2.2.2.2.2.2.2.2.2.2.2.2.2.2.2.2.2.2.1, .inr (4, [.int 0, .int 0, .int 0, .int 0, .int 0])), (u.2.2.2.2.2.2.2.2.2.2.2.2.2.2.2.2.2.2.2.2.2.2.2.2.2.2.2.1, .inr (3, [.ref u.2.2.2.2.2.2.2.2.2.2.2.2.2.2.2.2.2.2.2.2.2.2.2.2.2.2.2.2.1, .ref u.2.2.2.2.2.2.2.2.2.2.2.2.2.2.2.2.2.2.2.2.2.2.2.2.2.2.2.2.2.1, .ref u.2.2.2.2.2.2.2.2.2.2.2.2.2.2.2.2.2.2.2.2.2.2.2.2.2.2.2.2.2.2.1])), (u.2.2.2.2.2.2.2.2.2.2.2.2.2.2.2.2.2.2.2.2.2.2.2.2.2.2.2.2.1, .inl (cI, 36, .inl z0)), (u.2.2.2.2.2.2.2.2.2.2.2.2.2.2.2.2.2.2.2.2.2.2.2.2.2.2.2.2.2.1, .inl (cI, 64, .inl z0)), (u.2.2.2.2.2.2.2.2.2.2.2.2.2.2.2.2.2.2.2.2.2.2.2.2.2.2.2.2.2.2.1, .inl (cI, 64, .inl z0)), (u.2.2.2.2.2.2.2.2.2.2.2.2.2.2.2.2.2.2.2.2.2.2.2.2.2.2.2.2.2.2.2.1, .inr (1, [.int 0, .ref u.2.2.2.2.2.2.2.2.2.2.2.2.2.2.2.2.2.2.2.2.2.2.2.2.2.2.2.2.2.2.2.2.1, .ref u.2.2.2.2.2.2.2.2.2.2.2.2.2.2.2.2.2.2.2.2.2.2.2.2.2.2.2.2.2.2.2.2.2.1, .ref u.2.2.2.2.2.2.2.2.2.2.2.2.2.2.2.2.2.2.2.2.2.2.2.2.2.2.2.2.2.2.2.2.2.2.1, .ref u.2.2.2.2.2.2.2.2.2.2.2.2.2.2.2.2.2.2.2.2.2.2.2.2.2.2.2.2.2.2.2.2.2.2.2.1, .ref u.2.2.2.2.2.2.2.2.2.2.2.2.2.2.2.2.2.2.2.2.2.2.2.2.2.2.2.2.2.2.2.2.2.2.2.2.1, .ref u.2.2.2.2.2.2.2.2.2.2.2.2.2.2.2.2.2.2.2.2.2.2.2.2.2.2.2.2.2.2.2.2.2.2.2.2.2.1, .int 0, .int 0, .null])), (u.2.2.2.2.2.2.2.2.2.2.2.2.2.2.2.2.2.2.2.2.2.2.2.2.2.2.2.2.2.2.2.2.1, .inl (cI, 7, .inl z0)), (u.2.2.2.2.2.2.2.2.2.2.2.2.2.2.2.2.2.2.2.2.2.2.2.2.2.2.2.2.2.2.2.2.2.1, .inl (cI, 6, .inl z0)), (u.2.2.2.2.2.2.2.2.2.2.2.2.2.2.2.2.2.2.2.2.2.2.2.2.2.2.2.2.2.2.2.2.2.2.1, .inl (cI, 48, .inl z0)), (u.2.2.2.2.2.2.2.2.2.2.2.2.2.2.2.2.2.2.2.2.2.2.2.2.2.2.2.2.2.2.2.2.2.2.2.1, .inl (cI, 128, .inl z0)), (u.2.2.2.2.2.2.2.2.2.2.2.2.2.2.2.2.2.2.2.2.2.2.2.2.2.2.2.2.2.2.2.2.2.2.2.2.1, .inl (cI, 128, .inl z0)), (u.2.2.2.2.2.2.2.2.2.2.2.2.2.2.2.2.2.2.2.2.2.2.2.2.2.2.2.2.2.2.2.2.2.2.2.2.2.1, .inl (cI, 128, .inl z0)), (u.2.2.2.2.2.2.2.2.2.2.2.2.2.2.2.2.2.2.2.2.2.2.2.2.2.2.2.2.2.2.2.2.2.2.2.2.2.2, .inl (cI, 30, .inl z0)), (u.2.2.2.2.2.2.2.2.2.2.2.2.2.2.2.1, .inr (7, [.ref u.2.2.2.2.2.2.2.2.2.2.2.2.2.2.2.2.1])), (u.2.2.2.2.2.2.2.2.2.2.2.2.2.2.2.2.1, .inl (cI, 41, .inl (cB2 z0 7))), (u.2.2.2.1, .inr (8, [.int 0, .int 1, .int 0, .int 0, .int 0, .ref u.2.2.2.2.1, .ref u.2.2.2.2.2.1, .ref u.2.2.2.2.2.2.1, .ref u.2.2.2.2.2.2.2.1, .ref u.2.2.2.2.2.2.2.2.1]))]) := by
  refine KV.go rfl (Nat.le_of_ble_eq_true rfl) ?_
  intro p e s m args below meth c ls A Q hx hb hml hts hown hin hP hK hD hS hA hN hl hret
  have hl : lv_has ls 1 [(0, .ref h)] := hl
  refine lv_aload_n hx hb dX9_init_0 rfl (lv_at hl 0 rfl) ?_
  refine W.objInit hx hb hown (hts _ wd_74) (hts _ wd_1) (hts _ wd_2) rfl (by rw [hml]; exact hl.1) rfl dX9_init_1 (Nat.le_of_ble_eq_true rfl) (Nat.le_of_ble_eq_true rfl) ?_
  refine W.eq (g2 := F0 m 4 ls []) rfl ?_
  refine lv_aload_n hx hb dX9_init_4 rfl (lv_at hl 0 rfl) ?_
  refine lv_sipush (v := 240) hx hb dX9_init_5 rfl ?_
  refine va_newa (atype := .int) (a0 := (240, .inl z0)) (N' := 240) (ty := .int) hx hb (hts _ wd_8) rfl hK hP hD hS hA (fun cA => z0_int 240 cA) (by decide +kernel) (by decide +kernel) (by decide +kernel) (Nat.le_of_ble_eq_true rfl) (Nat.le_of_ble_eq_true rfl) dX9_init_8 (fun q_1 cA_q_1 H hKn hP hD hS => ?_)
  obtain rfl := (K_int hKn).symm
  have hP : va_P D classes [(h, .inr (9, [.null, .int 0, .int 0, .null, .null, .null, .null, .null, .null, .null, .int 0, .null, .int 0, .null, .null, .null, .null])), (q_1, .inl (cI, 240, .inl z0))] H := hP
  have hD : va_D A [(h, .inr (9, [.null, .int 0, .int 0, .null, .null, .null, .null, .null, .null, .null, .int 0, .null, .int 0, .null, .null, .null, .null])), (q_1, .inl (cI, 240, .inl z0))] := hD
  refine W.widen (k := 1) (n := 240) (Nat.le_of_ble_eq_true rfl) (Nat.le_of_ble_eq_true rfl) ?_
  refine va_putF (D := D) (ci := 9) (v := .ref q_1) (ty := (.array .int)) (C := RX9) (T := TX9) (N := 17) hx hb hts iX9 tyX9 tyX9_ok nmX9 hown hK hP hD hS 0 rfl rfl 0 (Nat.le_of_ble_eq_true rfl) (hts _ wd_75) (fun _ h9 => h9) rfl hin rfl (by decide +kernel) rfl rfl (Nat.le_of_ble_eq_true rfl) dX9_init_10 (fun H locs hP hD hS => ?_)
  have hP : va_P D classes [(h, .inr (9, [.ref q_1, .int 0, .int 0, .null, .null, .null, .null, .null, .null, .null, .int 0, .null, .int 0, .null, .null, .null, .null])), (q_1, .inl (cI, 240, .inl z0))] H := hP
  have hD : va_D A [(h, .inr (9, [.ref q_1, .int 0, .int 0, .null, .null, .null, .null, .null, .null, .null, .int 0, .null, .int 0, .null, .null, .null, .null])), (q_1, .inl (cI, 240, .inl z0))] := hD
  refine lv_aload_n hx hb dX9_init_13 rfl (lv_at hl 0 rfl) ?_
  refine lv_iconst (v := 0) hx hb dX9_init_14 rfl ?_
  refine va_put (D := D) (ci := 9) (v := .int 0) (ty := .int) (C := RX9) (T := TX9) (N := 17) hx hb hts iX9 tyX9 tyX9_ok nmX9 hown hK hP hD hS 0 rfl rfl 1 (Nat.le_of_ble_eq_true rfl) (hts _ wd_76) (fun _ h9 => h9) rfl (by decide +kernel) rfl rfl (Nat.le_of_ble_eq_true rfl) dX9_init_15 (fun H locs hP hD hS => ?_)
  have hP : va_P D classes [(h, .inr (9, [.ref q_1, .int 0, .int 0, .null, .null, .null, .null, .null, .null, .null, .int 0, .null, .int 0, .null, .null, .null, .null])), (q_1, .inl (cI, 240, .inl z0))] H := hP
  have hD : va_D A [(h, .inr (9, [.ref q_1, .int 0, .int 0, .null, .null, .null, .null, .null, .null, .null, .int 0, .null, .int 0, .null, .null, .null, .null])), (q_1, .inl (cI, 240, .inl z0))] := hD
  refine lv_aload_n hx hb dX9_init_18 rfl (lv_at hl 0 rfl) ?_
  refine lv_iconst (v := (-1)) hx hb dX9_init_19 rfl ?_
  refine va_put (D := D) (ci := 9) (v := .int (-1)) (ty := .int) (C := RX9) (T := TX9) (N := 17) hx hb hts iX9 tyX9 tyX9_ok nmX9 hown hK hP hD hS 0 rfl rfl 2 (Nat.le_of_ble_eq_true rfl) (hts _ wd_77) (fun _ h9 => h9) rfl (by decide +kernel) rfl rfl (Nat.le_of_ble_eq_true rfl) dX9_init_20 (fun H locs hP hD hS => ?_)
  have hP : va_P D classes [(h, .inr (9, [.ref q_1, .int 0, .int (-1), .null, .null, .null, .null, .null, .null, .null, .int 0, .null, .int 0, .null, .null, .null, .null])), (q_1, .inl (cI, 240, .inl z0))] H := hP
  have hD : va_D A [(h, .inr (9, [.ref q_1, .int 0, .int (-1), .null, .null, .null, .null, .null, .null, .null, .int 0, .null, .int 0, .null, .null, .null, .null])), (q_1, .inl (cI, 240, .inl z0))] := hD
  refine lv_aload_n hx hb dX9_init_23 rfl (lv_at hl 0 rfl) ?_
  refine va_new (ci := 5) (fs := [.int 0, .int 0, .null, .int 0, .int 0, .int 0, .int 0]) (C := RX5) (T := TX5) (N := 7) hx hb hts iX5 tyX5 tyX5_ok hown (hts _ wd_78) (hts _ wd_79) (hts _ wd_80) hK hP hD hS hA rfl (by decide +kernel) (Nat.le_of_ble_eq_true rfl) (Nat.le_of_ble_eq_true rfl) dX9_init_24 (fun q_2 H hP hD hS => ?_)
  have hP : va_P D classes [(h, .inr (9, [.ref q_1, .int 0, .int (-1), .null, .null, .null, .null, .null, .null, .null, .int 0, .null, .int 0, .null, .null, .null, .null])), (q_1, .inl (cI, 240, .inl z0)), (q_2, .inr (5, [.int 0, .int 0, .null, .int 0, .int 0, .int 0, .int 0]))] H := hP
  have hD : va_D A [(h, .inr (9, [.ref q_1, .int 0, .int (-1), .null, .null, .null, .null, .null, .null, .null, .int 0, .null, .int 0, .null, .null, .null, .null])), (q_1, .inl (cI, 240, .inl z0)), (q_2, .inr (5, [.int 0, .int 0, .null, .int 0, .int 0, .int 0, .int 0]))] := hD
  refine W.widen (k := 2) (n := 247) (Nat.le_of_ble_eq_true rfl) (Nat.le_of_ble_eq_true rfl) ?_
  refine lv_dup hx hb dX9_init_27 rfl ?_
  refine cMv (wr := [(h, .inr (9, [.ref q_1, .int 0, .int (-1), .null, .null, .null, .null, .null, .null, .null, .int 0, .null, .int 0, .null, .null, .null, .null])), (q_1, .inl (cI, 240, .inl z0))]) (rest := [.ref q_2, .ref h]) (k_reader_init q_2) okI_X5_init 0 rfl hx hb hml hown hts hK hP hD hS hA hN hl.1 [2] [0, 1] rfl rfl rfl rfl (of_decide_eq_true rfl) rfl (Nat.le_of_ble_eq_true rfl) (Nat.le_of_ble_eq_true rfl) (Nat.le_of_ble_eq_true rfl) (Nat.le_of_ble_eq_true rfl) (Nat.le_of_ble_eq_true rfl) dX9_init_28 (fun u_3 H locs hw_u_3 hP hD hS => ?_)
  refine W.widen (k := 3) (n := 247) (Nat.le_of_ble_eq_true rfl) (Nat.le_of_ble_eq_true rfl) ?_
  have hP : va_P D classes [(h, .inr (9, [.ref q_1, .int 0, .int (-1), .null, .null, .null, .null, .null, .null, .null, .int 0, .null, .int 0, .null, .null, .null, .null])), (q_1, .inl (cI, 240, .inl z0)), (q_2, .inr (5, [.int 0, .int (-1), .ref u_3, .int 0, .int 0, .int 0, .int 0])), (u_3, .inl (cI, 0, .inl z0))] H := hP
  have hD : va_D A [(h, .inr (9, [.ref q_1, .int 0, .int (-1), .null, .null, .null, .null, .null, .null, .null, .int 0, .null, .int 0, .null, .null, .null, .null])), (q_1, .inl (cI, 240, .inl z0)), (q_2, .inr (5, [.int 0, .int (-1), .ref u_3, .int 0, .int 0, .int 0, .int 0])), (u_3, .inl (cI, 0, .inl z0))] := hD
  refine va_putF (D := D) (ci := 9) (v := .ref q_2) (ty := (.object "QuarrelBridges$Reader")) (C := RX9) (T := TX9) (N := 17) hx hb hts iX9 tyX9 tyX9_ok nmX9 hown hK hP hD hS 0 rfl rfl 3 (Nat.le_of_ble_eq_true rfl) (hts _ wd_83) (fun _ h9 => h9) rfl hin rfl (by decide +kernel) rfl rfl (Nat.le_of_ble_eq_true rfl) dX9_init_31 (fun H locs hP hD hS => ?_)
  have hP : va_P D classes [(h, .inr (9, [.ref q_1, .int 0, .int (-1), .ref q_2, .null, .null, .null, .null, .null, .null, .int 0, .null, .int 0, .null, .null, .null, .null])), (q_1, .inl (cI, 240, .inl z0)), (q_2, .inr (5, [.int 0, .int (-1), .ref u_3, .int 0, .int 0, .int 0, .int 0])), (u_3, .inl (cI, 0, .inl z0))] H := hP
  have hD : va_D A [(h, .inr (9, [.ref q_1, .int 0, .int (-1), .ref q_2, .null, .null, .null, .null, .null, .null, .int 0, .null, .int 0, .null, .null, .null, .null])), (q_1, .inl (cI, 240, .inl z0)), (q_2, .inr (5, [.int 0, .int (-1), .ref u_3, .int 0, .int 0, .int 0, .int 0])), (u_3, .inl (cI, 0, .inl z0))] := hD
  refine lv_aload_n hx hb dX9_init_34 rfl (lv_at hl 0 rfl) ?_
  refine va_new (ci := 8) (fs := [.int 0, .int 0, .int 0, .int 0, .int 0, .null, .null, .null, .null, .null]) (C := RX8) (T := TX8) (N := 10) hx hb hts iX8 tyX8 tyX8_ok hown (hts _ wd_84) (hts _ wd_85) (hts _ wd_86) hK hP hD hS hA rfl (by decide +kernel) (Nat.le_of_ble_eq_true rfl) (Nat.le_of_ble_eq_true rfl) dX9_init_35 (fun q_6 H hP hD hS => ?_)
  have hP : va_P D classes [(h, .inr (9, [.ref q_1, .int 0, .int (-1), .ref q_2, .null, .null, .null, .null, .null, .null, .int 0, .null, .int 0, .null, .null, .null, .null])), (q_1, .inl (cI, 240, .inl z0)), (q_2, .inr (5, [.int 0, .int (-1), .ref u_3, .int 0, .int 0, .int 0, .int 0])), (u_3, .inl (cI, 0, .inl z0)), (q_6, .inr (8, [.int 0, .int 0, .int 0, .int 0, .int 0, .null, .null, .null, .null, .null]))] H := hP
  have hD : va_D A [(h, .inr (9, [.ref q_1, .int 0, .int (-1), .ref q_2, .null, .null, .null, .null, .null, .null, .int 0, .null, .int 0, .null, .null, .null, .null])), (q_1, .inl (cI, 240, .inl z0)), (q_2, .inr (5, [.int 0, .int (-1), .ref u_3, .int 0, .int 0, .int 0, .int 0])), (u_3, .inl (cI, 0, .inl z0)), (q_6, .inr (8, [.int 0, .int 0, .int 0, .int 0, .int 0, .null, .null, .null, .null, .null]))] := hD
  refine W.widen (k := 4) (n := 257) (Nat.le_of_ble_eq_true rfl) (Nat.le_of_ble_eq_true rfl) ?_
  refine lv_dup hx hb dX9_init_38 rfl ?_
  refine cMv (wr := [(h, .inr (9, [.ref q_1, .int 0, .int (-1), .ref q_2, .null, .null, .null, .null, .null, .null, .int 0, .null, .int 0, .null, .null, .null, .null])), (q_1, .inl (cI, 240, .inl z0)), (q_2, .inr (5, [.int 0, .int (-1), .ref u_3, .int 0, .int 0, .int 0, .int 0])), (u_3, .inl (cI, 0, .inl z0))]) (rest := [.ref q_6, .ref h]) (k_town_init q_6) okI_X8_init 1 rfl hx hb hml hown hts hK hP hD hS hA hN hl.1 [4] [0, 1, 2, 3] rfl rfl rfl rfl (of_decide_eq_true rfl) rfl (Nat.le_of_ble_eq_true rfl) (Nat.le_of_ble_eq_true rfl) (Nat.le_of_ble_eq_true rfl) (Nat.le_of_ble_eq_true rfl) (Nat.le_of_ble_eq_true rfl) dX9_init_39 (fun u_7 H locs hw_u_7 hP hD hS => ?_)
  obtain ⟨q_9, q_10, q_11, q_12, q_13⟩ := u_7
  refine W.widen (k := 9) (n := 313) (Nat.le_of_ble_eq_true rfl) (Nat.le_of_ble_eq_true rfl) ?_
  have hP : va_P D classes [(h, .inr (9, [.ref q_1, .int 0, .int (-1), .ref q_2, .null, .null, .null, .null, .null, .null, .int 0, .null, .int 0, .null, .null, .null, .null])), (q_1, .inl (cI, 240, .inl z0)), (q_2, .inr (5, [.int 0, .int (-1), .ref u_3, .int 0, .int 0, .int 0, .int 0])), (u_3, .inl (cI, 0, .inl z0)), (q_6, .inr (8, [.int 0, .int 1, .int 0, .int 0, .int 0, .ref q_9, .ref q_10, .ref q_11, .ref q_12, .ref q_13])), (q_9, .inl (cI, 6, .inl z0)), (q_10, .inl (cI, 6, .inl z0)), (q_11, .inl (cI, 30, .inl z0)), (q_12, .inl (cI, 7, .inl z0)), (q_13, .inl (cI, 7, .inl z0))] H := hP
  have hD : va_D A [(h, .inr (9, [.ref q_1, .int 0, .int (-1), .ref q_2, .null, .null, .null, .null, .null, .null, .int 0, .null, .int 0, .null, .null, .null, .null])), (q_1, .inl (cI, 240, .inl z0)), (q_2, .inr (5, [.int 0, .int (-1), .ref u_3, .int 0, .int 0, .int 0, .int 0])), (u_3, .inl (cI, 0, .inl z0)), (q_6, .inr (8, [.int 0, .int 1, .int 0, .int 0, .int 0, .ref q_9, .ref q_10, .ref q_11, .ref q_12, .ref q_13])), (q_9, .inl (cI, 6, .inl z0)), (q_10, .inl (cI, 6, .inl z0)), (q_11, .inl (cI, 30, .inl z0)), (q_12, .inl (cI, 7, .inl z0)), (q_13, .inl (cI, 7, .inl z0))] := hD
  refine va_put (D := D) (ci := 9) (v := .ref q_6) (ty := (.object "QuarrelBridges$Town")) (C := RX9) (T := TX9) (N := 17) hx hb hts iX9 tyX9 tyX9_ok nmX9 hown hK hP hD hS 0 rfl rfl 4 (Nat.le_of_ble_eq_true rfl) (hts _ wd_89) (fun _ h9 => h9) rfl (by decide +kernel) rfl rfl (Nat.le_of_ble_eq_true rfl) dX9_init_42 (fun H locs hP hD hS => ?_)
  have hP : va_P D classes [(h, .inr (9, [.ref q_1, .int 0, .int (-1), .ref q_2, .ref q_6, .null, .null, .null, .null, .null, .int 0, .null, .int 0, .null, .null, .null, .null])), (q_1, .inl (cI, 240, .inl z0)), (q_2, .inr (5, [.int 0, .int (-1), .ref u_3, .int 0, .int 0, .int 0, .int 0])), (u_3, .inl (cI, 0, .inl z0)), (q_6, .inr (8, [.int 0, .int 1, .int 0, .int 0, .int 0, .ref q_9, .ref q_10, .ref q_11, .ref q_12, .ref q_13])), (q_9, .inl (cI, 6, .inl z0)), (q_10, .inl (cI, 6, .inl z0)), (q_11, .inl (cI, 30, .inl z0)), (q_12, .inl (cI, 7, .inl z0)), (q_13, .inl (cI, 7, .inl z0))] H := hP
  have hD : va_D A [(h, .inr (9, [.ref q_1, .int 0, .int (-1), .ref q_2, .ref q_6, .null, .null, .null, .null, .null, .int 0, .null, .int 0, .null, .null, .null, .null])), (q_1, .inl (cI, 240, .inl z0)), (q_2, .inr (5, [.int 0, .int (-1), .ref u_3, .int 0, .int 0, .int 0, .int 0])), (u_3, .inl (cI, 0, .inl z0)), (q_6, .inr (8, [.int 0, .int 1, .int 0, .int 0, .int 0, .ref q_9, .ref q_10, .ref q_11, .ref q_12, .ref q_13])), (q_9, .inl (cI, 6, .inl z0)), (q_10, .inl (cI, 6, .inl z0)), (q_11, .inl (cI, 30, .inl z0)), (q_12, .inl (cI, 7, .inl z0)), (q_13, .inl (cI, 7, .inl z0))] := hD
  refine lv_aload_n hx hb dX9_init_45 rfl (lv_at hl 0 rfl) ?_
  refine va_new (ci := 8) (fs := [.int 0, .int 0, .int 0, .int 0, .int 0, .null, .null, .null, .null, .null]) (C := RX8) (T := TX8) (N := 10) hx hb hts iX8 tyX8 tyX8_ok hown (hts _ wd_84) (hts _ wd_85) (hts _ wd_86) hK hP hD hS hA rfl (by decide +kernel) (Nat.le_of_ble_eq_true rfl) (Nat.le_of_ble_eq_true rfl) dX9_init_46 (fun q_14 H hP hD hS => ?_)
  have hP : va_P D classes [(h, .inr (9, [.ref q_1, .int 0, .int (-1), .ref q_2, .ref q_6, .null, .null, .null, .null, .null, .int 0, .null, .int 0, .null, .null, .null, .null])), (q_1, .inl (cI, 240, .inl z0)), (q_2, .inr (5, [.int 0, .int (-1), .ref u_3, .int 0, .int 0, .int 0, .int 0])), (u_3, .inl (cI, 0, .inl z0)), (q_6, .inr (8, [.int 0, .int 1, .int 0, .int 0, .int 0, .ref q_9, .ref q_10, .ref q_11, .ref q_12, .ref q_13])), (q_9, .inl (cI, 6, .inl z0)), (q_10, .inl (cI, 6, .inl z0)), (q_11, .inl (cI, 30, .inl z0)), (q_12, .inl (cI, 7, .inl z0)), (q_13, .inl (cI, 7, .inl z0)), (q_14, .inr (8, [.int 0, .int 0, .int 0, .int 0, .int 0, .null, .null, .null, .null, .null]))] H := hP
  have hD : va_D A [(h, .inr (9, [.ref q_1, .int 0, .int (-1), .ref q_2, .ref q_6, .null, .null, .null, .null, .null, .int 0, .null, .int 0, .null, .null, .null, .null])), (q_1, .inl (cI, 240, .inl z0)), (q_2, .inr (5, [.int 0, .int (-1), .ref u_3, .int 0, .int 0, .int 0, .int 0])), (u_3, .inl (cI, 0, .inl z0)), (q_6, .inr (8, [.int 0, .int 1, .int 0, .int 0, .int 0, .ref q_9, .ref q_10, .ref q_11, .ref q_12, .ref q_13])), (q_9, .inl (cI, 6, .inl z0)), (q_10, .inl (cI, 6, .inl z0)), (q_11, .inl (cI, 30, .inl z0)), (q_12, .inl (cI, 7, .inl z0)), (q_13, .inl (cI, 7, .inl z0)), (q_14, .inr (8, [.int 0, .int 0, .int 0, .int 0, .int 0, .null, .null, .null, .null, .null]))] := hD
  refine W.widen (k := 10) (n := 323) (Nat.le_of_ble_eq_true rfl) (Nat.le_of_ble_eq_true rfl) ?_
  refine lv_dup hx hb dX9_init_49 rfl ?_
  refine cMv (wr := [(h, .inr (9, [.ref q_1, .int 0, .int (-1), .ref q_2, .ref q_6, .null, .null, .null, .null, .null, .int 0, .null, .int 0, .null, .null, .null, .null])), (q_1, .inl (cI, 240, .inl z0)), (q_2, .inr (5, [.int 0, .int (-1), .ref u_3, .int 0, .int 0, .int 0, .int 0])), (u_3, .inl (cI, 0, .inl z0)), (q_6, .inr (8, [.int 0, .int 1, .int 0, .int 0, .int 0, .ref q_9, .ref q_10, .ref q_11, .ref q_12, .ref q_13])), (q_9, .inl (cI, 6, .inl z0)), (q_10, .inl (cI, 6, .inl z0)), (q_11, .inl (cI, 30, .inl z0)), (q_12, .inl (cI, 7, .inl z0)), (q_13, .inl (cI, 7, .inl z0))]) (rest := [.ref q_14, .ref h]) (k_town_init q_14) okI_X8_init 1 rfl hx hb hml hown hts hK hP hD hS hA hN hl.1 [10] [0, 1, 2, 3, 4, 5, 6, 7, 8, 9] rfl rfl rfl rfl (of_decide_eq_true rfl) rfl (Nat.le_of_ble_eq_true rfl) (Nat.le_of_ble_eq_true rfl) (Nat.le_of_ble_eq_true rfl) (Nat.le_of_ble_eq_true rfl) (Nat.le_of_ble_eq_true rfl) dX9_init_50 (fun u_15 H locs hw_u_15 hP hD hS => ?_)
  obtain ⟨q_17, q_18, q_19, q_20, q_21⟩ := u_15
  refine W.widen (k := 15) (n := 379) (Nat.le_of_ble_eq_true rfl) (Nat.le_of_ble_eq_true rfl) ?_
  have hP : va_P D classes [(h, .inr (9, [.ref q_1, .int 0, .int (-1), .ref q_2, .ref q_6, .null, .null, .null, .null, .null, .int 0, .null, .int 0, .null, .null, .null, .null])), (q_1, .inl (cI, 240, .inl z0)), (q_2, .inr (5, [.int 0, .int (-1), .ref u_3, .int 0, .int 0, .int 0, .int 0])), (u_3, .inl (cI, 0, .inl z0)), (q_6, .inr (8, [.int 0, .int 1, .int 0, .int 0, .int 0, .ref q_9, .ref q_10, .ref q_11, .ref q_12, .ref q_13])), (q_9, .inl (cI, 6, .inl z0)), (q_10, .inl (cI, 6, .inl z0)), (q_11, .inl (cI, 30, .inl z0)), (q_12, .inl (cI, 7, .inl z0)), (q_13, .inl (cI, 7, .inl z0)), (q_14, .inr (8, [.int 0, .int 1, .int 0, .int 0, .int 0, .ref q_17, .ref q_18, .ref q_19, .ref q_20, .ref q_21])), (q_17, .inl (cI, 6, .inl z0)), (q_18, .inl (cI, 6, .inl z0)), (q_19, .inl (cI, 30, .inl z0)), (q_20, .inl (cI, 7, .inl z0)), (q_21, .inl (cI, 7, .inl z0))] H := hP
  have hD : va_D A [(h, .inr (9, [.ref q_1, .int 0, .int (-1), .ref q_2, .ref q_6, .null, .null, .null, .null, .null, .int 0, .null, .int 0, .null, .null, .null, .null])), (q_1, .inl (cI, 240, .inl z0)), (q_2, .inr (5, [.int 0, .int (-1), .ref u_3, .int 0, .int 0, .int 0, .int 0])), (u_3, .inl (cI, 0, .inl z0)), (q_6, .inr (8, [.int 0, .int 1, .int 0, .int 0, .int 0, .ref q_9, .ref q_10, .ref q_11, .ref q_12, .ref q_13])), (q_9, .inl (cI, 6, .inl z0)), (q_10, .inl (cI, 6, .inl z0)), (q_11, .inl (cI, 30, .inl z0)), (q_12, .inl (cI, 7, .inl z0)), (q_13, .inl (cI, 7, .inl z0)), (q_14, .inr (8, [.int 0, .int 1, .int 0, .int 0, .int 0, .ref q_17, .ref q_18, .ref q_19, .ref q_20, .ref q_21])), (q_17, .inl (cI, 6, .inl z0)), (q_18, .inl (cI, 6, .inl z0)), (q_19, .inl (cI, 30, .inl z0)), (q_20, .inl (cI, 7, .inl z0)), (q_21, .inl (cI, 7, .inl z0))] := hD
  refine va_put (D := D) (ci := 9) (v := .ref q_14) (ty := (.object "QuarrelBridges$Town")) (C := RX9) (T := TX9) (N := 17) hx hb hts iX9 tyX9 tyX9_ok nmX9 hown hK hP hD hS 0 rfl rfl 5 (Nat.le_of_ble_eq_true rfl) (hts _ wd_90) (fun _ h9 => h9) rfl (by decide +kernel) rfl rfl (Nat.le_of_ble_eq_true rfl) dX9_init_53 (fun H locs hP hD hS => ?_)
  have hP : va_P D classes [(h, .inr (9, [.ref q_1, .int 0, .int (-1), .ref q_2, .ref q_6, .ref q_14, .null, .null, .null, .null, .int 0, .null, .int 0, .null, .null, .null, .null])), (q_1, .inl (cI, 240, .inl z0)), (q_2, .inr (5, [.int 0, .int (-1), .ref u_3, .int 0, .int 0, .int 0, .int 0])), (u_3, .inl (cI, 0, .inl z0)), (q_6, .inr (8, [.int 0, .int 1, .int 0, .int 0, .int 0, .ref q_9, .ref q_10, .ref q_11, .ref q_12, .ref q_13])), (q_9, .inl (cI, 6, .inl z0)), (q_10, .inl (cI, 6, .inl z0)), (q_11, .inl (cI, 30, .inl z0)), (q_12, .inl (cI, 7, .inl z0)), (q_13, .inl (cI, 7, .inl z0)), (q_14, .inr (8, [.int 0, .int 1, .int 0, .int 0, .int 0, .ref q_17, .ref q_18, .ref q_19, .ref q_20, .ref q_21])), (q_17, .inl (cI, 6, .inl z0)), (q_18, .inl (cI, 6, .inl z0)), (q_19, .inl (cI, 30, .inl z0)), (q_20, .inl (cI, 7, .inl z0)), (q_21, .inl (cI, 7, .inl z0))] H := hP
  have hD : va_D A [(h, .inr (9, [.ref q_1, .int 0, .int (-1), .ref q_2, .ref q_6, .ref q_14, .null, .null, .null, .null, .int 0, .null, .int 0, .null, .null, .null, .null])), (q_1, .inl (cI, 240, .inl z0)), (q_2, .inr (5, [.int 0, .int (-1), .ref u_3, .int 0, .int 0, .int 0, .int 0])), (u_3, .inl (cI, 0, .inl z0)), (q_6, .inr (8, [.int 0, .int 1, .int 0, .int 0, .int 0, .ref q_9, .ref q_10, .ref q_11, .ref q_12, .ref q_13])), (q_9, .inl (cI, 6, .inl z0)), (q_10, .inl (cI, 6, .inl z0)), (q_11, .inl (cI, 30, .inl z0)), (q_12, .inl (cI, 7, .inl z0)), (q_13, .inl (cI, 7, .inl z0)), (q_14, .inr (8, [.int 0, .int 1, .int 0, .int 0, .int 0, .ref q_17, .ref q_18, .ref q_19, .ref q_20, .ref q_21])), (q_17, .inl (cI, 6, .inl z0)), (q_18, .inl (cI, 6, .inl z0)), (q_19, .inl (cI, 30, .inl z0)), (q_20, .inl (cI, 7, .inl z0)), (q_21, .inl (cI, 7, .inl z0))] := hD
  refine lv_aload_n hx hb dX9_init_56 rfl (lv_at hl 0 rfl) ?_
  refine va_new (ci := 7) (fs := [.null]) (C := RX7) (T := TX7) (N := 1) hx hb hts iX7 tyX7 tyX7_ok hown (hts _ wd_91) (hts _ wd_92) (hts _ wd_93) hK hP hD hS hA rfl (by decide +kernel) (Nat.le_of_ble_eq_true rfl) (Nat.le_of_ble_eq_true rfl) dX9_init_57 (fun q_22 H hP hD hS => ?_)
  have hP : va_P D classes [(h, .inr (9, [.ref q_1, .int 0, .int (-1), .ref q_2, .ref q_6, .ref q_14, .null, .null, .null, .null, .int 0, .null, .int 0, .null, .null, .null, .null])), (q_1, .inl (cI, 240, .inl z0)), (q_2, .inr (5, [.int 0, .int (-1), .ref u_3, .int 0, .int 0, .int 0, .int 0])), (u_3, .inl (cI, 0, .inl z0)), (q_6, .inr (8, [.int 0, .int 1, .int 0, .int 0, .int 0, .ref q_9, .ref q_10, .ref q_11, .ref q_12, .ref q_13])), (q_9, .inl (cI, 6, .inl z0)), (q_10, .inl (cI, 6, .inl z0)), (q_11, .inl (cI, 30, .inl z0)), (q_12, .inl (cI, 7, .inl z0)), (q_13, .inl (cI, 7, .inl z0)), (q_14, .inr (8, [.int 0, .int 1, .int 0, .int 0, .int 0, .ref q_17, .ref q_18, .ref q_19, .ref q_20, .ref q_21])), (q_17, .inl (cI, 6, .inl z0)), (q_18, .inl (cI, 6, .inl z0)), (q_19, .inl (cI, 30, .inl z0)), (q_20, .inl (cI, 7, .inl z0)), (q_21, .inl (cI, 7, .inl z0)), (q_22, .inr (7, [.null]))] H := hP
  have hD : va_D A [(h, .inr (9, [.ref q_1, .int 0, .int (-1), .ref q_2, .ref q_6, .ref q_14, .null, .null, .null, .null, .int 0, .null, .int 0, .null, .null, .null, .null])), (q_1, .inl (cI, 240, .inl z0)), (q_2, .inr (5, [.int 0, .int (-1), .ref u_3, .int 0, .int 0, .int 0, .int 0])), (u_3, .inl (cI, 0, .inl z0)), (q_6, .inr (8, [.int 0, .int 1, .int 0, .int 0, .int 0, .ref q_9, .ref q_10, .ref q_11, .ref q_12, .ref q_13])), (q_9, .inl (cI, 6, .inl z0)), (q_10, .inl (cI, 6, .inl z0)), (q_11, .inl (cI, 30, .inl z0)), (q_12, .inl (cI, 7, .inl z0)), (q_13, .inl (cI, 7, .inl z0)), (q_14, .inr (8, [.int 0, .int 1, .int 0, .int 0, .int 0, .ref q_17, .ref q_18, .ref q_19, .ref q_20, .ref q_21])), (q_17, .inl (cI, 6, .inl z0)), (q_18, .inl (cI, 6, .inl z0)), (q_19, .inl (cI, 30, .inl z0)), (q_20, .inl (cI, 7, .inl z0)), (q_21, .inl (cI, 7, .inl z0)), (q_22, .inr (7, [.null]))] := hD
  refine W.widen (k := 16) (n := 380) (Nat.le_of_ble_eq_true rfl) (Nat.le_of_ble_eq_true rfl) ?_
  refine lv_dup hx hb dX9_init_60 rfl ?_
  refine cMv (wr := [(h, .inr (9, [.ref q_1, .int 0, .int (-1), .ref q_2, .ref q_6, .ref q_14, .null, .null, .null, .null, .int 0, .null, .int 0, .null, .null, .null, .null])), (q_1, .inl (cI, 240, .inl z0)), (q_2, .inr (5, [.int 0, .int (-1), .ref u_3, .int 0, .int 0, .int 0, .int 0])), (u_3, .inl (cI, 0, .inl z0)), (q_6, .inr (8, [.int 0, .int 1, .int 0, .int 0, .int 0, .ref q_9, .ref q_10, .ref q_11, .ref q_12, .ref q_13])), (q_9, .inl (cI, 6, .inl z0)), (q_10, .inl (cI, 6, .inl z0)), (q_11, .inl (cI, 30, .inl z0)), (q_12, .inl (cI, 7, .inl z0)), (q_13, .inl (cI, 7, .inl z0)), (q_14, .inr (8, [.int 0, .int 1, .int 0, .int 0, .int 0, .ref q_17, .ref q_18, .ref q_19, .ref q_20, .ref q_21])), (q_17, .inl (cI, 6, .inl z0)), (q_18, .inl (cI, 6, .inl z0)), (q_19, .inl (cI, 30, .inl z0)), (q_20, .inl (cI, 7, .inl z0)), (q_21, .inl (cI, 7, .inl z0))]) (rest := [.ref q_22, .ref h]) (k_state_init q_22) okI_X7_init 2 rfl hx hb hml hown hts hK hP hD hS hA hN hl.1 [16] [0, 1, 2, 3, 4, 5, 6, 7, 8, 9, 10, 11, 12, 13, 14, 15] rfl rfl rfl rfl (of_decide_eq_true rfl) rfl (Nat.le_of_ble_eq_true rfl) (Nat.le_of_ble_eq_true rfl) (Nat.le_of_ble_eq_true rfl) (Nat.le_of_ble_eq_true rfl) (Nat.le_of_ble_eq_true rfl) dX9_init_61 (fun u_23 H locs hw_u_23 hP hD hS => ?_)
  refine W.widen (k := 17) (n := 421) (Nat.le_of_ble_eq_true rfl) (Nat.le_of_ble_eq_true rfl) ?_
  have hP : va_P D classes [(h, .inr (9, [.ref q_1, .int 0, .int (-1), .ref q_2, .ref q_6, .ref q_14, .null, .null, .null, .null, .int 0, .null, .int 0, .null, .null, .null, .null])), (q_1, .inl (cI, 240, .inl z0)), (q_2, .inr (5, [.int 0, .int (-1), .ref u_3, .int 0, .int 0, .int 0, .int 0])), (u_3, .inl (cI, 0, .inl z0)), (q_6, .inr (8, [.int 0, .int 1, .int 0, .int 0, .int 0, .ref q_9, .ref q_10, .ref q_11, .ref q_12, .ref q_13])), (q_9, .inl (cI, 6, .inl z0)), (q_10, .inl (cI, 6, .inl z0)), (q_11, .inl (cI, 30, .inl z0)), (q_12, .inl (cI, 7, .inl z0)), (q_13, .inl (cI, 7, .inl z0)), (q_14, .inr (8, [.int 0, .int 1, .int 0, .int 0, .int 0, .ref q_17, .ref q_18, .ref q_19, .ref q_20, .ref q_21])), (q_17, .inl (cI, 6, .inl z0)), (q_18, .inl (cI, 6, .inl z0)), (q_19, .inl (cI, 30, .inl z0)), (q_20, .inl (cI, 7, .inl z0)), (q_21, .inl (cI, 7, .inl z0)), (q_22, .inr (7, [.ref u_23])), (u_23, .inl (cI, 41, .inl z0))] H := hP
  have hD : va_D A [(h, .inr (9, [.ref q_1, .int 0, .int (-1), .ref q_2, .ref q_6, .ref q_14, .null, .null, .null, .null, .int 0, .null, .int 0, .null, .null, .null, .null])), (q_1, .inl (cI, 240, .inl z0)), (q_2, .inr (5, [.int 0, .int (-1), .ref u_3, .int 0, .int 0, .int 0, .int 0])), (u_3, .inl (cI, 0, .inl z0)), (q_6, .inr (8, [.int 0, .int 1, .int 0, .int 0, .int 0, .ref q_9, .ref q_10, .ref q_11, .ref q_12, .ref q_13])), (q_9, .inl (cI, 6, .inl z0)), (q_10, .inl (cI, 6, .inl z0)), (q_11, .inl (cI, 30, .inl z0)), (q_12, .inl (cI, 7, .inl z0)), (q_13, .inl (cI, 7, .inl z0)), (q_14, .inr (8, [.int 0, .int 1, .int 0, .int 0, .int 0, .ref q_17, .ref q_18, .ref q_19, .ref q_20, .ref q_21])), (q_17, .inl (cI, 6, .inl z0)), (q_18, .inl (cI, 6, .inl z0)), (q_19, .inl (cI, 30, .inl z0)), (q_20, .inl (cI, 7, .inl z0)), (q_21, .inl (cI, 7, .inl z0)), (q_22, .inr (7, [.ref u_23])), (u_23, .inl (cI, 41, .inl z0))] := hD
  refine va_putF (D := D) (ci := 9) (v := .ref q_22) (ty := (.object "QuarrelBridges$State")) (C := RX9) (T := TX9) (N := 17) hx hb hts iX9 tyX9 tyX9_ok nmX9 hown hK hP hD hS 0 rfl rfl 6 (Nat.le_of_ble_eq_true rfl) (hts _ wd_96) (fun _ h9 => h9) rfl hin rfl (by decide +kernel) rfl rfl (Nat.le_of_ble_eq_true rfl) dX9_init_64 (fun H locs hP hD hS => ?_)
  have hP : va_P D classes [(h, .inr (9, [.ref q_1, .int 0, .int (-1), .ref q_2, .ref q_6, .ref q_14, .ref q_22, .null, .null, .null, .int 0, .null, .int 0, .null, .null, .null, .null])), (q_1, .inl (cI, 240, .inl z0)), (q_2, .inr (5, [.int 0, .int (-1), .ref u_3, .int 0, .int 0, .int 0, .int 0])), (u_3, .inl (cI, 0, .inl z0)), (q_6, .inr (8, [.int 0, .int 1, .int 0, .int 0, .int 0, .ref q_9, .ref q_10, .ref q_11, .ref q_12, .ref q_13])), (q_9, .inl (cI, 6, .inl z0)), (q_10, .inl (cI, 6, .inl z0)), (q_11, .inl (cI, 30, .inl z0)), (q_12, .inl (cI, 7, .inl z0)), (q_13, .inl (cI, 7, .inl z0)), (q_14, .inr (8, [.int 0, .int 1, .int 0, .int 0, .int 0, .ref q_17, .ref q_18, .ref q_19, .ref q_20, .ref q_21])), (q_17, .inl (cI, 6, .inl z0)), (q_18, .inl (cI, 6, .inl z0)), (q_19, .inl (cI, 30, .inl z0)), (q_20, .inl (cI, 7, .inl z0)), (q_21, .inl (cI, 7, .inl z0)), (q_22, .inr (7, [.ref u_23])), (u_23, .inl (cI, 41, .inl z0))] H := hP
  have hD : va_D A [(h, .inr (9, [.ref q_1, .int 0, .int (-1), .ref q_2, .ref q_6, .ref q_14, .ref q_22, .null, .null, .null, .int 0, .null, .int 0, .null, .null, .null, .null])), (q_1, .inl (cI, 240, .inl z0)), (q_2, .inr (5, [.int 0, .int (-1), .ref u_3, .int 0, .int 0, .int 0, .int 0])), (u_3, .inl (cI, 0, .inl z0)), (q_6, .inr (8, [.int 0, .int 1, .int 0, .int 0, .int 0, .ref q_9, .ref q_10, .ref q_11, .ref q_12, .ref q_13])), (q_9, .inl (cI, 6, .inl z0)), (q_10, .inl (cI, 6, .inl z0)), (q_11, .inl (cI, 30, .inl z0)), (q_12, .inl (cI, 7, .inl z0)), (q_13, .inl (cI, 7, .inl z0)), (q_14, .inr (8, [.int 0, .int 1, .int 0, .int 0, .int 0, .ref q_17, .ref q_18, .ref q_19, .ref q_20, .ref q_21])), (q_17, .inl (cI, 6, .inl z0)), (q_18, .inl (cI, 6, .inl z0)), (q_19, .inl (cI, 30, .inl z0)), (q_20, .inl (cI, 7, .inl z0)), (q_21, .inl (cI, 7, .inl z0)), (q_22, .inr (7, [.ref u_23])), (u_23, .inl (cI, 41, .inl z0))] := hD
  refine lv_aload_n hx hb dX9_init_67 rfl (lv_at hl 0 rfl) ?_
  refine va_new (ci := 2) (fs := [.null, .int 0, .int 0]) (C := RX2) (T := TX2) (N := 3) hx hb hts iX2 tyX2 tyX2_ok hown (hts _ wd_97) (hts _ wd_98) (hts _ wd_99) hK hP hD hS hA rfl (by decide +kernel) (Nat.le_of_ble_eq_true rfl) (Nat.le_of_ble_eq_true rfl) dX9_init_68 (fun q_26 H hP hD hS => ?_)
  have hP : va_P D classes [(h, .inr (9, [.ref q_1, .int 0, .int (-1), .ref q_2, .ref q_6, .ref q_14, .ref q_22, .null, .null, .null, .int 0, .null, .int 0, .null, .null, .null, .null])), (q_1, .inl (cI, 240, .inl z0)), (q_2, .inr (5, [.int 0, .int (-1), .ref u_3, .int 0, .int 0, .int 0, .int 0])), (u_3, .inl (cI, 0, .inl z0)), (q_6, .inr (8, [.int 0, .int 1, .int 0, .int 0, .int 0, .ref q_9, .ref q_10, .ref q_11, .ref q_12, .ref q_13])), (q_9, .inl (cI, 6, .inl z0)), (q_10, .inl (cI, 6, .inl z0)), (q_11, .inl (cI, 30, .inl z0)), (q_12, .inl (cI, 7, .inl z0)), (q_13, .inl (cI, 7, .inl z0)), (q_14, .inr (8, [.int 0, .int 1, .int 0, .int 0, .int 0, .ref q_17, .ref q_18, .ref q_19, .ref q_20, .ref q_21])), (q_17, .inl (cI, 6, .inl z0)), (q_18, .inl (cI, 6, .inl z0)), (q_19, .inl (cI, 30, .inl z0)), (q_20, .inl (cI, 7, .inl z0)), (q_21, .inl (cI, 7, .inl z0)), (q_22, .inr (7, [.ref u_23])), (u_23, .inl (cI, 41, .inl z0)), (q_26, .inr (2, [.null, .int 0, .int 0]))] H := hP
  have hD : va_D A [(h, .inr (9, [.ref q_1, .int 0, .int (-1), .ref q_2, .ref q_6, .ref q_14, .ref q_22, .null, .null, .null, .int 0, .null, .int 0, .null, .null, .null, .null])), (q_1, .inl (cI, 240, .inl z0)), (q_2, .inr (5, [.int 0, .int (-1), .ref u_3, .int 0, .int 0, .int 0, .int 0])), (u_3, .inl (cI, 0, .inl z0)), (q_6, .inr (8, [.int 0, .int 1, .int 0, .int 0, .int 0, .ref q_9, .ref q_10, .ref q_11, .ref q_12, .ref q_13])), (q_9, .inl (cI, 6, .inl z0)), (q_10, .inl (cI, 6, .inl z0)), (q_11, .inl (cI, 30, .inl z0)), (q_12, .inl (cI, 7, .inl z0)), (q_13, .inl (cI, 7, .inl z0)), (q_14, .inr (8, [.int 0, .int 1, .int 0, .int 0, .int 0, .ref q_17, .ref q_18, .ref q_19, .ref q_20, .ref q_21])), (q_17, .inl (cI, 6, .inl z0)), (q_18, .inl (cI, 6, .inl z0)), (q_19, .inl (cI, 30, .inl z0)), (q_20, .inl (cI, 7, .inl z0)), (q_21, .inl (cI, 7, .inl z0)), (q_22, .inr (7, [.ref u_23])), (u_23, .inl (cI, 41, .inl z0)), (q_26, .inr (2, [.null, .int 0, .int 0]))] := hD
  refine W.widen (k := 18) (n := 424) (Nat.le_of_ble_eq_true rfl) (Nat.le_of_ble_eq_true rfl) ?_
  refine lv_dup hx hb dX9_init_71 rfl ?_
  refine cMv (wr := [(h, .inr (9, [.ref q_1, .int 0, .int (-1), .ref q_2, .ref q_6, .ref q_14, .ref q_22, .null, .null, .null, .int 0, .null, .int 0, .null, .null, .null, .null])), (q_1, .inl (cI, 240, .inl z0)), (q_2, .inr (5, [.int 0, .int (-1), .ref u_3, .int 0, .int 0, .int 0, .int 0])), (u_3, .inl (cI, 0, .inl z0)), (q_6, .inr (8, [.int 0, .int 1, .int 0, .int 0, .int 0, .ref q_9, .ref q_10, .ref q_11, .ref q_12, .ref q_13])), (q_9, .inl (cI, 6, .inl z0)), (q_10, .inl (cI, 6, .inl z0)), (q_11, .inl (cI, 30, .inl z0)), (q_12, .inl (cI, 7, .inl z0)), (q_13, .inl (cI, 7, .inl z0)), (q_14, .inr (8, [.int 0, .int 1, .int 0, .int 0, .int 0, .ref q_17, .ref q_18, .ref q_19, .ref q_20, .ref q_21])), (q_17, .inl (cI, 6, .inl z0)), (q_18, .inl (cI, 6, .inl z0)), (q_19, .inl (cI, 30, .inl z0)), (q_20, .inl (cI, 7, .inl z0)), (q_21, .inl (cI, 7, .inl z0)), (q_22, .inr (7, [.ref u_23])), (u_23, .inl (cI, 41, .inl z0))]) (rest := [.ref q_26, .ref h]) (k_history_init q_26) okI_X2_init 3 rfl hx hb hml hown hts hK hP hD hS hA hN hl.1 [18] [0, 1, 2, 3, 4, 5, 6, 7, 8, 9, 10, 11, 12, 13, 14, 15, 16, 17] rfl rfl rfl rfl (of_decide_eq_true rfl) rfl (Nat.le_of_ble_eq_true rfl) (Nat.le_of_ble_eq_true rfl) (Nat.le_of_ble_eq_true rfl) (Nat.le_of_ble_eq_true rfl) (Nat.le_of_ble_eq_true rfl) dX9_init_72 (fun u_27 H locs hw_u_27 hP hD hS => ?_)
  obtain ⟨q_29, q_30⟩ := u_27
  refine W.widen (k := 20) (n := 1246) (Nat.le_of_ble_eq_true rfl) (Nat.le_of_ble_eq_true rfl) ?_
  have hP : va_P D classes [(h, .inr (9, [.ref q_1, .int 0, .int (-1), .ref q_2, .ref q_6, .ref q_14, .ref q_22, .null, .null, .null, .int 0, .null, .int 0, .null, .null, .null, .null])), (q_1, .inl (cI, 240, .inl z0)), (q_2, .inr (5, [.int 0, .int (-1), .ref u_3, .int 0, .int 0, .int 0, .int 0])), (u_3, .inl (cI, 0, .inl z0)), (q_6, .inr (8, [.int 0, .int 1, .int 0, .int 0, .int 0, .ref q_9, .ref q_10, .ref q_11, .ref q_12, .ref q_13])), (q_9, .inl (cI, 6, .inl z0)), (q_10, .inl (cI, 6, .inl z0)), (q_11, .inl (cI, 30, .inl z0)), (q_12, .inl (cI, 7, .inl z0)), (q_13, .inl (cI, 7, .inl z0)), (q_14, .inr (8, [.int 0, .int 1, .int 0, .int 0, .int 0, .ref q_17, .ref q_18, .ref q_19, .ref q_20, .ref q_21])), (q_17, .inl (cI, 6, .inl z0)), (q_18, .inl (cI, 6, .inl z0)), (q_19, .inl (cI, 30, .inl z0)), (q_20, .inl (cI, 7, .inl z0)), (q_21, .inl (cI, 7, .inl z0)), (q_22, .inr (7, [.ref u_23])), (u_23, .inl (cI, 41, .inl z0)), (q_26, .inr (2, [.ref q_29, .int 0, .int 0])), (q_29, .inr (6, [.int 20, .ref q_30])), (q_30, .inl (cI, 820, .inl z0))] H := hP
  have hD : va_D A [(h, .inr (9, [.ref q_1, .int 0, .int (-1), .ref q_2, .ref q_6, .ref q_14, .ref q_22, .null, .null, .null, .int 0, .null, .int 0, .null, .null, .null, .null])), (q_1, .inl (cI, 240, .inl z0)), (q_2, .inr (5, [.int 0, .int (-1), .ref u_3, .int 0, .int 0, .int 0, .int 0])), (u_3, .inl (cI, 0, .inl z0)), (q_6, .inr (8, [.int 0, .int 1, .int 0, .int 0, .int 0, .ref q_9, .ref q_10, .ref q_11, .ref q_12, .ref q_13])), (q_9, .inl (cI, 6, .inl z0)), (q_10, .inl (cI, 6, .inl z0)), (q_11, .inl (cI, 30, .inl z0)), (q_12, .inl (cI, 7, .inl z0)), (q_13, .inl (cI, 7, .inl z0)), (q_14, .inr (8, [.int 0, .int 1, .int 0, .int 0, .int 0, .ref q_17, .ref q_18, .ref q_19, .ref q_20, .ref q_21])), (q_17, .inl (cI, 6, .inl z0)), (q_18, .inl (cI, 6, .inl z0)), (q_19, .inl (cI, 30, .inl z0)), (q_20, .inl (cI, 7, .inl z0)), (q_21, .inl (cI, 7, .inl z0)), (q_22, .inr (7, [.ref u_23])), (u_23, .inl (cI, 41, .inl z0)), (q_26, .inr (2, [.ref q_29, .int 0, .int 0])), (q_29, .inr (6, [.int 20, .ref q_30])), (q_30, .inl (cI, 820, .inl z0))] := hD
  refine va_putF (D := D) (ci := 9) (v := .ref q_26) (ty := (.object "QuarrelBridges$History")) (C := RX9) (T := TX9) (N := 17) hx hb hts iX9 tyX9 tyX9_ok nmX9 hown hK hP hD hS 0 rfl rfl 7 (Nat.le_of_ble_eq_true rfl) (hts _ wd_102) (fun _ h9 => h9) rfl hin rfl (by decide +kernel) rfl rfl (Nat.le_of_ble_eq_true rfl) dX9_init_75 (fun H locs hP hD hS => ?_)
  have hP : va_P D classes [(h, .inr (9, [.ref q_1, .int 0, .int (-1), .ref q_2, .ref q_6, .ref q_14, .ref q_22, .ref q_26, .null, .null, .int 0, .null, .int 0, .null, .null, .null, .null])), (q_1, .inl (cI, 240, .inl z0)), (q_2, .inr (5, [.int 0, .int (-1), .ref u_3, .int 0, .int 0, .int 0, .int 0])), (u_3, .inl (cI, 0, .inl z0)), (q_6, .inr (8, [.int 0, .int 1, .int 0, .int 0, .int 0, .ref q_9, .ref q_10, .ref q_11, .ref q_12, .ref q_13])), (q_9, .inl (cI, 6, .inl z0)), (q_10, .inl (cI, 6, .inl z0)), (q_11, .inl (cI, 30, .inl z0)), (q_12, .inl (cI, 7, .inl z0)), (q_13, .inl (cI, 7, .inl z0)), (q_14, .inr (8, [.int 0, .int 1, .int 0, .int 0, .int 0, .ref q_17, .ref q_18, .ref q_19, .ref q_20, .ref q_21])), (q_17, .inl (cI, 6, .inl z0)), (q_18, .inl (cI, 6, .inl z0)), (q_19, .inl (cI, 30, .inl z0)), (q_20, .inl (cI, 7, .inl z0)), (q_21, .inl (cI, 7, .inl z0)), (q_22, .inr (7, [.ref u_23])), (u_23, .inl (cI, 41, .inl z0)), (q_26, .inr (2, [.ref q_29, .int 0, .int 0])), (q_29, .inr (6, [.int 20, .ref q_30])), (q_30, .inl (cI, 820, .inl z0))] H := hP
  have hD : va_D A [(h, .inr (9, [.ref q_1, .int 0, .int (-1), .ref q_2, .ref q_6, .ref q_14, .ref q_22, .ref q_26, .null, .null, .int 0, .null, .int 0, .null, .null, .null, .null])), (q_1, .inl (cI, 240, .inl z0)), (q_2, .inr (5, [.int 0, .int (-1), .ref u_3, .int 0, .int 0, .int 0, .int 0])), (u_3, .inl (cI, 0, .inl z0)), (q_6, .inr (8, [.int 0, .int 1, .int 0, .int 0, .int 0, .ref q_9, .ref q_10, .ref q_11, .ref q_12, .ref q_13])), (q_9, .inl (cI, 6, .inl z0)), (q_10, .inl (cI, 6, .inl z0)), (q_11, .inl (cI, 30, .inl z0)), (q_12, .inl (cI, 7, .inl z0)), (q_13, .inl (cI, 7, .inl z0)), (q_14, .inr (8, [.int 0, .int 1, .int 0, .int 0, .int 0, .ref q_17, .ref q_18, .ref q_19, .ref q_20, .ref q_21])), (q_17, .inl (cI, 6, .inl z0)), (q_18, .inl (cI, 6, .inl z0)), (q_19, .inl (cI, 30, .inl z0)), (q_20, .inl (cI, 7, .inl z0)), (q_21, .inl (cI, 7, .inl z0)), (q_22, .inr (7, [.ref u_23])), (u_23, .inl (cI, 41, .inl z0)), (q_26, .inr (2, [.ref q_29, .int 0, .int 0])), (q_29, .inr (6, [.int 20, .ref q_30])), (q_30, .inl (cI, 820, .inl z0))] := hD
  refine lv_aload_n hx hb dX9_init_78 rfl (lv_at hl 0 rfl) ?_
  refine va_new (ci := 6) (fs := [.int 0, .null]) (C := RX6) (T := TX6) (N := 2) hx hb hts iX6 tyX6 tyX6_ok hown (hts _ wd_103) (hts _ wd_58) (hts _ wd_59) hK hP hD hS hA rfl (by decide +kernel) (Nat.le_of_ble_eq_true rfl) (Nat.le_of_ble_eq_true rfl) dX9_init_79 (fun q_31 H hP hD hS => ?_)
  have hP : va_P D classes [(h, .inr (9, [.ref q_1, .int 0, .int (-1), .ref q_2, .ref q_6, .ref q_14, .ref q_22, .ref q_26, .null, .null, .int 0, .null, .int 0, .null, .null, .null, .null])), (q_1, .inl (cI, 240, .inl z0)), (q_2, .inr (5, [.int 0, .int (-1), .ref u_3, .int 0, .int 0, .int 0, .int 0])), (u_3, .inl (cI, 0, .inl z0)), (q_6, .inr (8, [.int 0, .int 1, .int 0, .int 0, .int 0, .ref q_9, .ref q_10, .ref q_11, .ref q_12, .ref q_13])), (q_9, .inl (cI, 6, .inl z0)), (q_10, .inl (cI, 6, .inl z0)), (q_11, .inl (cI, 30, .inl z0)), (q_12, .inl (cI, 7, .inl z0)), (q_13, .inl (cI, 7, .inl z0)), (q_14, .inr (8, [.int 0, .int 1, .int 0, .int 0, .int 0, .ref q_17, .ref q_18, .ref q_19, .ref q_20, .ref q_21])), (q_17, .inl (cI, 6, .inl z0)), (q_18, .inl (cI, 6, .inl z0)), (q_19, .inl (cI, 30, .inl z0)), (q_20, .inl (cI, 7, .inl z0)), (q_21, .inl (cI, 7, .inl z0)), (q_22, .inr (7, [.ref u_23])), (u_23, .inl (cI, 41, .inl z0)), (q_26, .inr (2, [.ref q_29, .int 0, .int 0])), (q_29, .inr (6, [.int 20, .ref q_30])), (q_30, .inl (cI, 820, .inl z0)), (q_31, .inr (6, [.int 0, .null]))] H := hP
  have hD : va_D A [(h, .inr (9, [.ref q_1, .int 0, .int (-1), .ref q_2, .ref q_6, .ref q_14, .ref q_22, .ref q_26, .null, .null, .int 0, .null, .int 0, .null, .null, .null, .null])), (q_1, .inl (cI, 240, .inl z0)), (q_2, .inr (5, [.int 0, .int (-1), .ref u_3, .int 0, .int 0, .int 0, .int 0])), (u_3, .inl (cI, 0, .inl z0)), (q_6, .inr (8, [.int 0, .int 1, .int 0, .int 0, .int 0, .ref q_9, .ref q_10, .ref q_11, .ref q_12, .ref q_13])), (q_9, .inl (cI, 6, .inl z0)), (q_10, .inl (cI, 6, .inl z0)), (q_11, .inl (cI, 30, .inl z0)), (q_12, .inl (cI, 7, .inl z0)), (q_13, .inl (cI, 7, .inl z0)), (q_14, .inr (8, [.int 0, .int 1, .int 0, .int 0, .int 0, .ref q_17, .ref q_18, .ref q_19, .ref q_20, .ref q_21])), (q_17, .inl (cI, 6, .inl z0)), (q_18, .inl (cI, 6, .inl z0)), (q_19, .inl (cI, 30, .inl z0)), (q_20, .inl (cI, 7, .inl z0)), (q_21, .inl (cI, 7, .inl z0)), (q_22, .inr (7, [.ref u_23])), (u_23, .inl (cI, 41, .inl z0)), (q_26, .inr (2, [.ref q_29, .int 0, .int 0])), (q_29, .inr (6, [.int 20, .ref q_30])), (q_30, .inl (cI, 820, .inl z0)), (q_31, .inr (6, [.int 0, .null]))] := hD
  refine W.widen (k := 21) (n := 1248) (Nat.le_of_ble_eq_true rfl) (Nat.le_of_ble_eq_true rfl) ?_
  refine lv_dup hx hb dX9_init_82 rfl ?_
  refine lv_iconst (v := 2) hx hb dX9_init_83 rfl ?_
  refine cIv (wr := [(h, .inr (9, [.ref q_1, .int 0, .int (-1), .ref q_2, .ref q_6, .ref q_14, .ref q_22, .ref q_26, .null, .null, .int 0, .null, .int 0, .null, .null, .null, .null])), (q_1, .inl (cI, 240, .inl z0)), (q_2, .inr (5, [.int 0, .int (-1), .ref u_3, .int 0, .int 0, .int 0, .int 0])), (u_3, .inl (cI, 0, .inl z0)), (q_6, .inr (8, [.int 0, .int 1, .int 0, .int 0, .int 0, .ref q_9, .ref q_10, .ref q_11, .ref q_12, .ref q_13])), (q_9, .inl (cI, 6, .inl z0)), (q_10, .inl (cI, 6, .inl z0)), (q_11, .inl (cI, 30, .inl z0)), (q_12, .inl (cI, 7, .inl z0)), (q_13, .inl (cI, 7, .inl z0)), (q_14, .inr (8, [.int 0, .int 1, .int 0, .int 0, .int 0, .ref q_17, .ref q_18, .ref q_19, .ref q_20, .ref q_21])), (q_17, .inl (cI, 6, .inl z0)), (q_18, .inl (cI, 6, .inl z0)), (q_19, .inl (cI, 30, .inl z0)), (q_20, .inl (cI, 7, .inl z0)), (q_21, .inl (cI, 7, .inl z0)), (q_22, .inr (7, [.ref u_23])), (u_23, .inl (cI, 41, .inl z0)), (q_26, .inr (2, [.ref q_29, .int 0, .int 0])), (q_29, .inr (6, [.int 20, .ref q_30])), (q_30, .inl (cI, 820, .inl z0))]) (rest := [.ref q_31, .ref h]) (k_shelf_init2 q_31) okI_X6_init wd_104 hx hb hml hown hts hK hP hD hS hA hN hl.1 [21] [0, 1, 2, 3, 4, 5, 6, 7, 8, 9, 10, 11, 12, 13, 14, 15, 16, 17, 18, 19, 20] rfl rfl rfl rfl (of_decide_eq_true rfl) rfl (Nat.le_of_ble_eq_true rfl) (Nat.le_of_ble_eq_true rfl) (Nat.le_of_ble_eq_true rfl) (Nat.le_of_ble_eq_true rfl) (Nat.le_of_ble_eq_true rfl) dX9_init_84 (fun u_32 H locs hw_u_32 hP hD hS => ?_)
  refine W.widen (k := 22) (n := 1330) (Nat.le_of_ble_eq_true rfl) (Nat.le_of_ble_eq_true rfl) ?_
  have hP : va_P D classes [(h, .inr (9, [.ref q_1, .int 0, .int (-1), .ref q_2, .ref q_6, .ref q_14, .ref q_22, .ref q_26, .null, .null, .int 0, .null, .int 0, .null, .null, .null, .null])), (q_1, .inl (cI, 240, .inl z0)), (q_2, .inr (5, [.int 0, .int (-1), .ref u_3, .int 0, .int 0, .int 0, .int 0])), (u_3, .inl (cI, 0, .inl z0)), (q_6, .inr (8, [.int 0, .int 1, .int 0, .int 0, .int 0, .ref q_9, .ref q_10, .ref q_11, .ref q_12, .ref q_13])), (q_9, .inl (cI, 6, .inl z0)), (q_10, .inl (cI, 6, .inl z0)), (q_11, .inl (cI, 30, .inl z0)), (q_12, .inl (cI, 7, .inl z0)), (q_13, .inl (cI, 7, .inl z0)), (q_14, .inr (8, [.int 0, .int 1, .int 0, .int 0, .int 0, .ref q_17, .ref q_18, .ref q_19, .ref q_20, .ref q_21])), (q_17, .inl (cI, 6, .inl z0)), (q_18, .inl (cI, 6, .inl z0)), (q_19, .inl (cI, 30, .inl z0)), (q_20, .inl (cI, 7, .inl z0)), (q_21, .inl (cI, 7, .inl z0)), (q_22, .inr (7, [.ref u_23])), (u_23, .inl (cI, 41, .inl z0)), (q_26, .inr (2, [.ref q_29, .int 0, .int 0])), (q_29, .inr (6, [.int 20, .ref q_30])), (q_30, .inl (cI, 820, .inl z0)), (q_31, .inr (6, [.int 2, .ref u_32])), (u_32, .inl (cI, 82, .inl z0))] H := hP
  have hD : va_D A [(h, .inr (9, [.ref q_1, .int 0, .int (-1), .ref q_2, .ref q_6, .ref q_14, .ref q_22, .ref q_26, .null, .null, .int 0, .null, .int 0, .null, .null, .null, .null])), (q_1, .inl (cI, 240, .inl z0)), (q_2, .inr (5, [.int 0, .int (-1), .ref u_3, .int 0, .int 0, .int 0, .int 0])), (u_3, .inl (cI, 0, .inl z0)), (q_6, .inr (8, [.int 0, .int 1, .int 0, .int 0, .int 0, .ref q_9, .ref q_10, .ref q_11, .ref q_12, .ref q_13])), (q_9, .inl (cI, 6, .inl z0)), (q_10, .inl (cI, 6, .inl z0)), (q_11, .inl (cI, 30, .inl z0)), (q_12, .inl (cI, 7, .inl z0)), (q_13, .inl (cI, 7, .inl z0)), (q_14, .inr (8, [.int 0, .int 1, .int 0, .int 0, .int 0, .ref q_17, .ref q_18, .ref q_19, .ref q_20, .ref q_21])), (q_17, .inl (cI, 6, .inl z0)), (q_18, .inl (cI, 6, .inl z0)), (q_19, .inl (cI, 30, .inl z0)), (q_20, .inl (cI, 7, .inl z0)), (q_21, .inl (cI, 7, .inl z0)), (q_22, .inr (7, [.ref u_23])), (u_23, .inl (cI, 41, .inl z0)), (q_26, .inr (2, [.ref q_29, .int 0, .int 0])), (q_29, .inr (6, [.int 20, .ref q_30])), (q_30, .inl (cI, 820, .inl z0)), (q_31, .inr (6, [.int 2, .ref u_32])), (u_32, .inl (cI, 82, .inl z0))] := hD
  refine va_putF (D := D) (ci := 9) (v := .ref q_31) (ty := (.object "QuarrelBridges$Shelf")) (C := RX9) (T := TX9) (N := 17) hx hb hts iX9 tyX9 tyX9_ok nmX9 hown hK hP hD hS 0 rfl rfl 8 (Nat.le_of_ble_eq_true rfl) (hts _ wd_105) (fun _ h9 => h9) rfl hin rfl (by decide +kernel) rfl rfl (Nat.le_of_ble_eq_true rfl) dX9_init_87 (fun H locs hP hD hS => ?_)
  have hP : va_P D classes [(h, .inr (9, [.ref q_1, .int 0, .int (-1), .ref q_2, .ref q_6, .ref q_14, .ref q_22, .ref q_26, .ref q_31, .null, .int 0, .null, .int 0, .null, .null, .null, .null])), (q_1, .inl (cI, 240, .inl z0)), (q_2, .inr (5, [.int 0, .int (-1), .ref u_3, .int 0, .int 0, .int 0, .int 0])), (u_3, .inl (cI, 0, .inl z0)), (q_6, .inr (8, [.int 0, .int 1, .int 0, .int 0, .int 0, .ref q_9, .ref q_10, .ref q_11, .ref q_12, .ref q_13])), (q_9, .inl (cI, 6, .inl z0)), (q_10, .inl (cI, 6, .inl z0)), (q_11, .inl (cI, 30, .inl z0)), (q_12, .inl (cI, 7, .inl z0)), (q_13, .inl (cI, 7, .inl z0)), (q_14, .inr (8, [.int 0, .int 1, .int 0, .int 0, .int 0, .ref q_17, .ref q_18, .ref q_19, .ref q_20, .ref q_21])), (q_17, .inl (cI, 6, .inl z0)), (q_18, .inl (cI, 6, .inl z0)), (q_19, .inl (cI, 30, .inl z0)), (q_20, .inl (cI, 7, .inl z0)), (q_21, .inl (cI, 7, .inl z0)), (q_22, .inr (7, [.ref u_23])), (u_23, .inl (cI, 41, .inl z0)), (q_26, .inr (2, [.ref q_29, .int 0, .int 0])), (q_29, .inr (6, [.int 20, .ref q_30])), (q_30, .inl (cI, 820, .inl z0)), (q_31, .inr (6, [.int 2, .ref u_32])), (u_32, .inl (cI, 82, .inl z0))] H := hP
  have hD : va_D A [(h, .inr (9, [.ref q_1, .int 0, .int (-1), .ref q_2, .ref q_6, .ref q_14, .ref q_22, .ref q_26, .ref q_31, .null, .int 0, .null, .int 0, .null, .null, .null, .null])), (q_1, .inl (cI, 240, .inl z0)), (q_2, .inr (5, [.int 0, .int (-1), .ref u_3, .int 0, .int 0, .int 0, .int 0])), (u_3, .inl (cI, 0, .inl z0)), (q_6, .inr (8, [.int 0, .int 1, .int 0, .int 0, .int 0, .ref q_9, .ref q_10, .ref q_11, .ref q_12, .ref q_13])), (q_9, .inl (cI, 6, .inl z0)), (q_10, .inl (cI, 6, .inl z0)), (q_11, .inl (cI, 30, .inl z0)), (q_12, .inl (cI, 7, .inl z0)), (q_13, .inl (cI, 7, .inl z0)), (q_14, .inr (8, [.int 0, .int 1, .int 0, .int 0, .int 0, .ref q_17, .ref q_18, .ref q_19, .ref q_20, .ref q_21])), (q_17, .inl (cI, 6, .inl z0)), (q_18, .inl (cI, 6, .inl z0)), (q_19, .inl (cI, 30, .inl z0)), (q_20, .inl (cI, 7, .inl z0)), (q_21, .inl (cI, 7, .inl z0)), (q_22, .inr (7, [.ref u_23])), (u_23, .inl (cI, 41, .inl z0)), (q_26, .inr (2, [.ref q_29, .int 0, .int 0])), (q_29, .inr (6, [.int 20, .ref q_30])), (q_30, .inl (cI, 820, .inl z0)), (q_31, .inr (6, [.int 2, .ref u_32])), (u_32, .inl (cI, 82, .inl z0))] := hD
  refine lv_aload_n hx hb dX9_init_90 rfl (lv_at hl 0 rfl) ?_
  refine lv_iconst (v := 2) hx hb dX9_init_91 rfl ?_
  refine va_newa (atype := .int) (a0 := (2, .inl z0)) (N' := 2) (ty := .int) hx hb (hts _ wd_8) rfl hK hP hD hS hA (fun cA => z0_int 2 cA) (by decide +kernel) (by decide +kernel) (by decide +kernel) (Nat.le_of_ble_eq_true rfl) (Nat.le_of_ble_eq_true rfl) dX9_init_92 (fun q_35 cA_q_35 H hKn hP hD hS => ?_)
  obtain rfl := (K_int hKn).symm
  have hP : va_P D classes [(h, .inr (9, [.ref q_1, .int 0, .int (-1), .ref q_2, .ref q_6, .ref q_14, .ref q_22, .ref q_26, .ref q_31, .null, .int 0, .null, .int 0, .null, .null, .null, .null])), (q_1, .inl (cI, 240, .inl z0)), (q_2, .inr (5, [.int 0, .int (-1), .ref u_3, .int 0, .int 0, .int 0, .int 0])), (u_3, .inl (cI, 0, .inl z0)), (q_6, .inr (8, [.int 0, .int 1, .int 0, .int 0, .int 0, .ref q_9, .ref q_10, .ref q_11, .ref q_12, .ref q_13])), (q_9, .inl (cI, 6, .inl z0)), (q_10, .inl (cI, 6, .inl z0)), (q_11, .inl (cI, 30, .inl z0)), (q_12, .inl (cI, 7, .inl z0)), (q_13, .inl (cI, 7, .inl z0)), (q_14, .inr (8, [.int 0, .int 1, .int 0, .int 0, .int 0, .ref q_17, .ref q_18, .ref q_19, .ref q_20, .ref q_21])), (q_17, .inl (cI, 6, .inl z0)), (q_18, .inl (cI, 6, .inl z0)), (q_19, .inl (cI, 30, .inl z0)), (q_20, .inl (cI, 7, .inl z0)), (q_21, .inl (cI, 7, .inl z0)), (q_22, .inr (7, [.ref u_23])), (u_23, .inl (cI, 41, .inl z0)), (q_26, .inr (2, [.ref q_29, .int 0, .int 0])), (q_29, .inr (6, [.int 20, .ref q_30])), (q_30, .inl (cI, 820, .inl z0)), (q_31, .inr (6, [.int 2, .ref u_32])), (u_32, .inl (cI, 82, .inl z0)), (q_35, .inl (cI, 2, .inl z0))] H := hP
  have hD : va_D A [(h, .inr (9, [.ref q_1, .int 0, .int (-1), .ref q_2, .ref q_6, .ref q_14, .ref q_22, .ref q_26, .ref q_31, .null, .int 0, .null, .int 0, .null, .null, .null, .null])), (q_1, .inl (cI, 240, .inl z0)), (q_2, .inr (5, [.int 0, .int (-1), .ref u_3, .int 0, .int 0, .int 0, .int 0])), (u_3, .inl (cI, 0, .inl z0)), (q_6, .inr (8, [.int 0, .int 1, .int 0, .int 0, .int 0, .ref q_9, .ref q_10, .ref q_11, .ref q_12, .ref q_13])), (q_9, .inl (cI, 6, .inl z0)), (q_10, .inl (cI, 6, .inl z0)), (q_11, .inl (cI, 30, .inl z0)), (q_12, .inl (cI, 7, .inl z0)), (q_13, .inl (cI, 7, .inl z0)), (q_14, .inr (8, [.int 0, .int 1, .int 0, .int 0, .int 0, .ref q_17, .ref q_18, .ref q_19, .ref q_20, .ref q_21])), (q_17, .inl (cI, 6, .inl z0)), (q_18, .inl (cI, 6, .inl z0)), (q_19, .inl (cI, 30, .inl z0)), (q_20, .inl (cI, 7, .inl z0)), (q_21, .inl (cI, 7, .inl z0)), (q_22, .inr (7, [.ref u_23])), (u_23, .inl (cI, 41, .inl z0)), (q_26, .inr (2, [.ref q_29, .int 0, .int 0])), (q_29, .inr (6, [.int 20, .ref q_30])), (q_30, .inl (cI, 820, .inl z0)), (q_31, .inr (6, [.int 2, .ref u_32])), (u_32, .inl (cI, 82, .inl z0)), (q_35, .inl (cI, 2, .inl z0))] := hD
  refine W.widen (k := 23) (n := 1332) (Nat.le_of_ble_eq_true rfl) (Nat.le_of_ble_eq_true rfl) ?_
  refine va_putF (D := D) (ci := 9) (v := .ref q_35) (ty := (.array .int)) (C := RX9) (T := TX9) (N := 17) hx hb hts iX9 tyX9 tyX9_ok nmX9 hown hK hP hD hS 0 rfl rfl 9 (Nat.le_of_ble_eq_true rfl) (hts _ wd_106) (fun _ h9 => h9) rfl hin rfl (by decide +kernel) rfl rfl (Nat.le_of_ble_eq_true rfl) dX9_init_94 (fun H locs hP hD hS => ?_)
  have hP : va_P D classes [(h, .inr (9, [.ref q_1, .int 0, .int (-1), .ref q_2, .ref q_6, .ref q_14, .ref q_22, .ref q_26, .ref q_31, .ref q_35, .int 0, .null, .int 0, .null, .null, .null, .null])), (q_1, .inl (cI, 240, .inl z0)), (q_2, .inr (5, [.int 0, .int (-1), .ref u_3, .int 0, .int 0, .int 0, .int 0])), (u_3, .inl (cI, 0, .inl z0)), (q_6, .inr (8, [.int 0, .int 1, .int 0, .int 0, .int 0, .ref q_9, .ref q_10, .ref q_11, .ref q_12, .ref q_13])), (q_9, .inl (cI, 6, .inl z0)), (q_10, .inl (cI, 6, .inl z0)), (q_11, .inl (cI, 30, .inl z0)), (q_12, .inl (cI, 7, .inl z0)), (q_13, .inl (cI, 7, .inl z0)), (q_14, .inr (8, [.int 0, .int 1, .int 0, .int 0, .int 0, .ref q_17, .ref q_18, .ref q_19, .ref q_20, .ref q_21])), (q_17, .inl (cI, 6, .inl z0)), (q_18, .inl (cI, 6, .inl z0)), (q_19, .inl (cI, 30, .inl z0)), (q_20, .inl (cI, 7, .inl z0)), (q_21, .inl (cI, 7, .inl z0)), (q_22, .inr (7, [.ref u_23])), (u_23, .inl (cI, 41, .inl z0)), (q_26, .inr (2, [.ref q_29, .int 0, .int 0])), (q_29, .inr (6, [.int 20, .ref q_30])), (q_30, .inl (cI, 820, .inl z0)), (q_31, .inr (6, [.int 2, .ref u_32])), (u_32, .inl (cI, 82, .inl z0)), (q_35, .inl (cI, 2, .inl z0))] H := hP
  have hD : va_D A [(h, .inr (9, [.ref q_1, .int 0, .int (-1), .ref q_2, .ref q_6, .ref q_14, .ref q_22, .ref q_26, .ref q_31, .ref q_35, .int 0, .null, .int 0, .null, .null, .null, .null])), (q_1, .inl (cI, 240, .inl z0)), (q_2, .inr (5, [.int 0, .int (-1), .ref u_3, .int 0, .int 0, .int 0, .int 0])), (u_3, .inl (cI, 0, .inl z0)), (q_6, .inr (8, [.int 0, .int 1, .int 0, .int 0, .int 0, .ref q_9, .ref q_10, .ref q_11, .ref q_12, .ref q_13])), (q_9, .inl (cI, 6, .inl z0)), (q_10, .inl (cI, 6, .inl z0)), (q_11, .inl (cI, 30, .inl z0)), (q_12, .inl (cI, 7, .inl z0)), (q_13, .inl (cI, 7, .inl z0)), (q_14, .inr (8, [.int 0, .int 1, .int 0, .int 0, .int 0, .ref q_17, .ref q_18, .ref q_19, .ref q_20, .ref q_21])), (q_17, .inl (cI, 6, .inl z0)), (q_18, .inl (cI, 6, .inl z0)), (q_19, .inl (cI, 30, .inl z0)), (q_20, .inl (cI, 7, .inl z0)), (q_21, .inl (cI, 7, .inl z0)), (q_22, .inr (7, [.ref u_23])), (u_23, .inl (cI, 41, .inl z0)), (q_26, .inr (2, [.ref q_29, .int 0, .int 0])), (q_29, .inr (6, [.int 20, .ref q_30])), (q_30, .inl (cI, 820, .inl z0)), (q_31, .inr (6, [.int 2, .ref u_32])), (u_32, .inl (cI, 82, .inl z0)), (q_35, .inl (cI, 2, .inl z0))] := hD
  refine lv_aload_n hx hb dX9_init_97 rfl (lv_at hl 0 rfl) ?_
  refine lv_iconst (v := 0) hx hb dX9_init_98 rfl ?_
  refine va_put (D := D) (ci := 9) (v := .int 0) (ty := .int) (C := RX9) (T := TX9) (N := 17) hx hb hts iX9 tyX9 tyX9_ok nmX9 hown hK hP hD hS 0 rfl rfl 10 (Nat.le_of_ble_eq_true rfl) (hts _ wd_107) (fun _ h9 => h9) rfl (by decide +kernel) rfl rfl (Nat.le_of_ble_eq_true rfl) dX9_init_99 (fun H locs hP hD hS => ?_)
  have hP : va_P D classes [(h, .inr (9, [.ref q_1, .int 0, .int (-1), .ref q_2, .ref q_6, .ref q_14, .ref q_22, .ref q_26, .ref q_31, .ref q_35, .int 0, .null, .int 0, .null, .null, .null, .null])), (q_1, .inl (cI, 240, .inl z0)), (q_2, .inr (5, [.int 0, .int (-1), .ref u_3, .int 0, .int 0, .int 0, .int 0])), (u_3, .inl (cI, 0, .inl z0)), (q_6, .inr (8, [.int 0, .int 1, .int 0, .int 0, .int 0, .ref q_9, .ref q_10, .ref q_11, .ref q_12, .ref q_13])), (q_9, .inl (cI, 6, .inl z0)), (q_10, .inl (cI, 6, .inl z0)), (q_11, .inl (cI, 30, .inl z0)), (q_12, .inl (cI, 7, .inl z0)), (q_13, .inl (cI, 7, .inl z0)), (q_14, .inr (8, [.int 0, .int 1, .int 0, .int 0, .int 0, .ref q_17, .ref q_18, .ref q_19, .ref q_20, .ref q_21])), (q_17, .inl (cI, 6, .inl z0)), (q_18, .inl (cI, 6, .inl z0)), (q_19, .inl (cI, 30, .inl z0)), (q_20, .inl (cI, 7, .inl z0)), (q_21, .inl (cI, 7, .inl z0)), (q_22, .inr (7, [.ref u_23])), (u_23, .inl (cI, 41, .inl z0)), (q_26, .inr (2, [.ref q_29, .int 0, .int 0])), (q_29, .inr (6, [.int 20, .ref q_30])), (q_30, .inl (cI, 820, .inl z0)), (q_31, .inr (6, [.int 2, .ref u_32])), (u_32, .inl (cI, 82, .inl z0)), (q_35, .inl (cI, 2, .inl z0))] H := hP
  have hD : va_D A [(h, .inr (9, [.ref q_1, .int 0, .int (-1), .ref q_2, .ref q_6, .ref q_14, .ref q_22, .ref q_26, .ref q_31, .ref q_35, .int 0, .null, .int 0, .null, .null, .null, .null])), (q_1, .inl (cI, 240, .inl z0)), (q_2, .inr (5, [.int 0, .int (-1), .ref u_3, .int 0, .int 0, .int 0, .int 0])), (u_3, .inl (cI, 0, .inl z0)), (q_6, .inr (8, [.int 0, .int 1, .int 0, .int 0, .int 0, .ref q_9, .ref q_10, .ref q_11, .ref q_12, .ref q_13])), (q_9, .inl (cI, 6, .inl z0)), (q_10, .inl (cI, 6, .inl z0)), (q_11, .inl (cI, 30, .inl z0)), (q_12, .inl (cI, 7, .inl z0)), (q_13, .inl (cI, 7, .inl z0)), (q_14, .inr (8, [.int 0, .int 1, .int 0, .int 0, .int 0, .ref q_17, .ref q_18, .ref q_19, .ref q_20, .ref q_21])), (q_17, .inl (cI, 6, .inl z0)), (q_18, .inl (cI, 6, .inl z0)), (q_19, .inl (cI, 30, .inl z0)), (q_20, .inl (cI, 7, .inl z0)), (q_21, .inl (cI, 7, .inl z0)), (q_22, .inr (7, [.ref u_23])), (u_23, .inl (cI, 41, .inl z0)), (q_26, .inr (2, [.ref q_29, .int 0, .int 0])), (q_29, .inr (6, [.int 20, .ref q_30])), (q_30, .inl (cI, 820, .inl z0)), (q_31, .inr (6, [.int 2, .ref u_32])), (u_32, .inl (cI, 82, .inl z0)), (q_35, .inl (cI, 2, .inl z0))] := hD
  refine lv_aload_n hx hb dX9_init_102 rfl (lv_at hl 0 rfl) ?_
  refine va_new (ci := 0) (fs := [.int 0, .null, .null]) (C := RX0) (T := TX0) (N := 3) hx hb hts iX0 tyX0 tyX0_ok hown (hts _ wd_108) (hts _ wd_109) (hts _ wd_110) hK hP hD hS hA rfl (by decide +kernel) (Nat.le_of_ble_eq_true rfl) (Nat.le_of_ble_eq_true rfl) dX9_init_103 (fun q_36 H hP hD hS => ?_)
  have hP : va_P D classes [(h, .inr (9, [.ref q_1, .int 0, .int (-1), .ref q_2, .ref q_6, .ref q_14, .ref q_22, .ref q_26, .ref q_31, .ref q_35, .int 0, .null, .int 0, .null, .null, .null, .null])), (q_1, .inl (cI, 240, .inl z0)), (q_2, .inr (5, [.int 0, .int (-1), .ref u_3, .int 0, .int 0, .int 0, .int 0])), (u_3, .inl (cI, 0, .inl z0)), (q_6, .inr (8, [.int 0, .int 1, .int 0, .int 0, .int 0, .ref q_9, .ref q_10, .ref q_11, .ref q_12, .ref q_13])), (q_9, .inl (cI, 6, .inl z0)), (q_10, .inl (cI, 6, .inl z0)), (q_11, .inl (cI, 30, .inl z0)), (q_12, .inl (cI, 7, .inl z0)), (q_13, .inl (cI, 7, .inl z0)), (q_14, .inr (8, [.int 0, .int 1, .int 0, .int 0, .int 0, .ref q_17, .ref q_18, .ref q_19, .ref q_20, .ref q_21])), (q_17, .inl (cI, 6, .inl z0)), (q_18, .inl (cI, 6, .inl z0)), (q_19, .inl (cI, 30, .inl z0)), (q_20, .inl (cI, 7, .inl z0)), (q_21, .inl (cI, 7, .inl z0)), (q_22, .inr (7, [.ref u_23])), (u_23, .inl (cI, 41, .inl z0)), (q_26, .inr (2, [.ref q_29, .int 0, .int 0])), (q_29, .inr (6, [.int 20, .ref q_30])), (q_30, .inl (cI, 820, .inl z0)), (q_31, .inr (6, [.int 2, .ref u_32])), (u_32, .inl (cI, 82, .inl z0)), (q_35, .inl (cI, 2, .inl z0)), (q_36, .inr (0, [.int 0, .null, .null]))] H := hP
  have hD : va_D A [(h, .inr (9, [.ref q_1, .int 0, .int (-1), .ref q_2, .ref q_6, .ref q_14, .ref q_22, .ref q_26, .ref q_31, .ref q_35, .int 0, .null, .int 0, .null, .null, .null, .null])), (q_1, .inl (cI, 240, .inl z0)), (q_2, .inr (5, [.int 0, .int (-1), .ref u_3, .int 0, .int 0, .int 0, .int 0])), (u_3, .inl (cI, 0, .inl z0)), (q_6, .inr (8, [.int 0, .int 1, .int 0, .int 0, .int 0, .ref q_9, .ref q_10, .ref q_11, .ref q_12, .ref q_13])), (q_9, .inl (cI, 6, .inl z0)), (q_10, .inl (cI, 6, .inl z0)), (q_11, .inl (cI, 30, .inl z0)), (q_12, .inl (cI, 7, .inl z0)), (q_13, .inl (cI, 7, .inl z0)), (q_14, .inr (8, [.int 0, .int 1, .int 0, .int 0, .int 0, .ref q_17, .ref q_18, .ref q_19, .ref q_20, .ref q_21])), (q_17, .inl (cI, 6, .inl z0)), (q_18, .inl (cI, 6, .inl z0)), (q_19, .inl (cI, 30, .inl z0)), (q_20, .inl (cI, 7, .inl z0)), (q_21, .inl (cI, 7, .inl z0)), (q_22, .inr (7, [.ref u_23])), (u_23, .inl (cI, 41, .inl z0)), (q_26, .inr (2, [.ref q_29, .int 0, .int 0])), (q_29, .inr (6, [.int 20, .ref q_30])), (q_30, .inl (cI, 820, .inl z0)), (q_31, .inr (6, [.int 2, .ref u_32])), (u_32, .inl (cI, 82, .inl z0)), (q_35, .inl (cI, 2, .inl z0)), (q_36, .inr (0, [.int 0, .null, .null]))] := hD
  refine W.widen (k := 24) (n := 1335) (Nat.le_of_ble_eq_true rfl) (Nat.le_of_ble_eq_true rfl) ?_
  refine lv_dup hx hb dX9_init_106 rfl ?_
  refine cMv (wr := [(h, .inr (9, [.ref q_1, .int 0, .int (-1), .ref q_2, .ref q_6, .ref q_14, .ref q_22, .ref q_26, .ref q_31, .ref q_35, .int 0, .null, .int 0, .null, .null, .null, .null])), (q_1, .inl (cI, 240, .inl z0)), (q_2, .inr (5, [.int 0, .int (-1), .ref u_3, .int 0, .int 0, .int 0, .int 0])), (u_3, .inl (cI, 0, .inl z0)), (q_6, .inr (8, [.int 0, .int 1, .int 0, .int 0, .int 0, .ref q_9, .ref q_10, .ref q_11, .ref q_12, .ref q_13])), (q_9, .inl (cI, 6, .inl z0)), (q_10, .inl (cI, 6, .inl z0)), (q_11, .inl (cI, 30, .inl z0)), (q_12, .inl (cI, 7, .inl z0)), (q_13, .inl (cI, 7, .inl z0)), (q_14, .inr (8, [.int 0, .int 1, .int 0, .int 0, .int 0, .ref q_17, .ref q_18, .ref q_19, .ref q_20, .ref q_21])), (q_17, .inl (cI, 6, .inl z0)), (q_18, .inl (cI, 6, .inl z0)), (q_19, .inl (cI, 30, .inl z0)), (q_20, .inl (cI, 7, .inl z0)), (q_21, .inl (cI, 7, .inl z0)), (q_22, .inr (7, [.ref u_23])), (u_23, .inl (cI, 41, .inl z0)), (q_26, .inr (2, [.ref q_29, .int 0, .int 0])), (q_29, .inr (6, [.int 20, .ref q_30])), (q_30, .inl (cI, 820, .inl z0)), (q_31, .inr (6, [.int 2, .ref u_32])), (u_32, .inl (cI, 82, .inl z0)), (q_35, .inl (cI, 2, .inl z0))]) (rest := [.ref q_36, .ref h]) (k_book_init q_36) okI_X0_init 4 rfl hx hb hml hown hts hK hP hD hS hA hN hl.1 [24] [0, 1, 2, 3, 4, 5, 6, 7, 8, 9, 10, 11, 12, 13, 14, 15, 16, 17, 18, 19, 20, 21, 22, 23] rfl rfl rfl rfl (of_decide_eq_true rfl) rfl (Nat.le_of_ble_eq_true rfl) (Nat.le_of_ble_eq_true rfl) (Nat.le_of_ble_eq_true rfl) (Nat.le_of_ble_eq_true rfl) (Nat.le_of_ble_eq_true rfl) dX9_init_107 (fun u_37 H locs hw_u_37 hP hD hS => ?_)
  obtain ⟨q_39, q_40⟩ := u_37
  refine W.widen (k := 26) (n := 1365) (Nat.le_of_ble_eq_true rfl) (Nat.le_of_ble_eq_true rfl) ?_
  have hP : va_P D classes [(h, .inr (9, [.ref q_1, .int 0, .int (-1), .ref q_2, .ref q_6, .ref q_14, .ref q_22, .ref q_26, .ref q_31, .ref q_35, .int 0, .null, .int 0, .null, .null, .null, .null])), (q_1, .inl (cI, 240, .inl z0)), (q_2, .inr (5, [.int 0, .int (-1), .ref u_3, .int 0, .int 0, .int 0, .int 0])), (u_3, .inl (cI, 0, .inl z0)), (q_6, .inr (8, [.int 0, .int 1, .int 0, .int 0, .int 0, .ref q_9, .ref q_10, .ref q_11, .ref q_12, .ref q_13])), (q_9, .inl (cI, 6, .inl z0)), (q_10, .inl (cI, 6, .inl z0)), (q_11, .inl (cI, 30, .inl z0)), (q_12, .inl (cI, 7, .inl z0)), (q_13, .inl (cI, 7, .inl z0)), (q_14, .inr (8, [.int 0, .int 1, .int 0, .int 0, .int 0, .ref q_17, .ref q_18, .ref q_19, .ref q_20, .ref q_21])), (q_17, .inl (cI, 6, .inl z0)), (q_18, .inl (cI, 6, .inl z0)), (q_19, .inl (cI, 30, .inl z0)), (q_20, .inl (cI, 7, .inl z0)), (q_21, .inl (cI, 7, .inl z0)), (q_22, .inr (7, [.ref u_23])), (u_23, .inl (cI, 41, .inl z0)), (q_26, .inr (2, [.ref q_29, .int 0, .int 0])), (q_29, .inr (6, [.int 20, .ref q_30])), (q_30, .inl (cI, 820, .inl z0)), (q_31, .inr (6, [.int 2, .ref u_32])), (u_32, .inl (cI, 82, .inl z0)), (q_35, .inl (cI, 2, .inl z0)), (q_36, .inr (0, [.int 0, .ref q_39, .ref q_40])), (q_39, .inl (cI, 15, .inl z0)), (q_40, .inl (cI, 15, .inl z0))] H := hP
  have hD : va_D A [(h, .inr (9, [.ref q_1, .int 0, .int (-1), .ref q_2, .ref q_6, .ref q_14, .ref q_22, .ref q_26, .ref q_31, .ref q_35, .int 0, .null, .int 0, .null, .null, .null, .null])), (q_1, .inl (cI, 240, .inl z0)), (q_2, .inr (5, [.int 0, .int (-1), .ref u_3, .int 0, .int 0, .int 0, .int 0])), (u_3, .inl (cI, 0, .inl z0)), (q_6, .inr (8, [.int 0, .int 1, .int 0, .int 0, .int 0, .ref q_9, .ref q_10, .ref q_11, .ref q_12, .ref q_13])), (q_9, .inl (cI, 6, .inl z0)), (q_10, .inl (cI, 6, .inl z0)), (q_11, .inl (cI, 30, .inl z0)), (q_12, .inl (cI, 7, .inl z0)), (q_13, .inl (cI, 7, .inl z0)), (q_14, .inr (8, [.int 0, .int 1, .int 0, .int 0, .int 0, .ref q_17, .ref q_18, .ref q_19, .ref q_20, .ref q_21])), (q_17, .inl (cI, 6, .inl z0)), (q_18, .inl (cI, 6, .inl z0)), (q_19, .inl (cI, 30, .inl z0)), (q_20, .inl (cI, 7, .inl z0)), (q_21, .inl (cI, 7, .inl z0)), (q_22, .inr (7, [.ref u_23])), (u_23, .inl (cI, 41, .inl z0)), (q_26, .inr (2, [.ref q_29, .int 0, .int 0])), (q_29, .inr (6, [.int 20, .ref q_30])), (q_30, .inl (cI, 820, .inl z0)), (q_31, .inr (6, [.int 2, .ref u_32])), (u_32, .inl (cI, 82, .inl z0)), (q_35, .inl (cI, 2, .inl z0)), (q_36, .inr (0, [.int 0, .ref q_39, .ref q_40])), (q_39, .inl (cI, 15, .inl z0)), (q_40, .inl (cI, 15, .inl z0))] := hD
  refine va_putF (D := D) (ci := 9) (v := .ref q_36) (ty := (.object "QuarrelBridges$Book")) (C := RX9) (T := TX9) (N := 17) hx hb hts iX9 tyX9 tyX9_ok nmX9 hown hK hP hD hS 0 rfl rfl 11 (Nat.le_of_ble_eq_true rfl) (hts _ wd_113) (fun _ h9 => h9) rfl hin rfl (by decide +kernel) rfl rfl (Nat.le_of_ble_eq_true rfl) dX9_init_110 (fun H locs hP hD hS => ?_)
  have hP : va_P D classes [(h, .inr (9, [.ref q_1, .int 0, .int (-1), .ref q_2, .ref q_6, .ref q_14, .ref q_22, .ref q_26, .ref q_31, .ref q_35, .int 0, .ref q_36, .int 0, .null, .null, .null, .null])), (q_1, .inl (cI, 240, .inl z0)), (q_2, .inr (5, [.int 0, .int (-1), .ref u_3, .int 0, .int 0, .int 0, .int 0])), (u_3, .inl (cI, 0, .inl z0)), (q_6, .inr (8, [.int 0, .int 1, .int 0, .int 0, .int 0, .ref q_9, .ref q_10, .ref q_11, .ref q_12, .ref q_13])), (q_9, .inl (cI, 6, .inl z0)), (q_10, .inl (cI, 6, .inl z0)), (q_11, .inl (cI, 30, .inl z0)), (q_12, .inl (cI, 7, .inl z0)), (q_13, .inl (cI, 7, .inl z0)), (q_14, .inr (8, [.int 0, .int 1, .int 0, .int 0, .int 0, .ref q_17, .ref q_18, .ref q_19, .ref q_20, .ref q_21])), (q_17, .inl (cI, 6, .inl z0)), (q_18, .inl (cI, 6, .inl z0)), (q_19, .inl (cI, 30, .inl z0)), (q_20, .inl (cI, 7, .inl z0)), (q_21, .inl (cI, 7, .inl z0)), (q_22, .inr (7, [.ref u_23])), (u_23, .inl (cI, 41, .inl z0)), (q_26, .inr (2, [.ref q_29, .int 0, .int 0])), (q_29, .inr (6, [.int 20, .ref q_30])), (q_30, .inl (cI, 820, .inl z0)), (q_31, .inr (6, [.int 2, .ref u_32])), (u_32, .inl (cI, 82, .inl z0)), (q_35, .inl (cI, 2, .inl z0)), (q_36, .inr (0, [.int 0, .ref q_39, .ref q_40])), (q_39, .inl (cI, 15, .inl z0)), (q_40, .inl (cI, 15, .inl z0))] H := hP
  have hD : va_D A [(h, .inr (9, [.ref q_1, .int 0, .int (-1), .ref q_2, .ref q_6, .ref q_14, .ref q_22, .ref q_26, .ref q_31, .ref q_35, .int 0, .ref q_36, .int 0, .null, .null, .null, .null])), (q_1, .inl (cI, 240, .inl z0)), (q_2, .inr (5, [.int 0, .int (-1), .ref u_3, .int 0, .int 0, .int 0, .int 0])), (u_3, .inl (cI, 0, .inl z0)), (q_6, .inr (8, [.int 0, .int 1, .int 0, .int 0, .int 0, .ref q_9, .ref q_10, .ref q_11, .ref q_12, .ref q_13])), (q_9, .inl (cI, 6, .inl z0)), (q_10, .inl (cI, 6, .inl z0)), (q_11, .inl (cI, 30, .inl z0)), (q_12, .inl (cI, 7, .inl z0)), (q_13, .inl (cI, 7, .inl z0)), (q_14, .inr (8, [.int 0, .int 1, .int 0, .int 0, .int 0, .ref q_17, .ref q_18, .ref q_19, .ref q_20, .ref q_21])), (q_17, .inl (cI, 6, .inl z0)), (q_18, .inl (cI, 6, .inl z0)), (q_19, .inl (cI, 30, .inl z0)), (q_20, .inl (cI, 7, .inl z0)), (q_21, .inl (cI, 7, .inl z0)), (q_22, .inr (7, [.ref u_23])), (u_23, .inl (cI, 41, .inl z0)), (q_26, .inr (2, [.ref q_29, .int 0, .int 0])), (q_29, .inr (6, [.int 20, .ref q_30])), (q_30, .inl (cI, 820, .inl z0)), (q_31, .inr (6, [.int 2, .ref u_32])), (u_32, .inl (cI, 82, .inl z0)), (q_35, .inl (cI, 2, .inl z0)), (q_36, .inr (0, [.int 0, .ref q_39, .ref q_40])), (q_39, .inl (cI, 15, .inl z0)), (q_40, .inl (cI, 15, .inl z0))] := hD
  refine lv_aload_n hx hb dX9_init_113 rfl (lv_at hl 0 rfl) ?_
  refine lv_iconst (v := 0) hx hb dX9_init_114 rfl ?_
  refine va_put (D := D) (ci := 9) (v := .int 0) (ty := .int) (C := RX9) (T := TX9) (N := 17) hx hb hts iX9 tyX9 tyX9_ok nmX9 hown hK hP hD hS 0 rfl rfl 12 (Nat.le_of_ble_eq_true rfl) (hts _ wd_114) (fun _ h9 => h9) rfl (by decide +kernel) rfl rfl (Nat.le_of_ble_eq_true rfl) dX9_init_115 (fun H locs hP hD hS => ?_)
  have hP : va_P D classes [(h, .inr (9, [.ref q_1, .int 0, .int (-1), .ref q_2, .ref q_6, .ref q_14, .ref q_22, .ref q_26, .ref q_31, .ref q_35, .int 0, .ref q_36, .int 0, .null, .null, .null, .null])), (q_1, .inl (cI, 240, .inl z0)), (q_2, .inr (5, [.int 0, .int (-1), .ref u_3, .int 0, .int 0, .int 0, .int 0])), (u_3, .inl (cI, 0, .inl z0)), (q_6, .inr (8, [.int 0, .int 1, .int 0, .int 0, .int 0, .ref q_9, .ref q_10, .ref q_11, .ref q_12, .ref q_13])), (q_9, .inl (cI, 6, .inl z0)), (q_10, .inl (cI, 6, .inl z0)), (q_11, .inl (cI, 30, .inl z0)), (q_12, .inl (cI, 7, .inl z0)), (q_13, .inl (cI, 7, .inl z0)), (q_14, .inr (8, [.int 0, .int 1, .int 0, .int 0, .int 0, .ref q_17, .ref q_18, .ref q_19, .ref q_20, .ref q_21])), (q_17, .inl (cI, 6, .inl z0)), (q_18, .inl (cI, 6, .inl z0)), (q_19, .inl (cI, 30, .inl z0)), (q_20, .inl (cI, 7, .inl z0)), (q_21, .inl (cI, 7, .inl z0)), (q_22, .inr (7, [.ref u_23])), (u_23, .inl (cI, 41, .inl z0)), (q_26, .inr (2, [.ref q_29, .int 0, .int 0])), (q_29, .inr (6, [.int 20, .ref q_30])), (q_30, .inl (cI, 820, .inl z0)), (q_31, .inr (6, [.int 2, .ref u_32])), (u_32, .inl (cI, 82, .inl z0)), (q_35, .inl (cI, 2, .inl z0)), (q_36, .inr (0, [.int 0, .ref q_39, .ref q_40])), (q_39, .inl (cI, 15, .inl z0)), (q_40, .inl (cI, 15, .inl z0))] H := hP
  have hD : va_D A [(h, .inr (9, [.ref q_1, .int 0, .int (-1), .ref q_2, .ref q_6, .ref q_14, .ref q_22, .ref q_26, .ref q_31, .ref q_35, .int 0, .ref q_36, .int 0, .null, .null, .null, .null])), (q_1, .inl (cI, 240, .inl z0)), (q_2, .inr (5, [.int 0, .int (-1), .ref u_3, .int 0, .int 0, .int 0, .int 0])), (u_3, .inl (cI, 0, .inl z0)), (q_6, .inr (8, [.int 0, .int 1, .int 0, .int 0, .int 0, .ref q_9, .ref q_10, .ref q_11, .ref q_12, .ref q_13])), (q_9, .inl (cI, 6, .inl z0)), (q_10, .inl (cI, 6, .inl z0)), (q_11, .inl (cI, 30, .inl z0)), (q_12, .inl (cI, 7, .inl z0)), (q_13, .inl (cI, 7, .inl z0)), (q_14, .inr (8, [.int 0, .int 1, .int 0, .int 0, .int 0, .ref q_17, .ref q_18, .ref q_19, .ref q_20, .ref q_21])), (q_17, .inl (cI, 6, .inl z0)), (q_18, .inl (cI, 6, .inl z0)), (q_19, .inl (cI, 30, .inl z0)), (q_20, .inl (cI, 7, .inl z0)), (q_21, .inl (cI, 7, .inl z0)), (q_22, .inr (7, [.ref u_23])), (u_23, .inl (cI, 41, .inl z0)), (q_26, .inr (2, [.ref q_29, .int 0, .int 0])), (q_29, .inr (6, [.int 20, .ref q_30])), (q_30, .inl (cI, 820, .inl z0)), (q_31, .inr (6, [.int 2, .ref u_32])), (u_32, .inl (cI, 82, .inl z0)), (q_35, .inl (cI, 2, .inl z0)), (q_36, .inr (0, [.int 0, .ref q_39, .ref q_40])), (q_39, .inl (cI, 15, .inl z0)), (q_40, .inl (cI, 15, .inl z0))] := hD
  refine lv_aload_n hx hb dX9_init_118 rfl (lv_at hl 0 rfl) ?_
  refine va_new (ci := 4) (fs := [.int 0, .int 0, .int 0, .int 0, .int 0]) (C := RX4) (T := TX4) (N := 5) hx hb hts iX4 tyX4 tyX4_ok hown (hts _ wd_115) (hts _ wd_116) (hts _ wd_117) hK hP hD hS hA rfl (by decide +kernel) (Nat.le_of_ble_eq_true rfl) (Nat.le_of_ble_eq_true rfl) dX9_init_119 (fun q_41 H hP hD hS => ?_)
  have hP : va_P D classes [(h, .inr (9, [.ref q_1, .int 0, .int (-1), .ref q_2, .ref q_6, .ref q_14, .ref q_22, .ref q_26, .ref q_31, .ref q_35, .int 0, .ref q_36, .int 0, .null, .null, .null, .null])), (q_1, .inl (cI, 240, .inl z0)), (q_2, .inr (5, [.int 0, .int (-1), .ref u_3, .int 0, .int 0, .int 0, .int 0])), (u_3, .inl (cI, 0, .inl z0)), (q_6, .inr (8, [.int 0, .int 1, .int 0, .int 0, .int 0, .ref q_9, .ref q_10, .ref q_11, .ref q_12, .ref q_13])), (q_9, .inl (cI, 6, .inl z0)), (q_10, .inl (cI, 6, .inl z0)), (q_11, .inl (cI, 30, .inl z0)), (q_12, .inl (cI, 7, .inl z0)), (q_13, .inl (cI, 7, .inl z0)), (q_14, .inr (8, [.int 0, .int 1, .int 0, .int 0, .int 0, .ref q_17, .ref q_18, .ref q_19, .ref q_20, .ref q_21])), (q_17, .inl (cI, 6, .inl z0)), (q_18, .inl (cI, 6, .inl z0)), (q_19, .inl (cI, 30, .inl z0)), (q_20, .inl (cI, 7, .inl z0)), (q_21, .inl (cI, 7, .inl z0)), (q_22, .inr (7, [.ref u_23])), (u_23, .inl (cI, 41, .inl z0)), (q_26, .inr (2, [.ref q_29, .int 0, .int 0])), (q_29, .inr (6, [.int 20, .ref q_30])), (q_30, .inl (cI, 820, .inl z0)), (q_31, .inr (6, [.int 2, .ref u_32])), (u_32, .inl (cI, 82, .inl z0)), (q_35, .inl (cI, 2, .inl z0)), (q_36, .inr (0, [.int 0, .ref q_39, .ref q_40])), (q_39, .inl (cI, 15, .inl z0)), (q_40, .inl (cI, 15, .inl z0)), (q_41, .inr (4, [.int 0, .int 0, .int 0, .int 0, .int 0]))] H := hP
  have hD : va_D A [(h, .inr (9, [.ref q_1, .int 0, .int (-1), .ref q_2, .ref q_6, .ref q_14, .ref q_22, .ref q_26, .ref q_31, .ref q_35, .int 0, .ref q_36, .int 0, .null, .null, .null, .null])), (q_1, .inl (cI, 240, .inl z0)), (q_2, .inr (5, [.int 0, .int (-1), .ref u_3, .int 0, .int 0, .int 0, .int 0])), (u_3, .inl (cI, 0, .inl z0)), (q_6, .inr (8, [.int 0, .int 1, .int 0, .int 0, .int 0, .ref q_9, .ref q_10, .ref q_11, .ref q_12, .ref q_13])), (q_9, .inl (cI, 6, .inl z0)), (q_10, .inl (cI, 6, .inl z0)), (q_11, .inl (cI, 30, .inl z0)), (q_12, .inl (cI, 7, .inl z0)), (q_13, .inl (cI, 7, .inl z0)), (q_14, .inr (8, [.int 0, .int 1, .int 0, .int 0, .int 0, .ref q_17, .ref q_18, .ref q_19, .ref q_20, .ref q_21])), (q_17, .inl (cI, 6, .inl z0)), (q_18, .inl (cI, 6, .inl z0)), (q_19, .inl (cI, 30, .inl z0)), (q_20, .inl (cI, 7, .inl z0)), (q_21, .inl (cI, 7, .inl z0)), (q_22, .inr (7, [.ref u_23])), (u_23, .inl (cI, 41, .inl z0)), (q_26, .inr (2, [.ref q_29, .int 0, .int 0])), (q_29, .inr (6, [.int 20, .ref q_30])), (q_30, .inl (cI, 820, .inl z0)), (q_31, .inr (6, [.int 2, .ref u_32])), (u_32, .inl (cI, 82, .inl z0)), (q_35, .inl (cI, 2, .inl z0)), (q_36, .inr (0, [.int 0, .ref q_39, .ref q_40])), (q_39, .inl (cI, 15, .inl z0)), (q_40, .inl (cI, 15, .inl z0)), (q_41, .inr (4, [.int 0, .int 0, .int 0, .int 0, .int 0]))] := hD
  refine W.widen (k := 27) (n := 1370) (Nat.le_of_ble_eq_true rfl) (Nat.le_of_ble_eq_true rfl) ?_
  refine lv_dup hx hb dX9_init_122 rfl ?_
  refine cMv (wr := [(h, .inr (9, [.ref q_1, .int 0, .int (-1), .ref q_2, .ref q_6, .ref q_14, .ref q_22, .ref q_26, .ref q_31, .ref q_35, .int 0, .ref q_36, .int 0, .null, .null, .null, .null])), (q_1, .inl (cI, 240, .inl z0)), (q_2, .inr (5, [.int 0, .int (-1), .ref u_3, .int 0, .int 0, .int 0, .int 0])), (u_3, .inl (cI, 0, .inl z0)), (q_6, .inr (8, [.int 0, .int 1, .int 0, .int 0, .int 0, .ref q_9, .ref q_10, .ref q_11, .ref q_12, .ref q_13])), (q_9, .inl (cI, 6, .inl z0)), (q_10, .inl (cI, 6, .inl z0)), (q_11, .inl (cI, 30, .inl z0)), (q_12, .inl (cI, 7, .inl z0)), (q_13, .inl (cI, 7, .inl z0)), (q_14, .inr (8, [.int 0, .int 1, .int 0, .int 0, .int 0, .ref q_17, .ref q_18, .ref q_19, .ref q_20, .ref q_21])), (q_17, .inl (cI, 6, .inl z0)), (q_18, .inl (cI, 6, .inl z0)), (q_19, .inl (cI, 30, .inl z0)), (q_20, .inl (cI, 7, .inl z0)), (q_21, .inl (cI, 7, .inl z0)), (q_22, .inr (7, [.ref u_23])), (u_23, .inl (cI, 41, .inl z0)), (q_26, .inr (2, [.ref q_29, .int 0, .int 0])), (q_29, .inr (6, [.int 20, .ref q_30])), (q_30, .inl (cI, 820, .inl z0)), (q_31, .inr (6, [.int 2, .ref u_32])), (u_32, .inl (cI, 82, .inl z0)), (q_35, .inl (cI, 2, .inl z0)), (q_36, .inr (0, [.int 0, .ref q_39, .ref q_40])), (q_39, .inl (cI, 15, .inl z0)), (q_40, .inl (cI, 15, .inl z0))]) (rest := [.ref q_41, .ref h]) (k_quarrel_init q_41) okI_X4_init 5 rfl hx hb hml hown hts hK hP hD hS hA hN hl.1 [27] [0, 1, 2, 3, 4, 5, 6, 7, 8, 9, 10, 11, 12, 13, 14, 15, 16, 17, 18, 19, 20, 21, 22, 23, 24, 25, 26] rfl rfl rfl rfl (of_decide_eq_true rfl) rfl (Nat.le_of_ble_eq_true rfl) (Nat.le_of_ble_eq_true rfl) (Nat.le_of_ble_eq_true rfl) (Nat.le_of_ble_eq_true rfl) (Nat.le_of_ble_eq_true rfl) dX9_init_123 (fun u_42 H locs hw_u_42 hP hD hS => ?_)
  have hP : va_P D classes [(h, .inr (9, [.ref q_1, .int 0, .int (-1), .ref q_2, .ref q_6, .ref q_14, .ref q_22, .ref q_26, .ref q_31, .ref q_35, .int 0, .ref q_36, .int 0, .null, .null, .null, .null])), (q_1, .inl (cI, 240, .inl z0)), (q_2, .inr (5, [.int 0, .int (-1), .ref u_3, .int 0, .int 0, .int 0, .int 0])), (u_3, .inl (cI, 0, .inl z0)), (q_6, .inr (8, [.int 0, .int 1, .int 0, .int 0, .int 0, .ref q_9, .ref q_10, .ref q_11, .ref q_12, .ref q_13])), (q_9, .inl (cI, 6, .inl z0)), (q_10, .inl (cI, 6, .inl z0)), (q_11, .inl (cI, 30, .inl z0)), (q_12, .inl (cI, 7, .inl z0)), (q_13, .inl (cI, 7, .inl z0)), (q_14, .inr (8, [.int 0, .int 1, .int 0, .int 0, .int 0, .ref q_17, .ref q_18, .ref q_19, .ref q_20, .ref q_21])), (q_17, .inl (cI, 6, .inl z0)), (q_18, .inl (cI, 6, .inl z0)), (q_19, .inl (cI, 30, .inl z0)), (q_20, .inl (cI, 7, .inl z0)), (q_21, .inl (cI, 7, .inl z0)), (q_22, .inr (7, [.ref u_23])), (u_23, .inl (cI, 41, .inl z0)), (q_26, .inr (2, [.ref q_29, .int 0, .int 0])), (q_29, .inr (6, [.int 20, .ref q_30])), (q_30, .inl (cI, 820, .inl z0)), (q_31, .inr (6, [.int 2, .ref u_32])), (u_32, .inl (cI, 82, .inl z0)), (q_35, .inl (cI, 2, .inl z0)), (q_36, .inr (0, [.int 0, .ref q_39, .ref q_40])), (q_39, .inl (cI, 15, .inl z0)), (q_40, .inl (cI, 15, .inl z0)), (q_41, .inr (4, [.int 0, .int 0, .int 0, .int 0, .int 0]))] H := hP
  have hD : va_D A [(h, .inr (9, [.ref q_1, .int 0, .int (-1), .ref q_2, .ref q_6, .ref q_14, .ref q_22, .ref q_26, .ref q_31, .ref q_35, .int 0, .ref q_36, .int 0, .null, .null, .null, .null])), (q_1, .inl (cI, 240, .inl z0)), (q_2, .inr (5, [.int 0, .int (-1), .ref u_3, .int 0, .int 0, .int 0, .int 0])), (u_3, .inl (cI, 0, .inl z0)), (q_6, .inr (8, [.int 0, .int 1, .int 0, .int 0, .int 0, .ref q_9, .ref q_10, .ref q_11, .ref q_12, .ref q_13])), (q_9, .inl (cI, 6, .inl z0)), (q_10, .inl (cI, 6, .inl z0)), (q_11, .inl (cI, 30, .inl z0)), (q_12, .inl (cI, 7, .inl z0)), (q_13, .inl (cI, 7, .inl z0)), (q_14, .inr (8, [.int 0, .int 1, .int 0, .int 0, .int 0, .ref q_17, .ref q_18, .ref q_19, .ref q_20, .ref q_21])), (q_17, .inl (cI, 6, .inl z0)), (q_18, .inl (cI, 6, .inl z0)), (q_19, .inl (cI, 30, .inl z0)), (q_20, .inl (cI, 7, .inl z0)), (q_21, .inl (cI, 7, .inl z0)), (q_22, .inr (7, [.ref u_23])), (u_23, .inl (cI, 41, .inl z0)), (q_26, .inr (2, [.ref q_29, .int 0, .int 0])), (q_29, .inr (6, [.int 20, .ref q_30])), (q_30, .inl (cI, 820, .inl z0)), (q_31, .inr (6, [.int 2, .ref u_32])), (u_32, .inl (cI, 82, .inl z0)), (q_35, .inl (cI, 2, .inl z0)), (q_36, .inr (0, [.int 0, .ref q_39, .ref q_40])), (q_39, .inl (cI, 15, .inl z0)), (q_40, .inl (cI, 15, .inl z0)), (q_41, .inr (4, [.int 0, .int 0, .int 0, .int 0, .int 0]))] := hD
  refine va_putF (D := D) (ci := 9) (v := .ref q_41) (ty := (.object "QuarrelBridges$Quarrel")) (C := RX9) (T := TX9) (N := 17) hx hb hts iX9 tyX9 tyX9_ok nmX9 hown hK hP hD hS 0 rfl rfl 13 (Nat.le_of_ble_eq_true rfl) (hts _ wd_120) (fun _ h9 => h9) rfl hin rfl (by decide +kernel) rfl rfl (Nat.le_of_ble_eq_true rfl) dX9_init_126 (fun H locs hP hD hS => ?_)
  have hP : va_P D classes [(h, .inr (9, [.ref q_1, .int 0, .int (-1), .ref q_2, .ref q_6, .ref q_14, .ref q_22, .ref q_26, .ref q_31, .ref q_35, .int 0, .ref q_36, .int 0, .ref q_41, .null, .null, .null])), (q_1, .inl (cI, 240, .inl z0)), (q_2, .inr (5, [.int 0, .int (-1), .ref u_3, .int 0, .int 0, .int 0, .int 0])), (u_3, .inl (cI, 0, .inl z0)), (q_6, .inr (8, [.int 0, .int 1, .int 0, .int 0, .int 0, .ref q_9, .ref q_10, .ref q_11, .ref q_12, .ref q_13])), (q_9, .inl (cI, 6, .inl z0)), (q_10, .inl (cI, 6, .inl z0)), (q_11, .inl (cI, 30, .inl z0)), (q_12, .inl (cI, 7, .inl z0)), (q_13, .inl (cI, 7, .inl z0)), (q_14, .inr (8, [.int 0, .int 1, .int 0, .int 0, .int 0, .ref q_17, .ref q_18, .ref q_19, .ref q_20, .ref q_21])), (q_17, .inl (cI, 6, .inl z0)), (q_18, .inl (cI, 6, .inl z0)), (q_19, .inl (cI, 30, .inl z0)), (q_20, .inl (cI, 7, .inl z0)), (q_21, .inl (cI, 7, .inl z0)), (q_22, .inr (7, [.ref u_23])), (u_23, .inl (cI, 41, .inl z0)), (q_26, .inr (2, [.ref q_29, .int 0, .int 0])), (q_29, .inr (6, [.int 20, .ref q_30])), (q_30, .inl (cI, 820, .inl z0)), (q_31, .inr (6, [.int 2, .ref u_32])), (u_32, .inl (cI, 82, .inl z0)), (q_35, .inl (cI, 2, .inl z0)), (q_36, .inr (0, [.int 0, .ref q_39, .ref q_40])), (q_39, .inl (cI, 15, .inl z0)), (q_40, .inl (cI, 15, .inl z0)), (q_41, .inr (4, [.int 0, .int 0, .int 0, .int 0, .int 0]))] H := hP
  have hD : va_D A [(h, .inr (9, [.ref q_1, .int 0, .int (-1), .ref q_2, .ref q_6, .ref q_14, .ref q_22, .ref q_26, .ref q_31, .ref q_35, .int 0, .ref q_36, .int 0, .ref q_41, .null, .null, .null])), (q_1, .inl (cI, 240, .inl z0)), (q_2, .inr (5, [.int 0, .int (-1), .ref u_3, .int 0, .int 0, .int 0, .int 0])), (u_3, .inl (cI, 0, .inl z0)), (q_6, .inr (8, [.int 0, .int 1, .int 0, .int 0, .int 0, .ref q_9, .ref q_10, .ref q_11, .ref q_12, .ref q_13])), (q_9, .inl (cI, 6, .inl z0)), (q_10, .inl (cI, 6, .inl z0)), (q_11, .inl (cI, 30, .inl z0)), (q_12, .inl (cI, 7, .inl z0)), (q_13, .inl (cI, 7, .inl z0)), (q_14, .inr (8, [.int 0, .int 1, .int 0, .int 0, .int 0, .ref q_17, .ref q_18, .ref q_19, .ref q_20, .ref q_21])), (q_17, .inl (cI, 6, .inl z0)), (q_18, .inl (cI, 6, .inl z0)), (q_19, .inl (cI, 30, .inl z0)), (q_20, .inl (cI, 7, .inl z0)), (q_21, .inl (cI, 7, .inl z0)), (q_22, .inr (7, [.ref u_23])), (u_23, .inl (cI, 41, .inl z0)), (q_26, .inr (2, [.ref q_29, .int 0, .int 0])), (q_29, .inr (6, [.int 20, .ref q_30])), (q_30, .inl (cI, 820, .inl z0)), (q_31, .inr (6, [.int 2, .ref u_32])), (u_32, .inl (cI, 82, .inl z0)), (q_35, .inl (cI, 2, .inl z0)), (q_36, .inr (0, [.int 0, .ref q_39, .ref q_40])), (q_39, .inl (cI, 15, .inl z0)), (q_40, .inl (cI, 15, .inl z0)), (q_41, .inr (4, [.int 0, .int 0, .int 0, .int 0, .int 0]))] := hD
  refine lv_aload_n hx hb dX9_init_129 rfl (lv_at hl 0 rfl) ?_
  refine va_new (ci := 3) (fs := [.null, .null, .null]) (C := RX3) (T := TX3) (N := 3) hx hb hts iX3 tyX3 tyX3_ok hown (hts _ wd_121) (hts _ wd_122) (hts _ wd_123) hK hP hD hS hA rfl (by decide +kernel) (Nat.le_of_ble_eq_true rfl) (Nat.le_of_ble_eq_true rfl) dX9_init_130 (fun q_44 H hP hD hS => ?_)
  have hP : va_P D classes [(h, .inr (9, [.ref q_1, .int 0, .int (-1), .ref q_2, .ref q_6, .ref q_14, .ref q_22, .ref q_26, .ref q_31, .ref q_35, .int 0, .ref q_36, .int 0, .ref q_41, .null, .null, .null])), (q_1, .inl (cI, 240, .inl z0)), (q_2, .inr (5, [.int 0, .int (-1), .ref u_3, .int 0, .int 0, .int 0, .int 0])), (u_3, .inl (cI, 0, .inl z0)), (q_6, .inr (8, [.int 0, .int 1, .int 0, .int 0, .int 0, .ref q_9, .ref q_10, .ref q_11, .ref q_12, .ref q_13])), (q_9, .inl (cI, 6, .inl z0)), (q_10, .inl (cI, 6, .inl z0)), (q_11, .inl (cI, 30, .inl z0)), (q_12, .inl (cI, 7, .inl z0)), (q_13, .inl (cI, 7, .inl z0)), (q_14, .inr (8, [.int 0, .int 1, .int 0, .int 0, .int 0, .ref q_17, .ref q_18, .ref q_19, .ref q_20, .ref q_21])), (q_17, .inl (cI, 6, .inl z0)), (q_18, .inl (cI, 6, .inl z0)), (q_19, .inl (cI, 30, .inl z0)), (q_20, .inl (cI, 7, .inl z0)), (q_21, .inl (cI, 7, .inl z0)), (q_22, .inr (7, [.ref u_23])), (u_23, .inl (cI, 41, .inl z0)), (q_26, .inr (2, [.ref q_29, .int 0, .int 0])), (q_29, .inr (6, [.int 20, .ref q_30])), (q_30, .inl (cI, 820, .inl z0)), (q_31, .inr (6, [.int 2, .ref u_32])), (u_32, .inl (cI, 82, .inl z0)), (q_35, .inl (cI, 2, .inl z0)), (q_36, .inr (0, [.int 0, .ref q_39, .ref q_40])), (q_39, .inl (cI, 15, .inl z0)), (q_40, .inl (cI, 15, .inl z0)), (q_41, .inr (4, [.int 0, .int 0, .int 0, .int 0, .int 0])), (q_44, .inr (3, [.null, .null, .null]))] H := hP
  have hD : va_D A [(h, .inr (9, [.ref q_1, .int 0, .int (-1), .ref q_2, .ref q_6, .ref q_14, .ref q_22, .ref q_26, .ref q_31, .ref q_35, .int 0, .ref q_36, .int 0, .ref q_41, .null, .null, .null])), (q_1, .inl (cI, 240, .inl z0)), (q_2, .inr (5, [.int 0, .int (-1), .ref u_3, .int 0, .int 0, .int 0, .int 0])), (u_3, .inl (cI, 0, .inl z0)), (q_6, .inr (8, [.int 0, .int 1, .int 0, .int 0, .int 0, .ref q_9, .ref q_10, .ref q_11, .ref q_12, .ref q_13])), (q_9, .inl (cI, 6, .inl z0)), (q_10, .inl (cI, 6, .inl z0)), (q_11, .inl (cI, 30, .inl z0)), (q_12, .inl (cI, 7, .inl z0)), (q_13, .inl (cI, 7, .inl z0)), (q_14, .inr (8, [.int 0, .int 1, .int 0, .int 0, .int 0, .ref q_17, .ref q_18, .ref q_19, .ref q_20, .ref q_21])), (q_17, .inl (cI, 6, .inl z0)), (q_18, .inl (cI, 6, .inl z0)), (q_19, .inl (cI, 30, .inl z0)), (q_20, .inl (cI, 7, .inl z0)), (q_21, .inl (cI, 7, .inl z0)), (q_22, .inr (7, [.ref u_23])), (u_23, .inl (cI, 41, .inl z0)), (q_26, .inr (2, [.ref q_29, .int 0, .int 0])), (q_29, .inr (6, [.int 20, .ref q_30])), (q_30, .inl (cI, 820, .inl z0)), (q_31, .inr (6, [.int 2, .ref u_32])), (u_32, .inl (cI, 82, .inl z0)), (q_35, .inl (cI, 2, .inl z0)), (q_36, .inr (0, [.int 0, .ref q_39, .ref q_40])), (q_39, .inl (cI, 15, .inl z0)), (q_40, .inl (cI, 15, .inl z0)), (q_41, .inr (4, [.int 0, .int 0, .int 0, .int 0, .int 0])), (q_44, .inr (3, [.null, .null, .null]))] := hD
  refine W.widen (k := 28) (n := 1373) (Nat.le_of_ble_eq_true rfl) (Nat.le_of_ble_eq_true rfl) ?_
  refine lv_dup hx hb dX9_init_133 rfl ?_
  refine cMv (wr := [(h, .inr (9, [.ref q_1, .int 0, .int (-1), .ref q_2, .ref q_6, .ref q_14, .ref q_22, .ref q_26, .ref q_31, .ref q_35, .int 0, .ref q_36, .int 0, .ref q_41, .null, .null, .null])), (q_1, .inl (cI, 240, .inl z0)), (q_2, .inr (5, [.int 0, .int (-1), .ref u_3, .int 0, .int 0, .int 0, .int 0])), (u_3, .inl (cI, 0, .inl z0)), (q_6, .inr (8, [.int 0, .int 1, .int 0, .int 0, .int 0, .ref q_9, .ref q_10, .ref q_11, .ref q_12, .ref q_13])), (q_9, .inl (cI, 6, .inl z0)), (q_10, .inl (cI, 6, .inl z0)), (q_11, .inl (cI, 30, .inl z0)), (q_12, .inl (cI, 7, .inl z0)), (q_13, .inl (cI, 7, .inl z0)), (q_14, .inr (8, [.int 0, .int 1, .int 0, .int 0, .int 0, .ref q_17, .ref q_18, .ref q_19, .ref q_20, .ref q_21])), (q_17, .inl (cI, 6, .inl z0)), (q_18, .inl (cI, 6, .inl z0)), (q_19, .inl (cI, 30, .inl z0)), (q_20, .inl (cI, 7, .inl z0)), (q_21, .inl (cI, 7, .inl z0)), (q_22, .inr (7, [.ref u_23])), (u_23, .inl (cI, 41, .inl z0)), (q_26, .inr (2, [.ref q_29, .int 0, .int 0])), (q_29, .inr (6, [.int 20, .ref q_30])), (q_30, .inl (cI, 820, .inl z0)), (q_31, .inr (6, [.int 2, .ref u_32])), (u_32, .inl (cI, 82, .inl z0)), (q_35, .inl (cI, 2, .inl z0)), (q_36, .inr (0, [.int 0, .ref q_39, .ref q_40])), (q_39, .inl (cI, 15, .inl z0)), (q_40, .inl (cI, 15, .inl z0)), (q_41, .inr (4, [.int 0, .int 0, .int 0, .int 0, .int 0]))]) (rest := [.ref q_44, .ref h]) (k_pairing_init q_44) okI_X3_init 6 rfl hx hb hml hown hts hK hP hD hS hA hN hl.1 [28] [0, 1, 2, 3, 4, 5, 6, 7, 8, 9, 10, 11, 12, 13, 14, 15, 16, 17, 18, 19, 20, 21, 22, 23, 24, 25, 26, 27] rfl rfl rfl rfl (of_decide_eq_true rfl) rfl (Nat.le_of_ble_eq_true rfl) (Nat.le_of_ble_eq_true rfl) (Nat.le_of_ble_eq_true rfl) (Nat.le_of_ble_eq_true rfl) (Nat.le_of_ble_eq_true rfl) dX9_init_134 (fun u_45 H locs hw_u_45 hP hD hS => ?_)
  obtain ⟨q_47, q_48, q_49⟩ := u_45
  refine W.widen (k := 31) (n := 1537) (Nat.le_of_ble_eq_true rfl) (Nat.le_of_ble_eq_true rfl) ?_
  have hP : va_P D classes [(h, .inr (9, [.ref q_1, .int 0, .int (-1), .ref q_2, .ref q_6, .ref q_14, .ref q_22, .ref q_26, .ref q_31, .ref q_35, .int 0, .ref q_36, .int 0, .ref q_41, .null, .null, .null])), (q_1, .inl (cI, 240, .inl z0)), (q_2, .inr (5, [.int 0, .int (-1), .ref u_3, .int 0, .int 0, .int 0, .int 0])), (u_3, .inl (cI, 0, .inl z0)), (q_6, .inr (8, [.int 0, .int 1, .int 0, .int 0, .int 0, .ref q_9, .ref q_10, .ref q_11, .ref q_12, .ref q_13])), (q_9, .inl (cI, 6, .inl z0)), (q_10, .inl (cI, 6, .inl z0)), (q_11, .inl (cI, 30, .inl z0)), (q_12, .inl (cI, 7, .inl z0)), (q_13, .inl (cI, 7, .inl z0)), (q_14, .inr (8, [.int 0, .int 1, .int 0, .int 0, .int 0, .ref q_17, .ref q_18, .ref q_19, .ref q_20, .ref q_21])), (q_17, .inl (cI, 6, .inl z0)), (q_18, .inl (cI, 6, .inl z0)), (q_19, .inl (cI, 30, .inl z0)), (q_20, .inl (cI, 7, .inl z0)), (q_21, .inl (cI, 7, .inl z0)), (q_22, .inr (7, [.ref u_23])), (u_23, .inl (cI, 41, .inl z0)), (q_26, .inr (2, [.ref q_29, .int 0, .int 0])), (q_29, .inr (6, [.int 20, .ref q_30])), (q_30, .inl (cI, 820, .inl z0)), (q_31, .inr (6, [.int 2, .ref u_32])), (u_32, .inl (cI, 82, .inl z0)), (q_35, .inl (cI, 2, .inl z0)), (q_36, .inr (0, [.int 0, .ref q_39, .ref q_40])), (q_39, .inl (cI, 15, .inl z0)), (q_40, .inl (cI, 15, .inl z0)), (q_41, .inr (4, [.int 0, .int 0, .int 0, .int 0, .int 0])), (q_44, .inr (3, [.ref q_47, .ref q_48, .ref q_49])), (q_47, .inl (cI, 36, .inl z0)), (q_48, .inl (cI, 64, .inl z0)), (q_49, .inl (cI, 64, .inl z0))] H := hP
  have hD : va_D A [(h, .inr (9, [.ref q_1, .int 0, .int (-1), .ref q_2, .ref q_6, .ref q_14, .ref q_22, .ref q_26, .ref q_31, .ref q_35, .int 0, .ref q_36, .int 0, .ref q_41, .null, .null, .null])), (q_1, .inl (cI, 240, .inl z0)), (q_2, .inr (5, [.int 0, .int (-1), .ref u_3, .int 0, .int 0, .int 0, .int 0])), (u_3, .inl (cI, 0, .inl z0)), (q_6, .inr (8, [.int 0, .int 1, .int 0, .int 0, .int 0, .ref q_9, .ref q_10, .ref q_11, .ref q_12, .ref q_13])), (q_9, .inl (cI, 6, .inl z0)), (q_10, .inl (cI, 6, .inl z0)), (q_11, .inl (cI, 30, .inl z0)), (q_12, .inl (cI, 7, .inl z0)), (q_13, .inl (cI, 7, .inl z0)), (q_14, .inr (8, [.int 0, .int 1, .int 0, .int 0, .int 0, .ref q_17, .ref q_18, .ref q_19, .ref q_20, .ref q_21])), (q_17, .inl (cI, 6, .inl z0)), (q_18, .inl (cI, 6, .inl z0)), (q_19, .inl (cI, 30, .inl z0)), (q_20, .inl (cI, 7, .inl z0)), (q_21, .inl (cI, 7, .inl z0)), (q_22, .inr (7, [.ref u_23])), (u_23, .inl (cI, 41, .inl z0)), (q_26, .inr (2, [.ref q_29, .int 0, .int 0])), (q_29, .inr (6, [.int 20, .ref q_30])), (q_30, .inl (cI, 820, .inl z0)), (q_31, .inr (6, [.int 2, .ref u_32])), (u_32, .inl (cI, 82, .inl z0)), (q_35, .inl (cI, 2, .inl z0)), (q_36, .inr (0, [.int 0, .ref q_39, .ref q_40])), (q_39, .inl (cI, 15, .inl z0)), (q_40, .inl (cI, 15, .inl z0)), (q_41, .inr (4, [.int 0, .int 0, .int 0, .int 0, .int 0])), (q_44, .inr (3, [.ref q_47, .ref q_48, .ref q_49])), (q_47, .inl (cI, 36, .inl z0)), (q_48, .inl (cI, 64, .inl z0)), (q_49, .inl (cI, 64, .inl z0))] := hD
  refine va_putF (D := D) (ci := 9) (v := .ref q_44) (ty := (.object "QuarrelBridges$Pairing")) (C := RX9) (T := TX9) (N := 17) hx hb hts iX9 tyX9 tyX9_ok nmX9 hown hK hP hD hS 0 rfl rfl 14 (Nat.le_of_ble_eq_true rfl) (hts _ wd_126) (fun _ h9 => h9) rfl hin rfl (by decide +kernel) rfl rfl (Nat.le_of_ble_eq_true rfl) dX9_init_137 (fun H locs hP hD hS => ?_)
  have hP : va_P D classes [(h, .inr (9, [.ref q_1, .int 0, .int (-1), .ref q_2, .ref q_6, .ref q_14, .ref q_22, .ref q_26, .ref q_31, .ref q_35, .int 0, .ref q_36, .int 0, .ref q_41, .ref q_44, .null, .null])), (q_1, .inl (cI, 240, .inl z0)), (q_2, .inr (5, [.int 0, .int (-1), .ref u_3, .int 0, .int 0, .int 0, .int 0])), (u_3, .inl (cI, 0, .inl z0)), (q_6, .inr (8, [.int 0, .int 1, .int 0, .int 0, .int 0, .ref q_9, .ref q_10, .ref q_11, .ref q_12, .ref q_13])), (q_9, .inl (cI, 6, .inl z0)), (q_10, .inl (cI, 6, .inl z0)), (q_11, .inl (cI, 30, .inl z0)), (q_12, .inl (cI, 7, .inl z0)), (q_13, .inl (cI, 7, .inl z0)), (q_14, .inr (8, [.int 0, .int 1, .int 0, .int 0, .int 0, .ref q_17, .ref q_18, .ref q_19, .ref q_20, .ref q_21])), (q_17, .inl (cI, 6, .inl z0)), (q_18, .inl (cI, 6, .inl z0)), (q_19, .inl (cI, 30, .inl z0)), (q_20, .inl (cI, 7, .inl z0)), (q_21, .inl (cI, 7, .inl z0)), (q_22, .inr (7, [.ref u_23])), (u_23, .inl (cI, 41, .inl z0)), (q_26, .inr (2, [.ref q_29, .int 0, .int 0])), (q_29, .inr (6, [.int 20, .ref q_30])), (q_30, .inl (cI, 820, .inl z0)), (q_31, .inr (6, [.int 2, .ref u_32])), (u_32, .inl (cI, 82, .inl z0)), (q_35, .inl (cI, 2, .inl z0)), (q_36, .inr (0, [.int 0, .ref q_39, .ref q_40])), (q_39, .inl (cI, 15, .inl z0)), (q_40, .inl (cI, 15, .inl z0)), (q_41, .inr (4, [.int 0, .int 0, .int 0, .int 0, .int 0])), (q_44, .inr (3, [.ref q_47, .ref q_48, .ref q_49])), (q_47, .inl (cI, 36, .inl z0)), (q_48, .inl (cI, 64, .inl z0)), (q_49, .inl (cI, 64, .inl z0))] H := hP
  have hD : va_D A [(h, .inr (9, [.ref q_1, .int 0, .int (-1), .ref q_2, .ref q_6, .ref q_14, .ref q_22, .ref q_26, .ref q_31, .ref q_35, .int 0, .ref q_36, .int 0, .ref q_41, .ref q_44, .null, .null])), (q_1, .inl (cI, 240, .inl z0)), (q_2, .inr (5, [.int 0, .int (-1), .ref u_3, .int 0, .int 0, .int 0, .int 0])), (u_3, .inl (cI, 0, .inl z0)), (q_6, .inr (8, [.int 0, .int 1, .int 0, .int 0, .int 0, .ref q_9, .ref q_10, .ref q_11, .ref q_12, .ref q_13])), (q_9, .inl (cI, 6, .inl z0)), (q_10, .inl (cI, 6, .inl z0)), (q_11, .inl (cI, 30, .inl z0)), (q_12, .inl (cI, 7, .inl z0)), (q_13, .inl (cI, 7, .inl z0)), (q_14, .inr (8, [.int 0, .int 1, .int 0, .int 0, .int 0, .ref q_17, .ref q_18, .ref q_19, .ref q_20, .ref q_21])), (q_17, .inl (cI, 6, .inl z0)), (q_18, .inl (cI, 6, .inl z0)), (q_19, .inl (cI, 30, .inl z0)), (q_20, .inl (cI, 7, .inl z0)), (q_21, .inl (cI, 7, .inl z0)), (q_22, .inr (7, [.ref u_23])), (u_23, .inl (cI, 41, .inl z0)), (q_26, .inr (2, [.ref q_29, .int 0, .int 0])), (q_29, .inr (6, [.int 20, .ref q_30])), (q_30, .inl (cI, 820, .inl z0)), (q_31, .inr (6, [.int 2, .ref u_32])), (u_32, .inl (cI, 82, .inl z0)), (q_35, .inl (cI, 2, .inl z0)), (q_36, .inr (0, [.int 0, .ref q_39, .ref q_40])), (q_39, .inl (cI, 15, .inl z0)), (q_40, .inl (cI, 15, .inl z0)), (q_41, .inr (4, [.int 0, .int 0, .int 0, .int 0, .int 0])), (q_44, .inr (3, [.ref q_47, .ref q_48, .ref q_49])), (q_47, .inl (cI, 36, .inl z0)), (q_48, .inl (cI, 64, .inl z0)), (q_49, .inl (cI, 64, .inl z0))] := hD
  refine lv_aload_n hx hb dX9_init_140 rfl (lv_at hl 0 rfl) ?_
  refine va_new (ci := 1) (fs := [.int 0, .null, .null, .null, .null, .null, .null, .int 0, .int 0, .null]) (C := RX1) (T := TX1) (N := 10) hx hb hts iX1 tyX1 tyX1_ok hown (hts _ wd_127) (hts _ wd_128) (hts _ wd_129) hK hP hD hS hA rfl (by decide +kernel) (Nat.le_of_ble_eq_true rfl) (Nat.le_of_ble_eq_true rfl) dX9_init_141 (fun q_50 H hP hD hS => ?_)
  have hP : va_P D classes [(h, .inr (9, [.ref q_1, .int 0, .int (-1), .ref q_2, .ref q_6, .ref q_14, .ref q_22, .ref q_26, .ref q_31, .ref q_35, .int 0, .ref q_36, .int 0, .ref q_41, .ref q_44, .null, .null])), (q_1, .inl (cI, 240, .inl z0)), (q_2, .inr (5, [.int 0, .int (-1), .ref u_3, .int 0, .int 0, .int 0, .int 0])), (u_3, .inl (cI, 0, .inl z0)), (q_6, .inr (8, [.int 0, .int 1, .int 0, .int 0, .int 0, .ref q_9, .ref q_10, .ref q_11, .ref q_12, .ref q_13])), (q_9, .inl (cI, 6, .inl z0)), (q_10, .inl (cI, 6, .inl z0)), (q_11, .inl (cI, 30, .inl z0)), (q_12, .inl (cI, 7, .inl z0)), (q_13, .inl (cI, 7, .inl z0)), (q_14, .inr (8, [.int 0, .int 1, .int 0, .int 0, .int 0, .ref q_17, .ref q_18, .ref q_19, .ref q_20, .ref q_21])), (q_17, .inl (cI, 6, .inl z0)), (q_18, .inl (cI, 6, .inl z0)), (q_19, .inl (cI, 30, .inl z0)), (q_20, .inl (cI, 7, .inl z0)), (q_21, .inl (cI, 7, .inl z0)), (q_22, .inr (7, [.ref u_23])), (u_23, .inl (cI, 41, .inl z0)), (q_26, .inr (2, [.ref q_29, .int 0, .int 0])), (q_29, .inr (6, [.int 20, .ref q_30])), (q_30, .inl (cI, 820, .inl z0)), (q_31, .inr (6, [.int 2, .ref u_32])), (u_32, .inl (cI, 82, .inl z0)), (q_35, .inl (cI, 2, .inl z0)), (q_36, .inr (0, [.int 0, .ref q_39, .ref q_40])), (q_39, .inl (cI, 15, .inl z0)), (q_40, .inl (cI, 15, .inl z0)), (q_41, .inr (4, [.int 0, .int 0, .int 0, .int 0, .int 0])), (q_44, .inr (3, [.ref q_47, .ref q_48, .ref q_49])), (q_47, .inl (cI, 36, .inl z0)), (q_48, .inl (cI, 64, .inl z0)), (q_49, .inl (cI, 64, .inl z0)), (q_50, .inr (1, [.int 0, .null, .null, .null, .null, .null, .null, .int 0, .int 0, .null]))] H := hP
  have hD : va_D A [(h, .inr (9, [.ref q_1, .int 0, .int (-1), .ref q_2, .ref q_6, .ref q_14, .ref q_22, .ref q_26, .ref q_31, .ref q_35, .int 0, .ref q_36, .int 0, .ref q_41, .ref q_44, .null, .null])), (q_1, .inl (cI, 240, .inl z0)), (q_2, .inr (5, [.int 0, .int (-1), .ref u_3, .int 0, .int 0, .int 0, .int 0])), (u_3, .inl (cI, 0, .inl z0)), (q_6, .inr (8, [.int 0, .int 1, .int 0, .int 0, .int 0, .ref q_9, .ref q_10, .ref q_11, .ref q_12, .ref q_13])), (q_9, .inl (cI, 6, .inl z0)), (q_10, .inl (cI, 6, .inl z0)), (q_11, .inl (cI, 30, .inl z0)), (q_12, .inl (cI, 7, .inl z0)), (q_13, .inl (cI, 7, .inl z0)), (q_14, .inr (8, [.int 0, .int 1, .int 0, .int 0, .int 0, .ref q_17, .ref q_18, .ref q_19, .ref q_20, .ref q_21])), (q_17, .inl (cI, 6, .inl z0)), (q_18, .inl (cI, 6, .inl z0)), (q_19, .inl (cI, 30, .inl z0)), (q_20, .inl (cI, 7, .inl z0)), (q_21, .inl (cI, 7, .inl z0)), (q_22, .inr (7, [.ref u_23])), (u_23, .inl (cI, 41, .inl z0)), (q_26, .inr (2, [.ref q_29, .int 0, .int 0])), (q_29, .inr (6, [.int 20, .ref q_30])), (q_30, .inl (cI, 820, .inl z0)), (q_31, .inr (6, [.int 2, .ref u_32])), (u_32, .inl (cI, 82, .inl z0)), (q_35, .inl (cI, 2, .inl z0)), (q_36, .inr (0, [.int 0, .ref q_39, .ref q_40])), (q_39, .inl (cI, 15, .inl z0)), (q_40, .inl (cI, 15, .inl z0)), (q_41, .inr (4, [.int 0, .int 0, .int 0, .int 0, .int 0])), (q_44, .inr (3, [.ref q_47, .ref q_48, .ref q_49])), (q_47, .inl (cI, 36, .inl z0)), (q_48, .inl (cI, 64, .inl z0)), (q_49, .inl (cI, 64, .inl z0)), (q_50, .inr (1, [.int 0, .null, .null, .null, .null, .null, .null, .int 0, .int 0, .null]))] := hD
  refine W.widen (k := 32) (n := 1547) (Nat.le_of_ble_eq_true rfl) (Nat.le_of_ble_eq_true rfl) ?_
  refine lv_dup hx hb dX9_init_144 rfl ?_
  refine cMv (wr := [(h, .inr (9, [.ref q_1, .int 0, .int (-1), .ref q_2, .ref q_6, .ref q_14, .ref q_22, .ref q_26, .ref q_31, .ref q_35, .int 0, .ref q_36, .int 0, .ref q_41, .ref q_44, .null, .null])), (q_1, .inl (cI, 240, .inl z0)), (q_2, .inr (5, [.int 0, .int (-1), .ref u_3, .int 0, .int 0, .int 0, .int 0])), (u_3, .inl (cI, 0, .inl z0)), (q_6, .inr (8, [.int 0, .int 1, .int 0, .int 0, .int 0, .ref q_9, .ref q_10, .ref q_11, .ref q_12, .ref q_13])), (q_9, .inl (cI, 6, .inl z0)), (q_10, .inl (cI, 6, .inl z0)), (q_11, .inl (cI, 30, .inl z0)), (q_12, .inl (cI, 7, .inl z0)), (q_13, .inl (cI, 7, .inl z0)), (q_14, .inr (8, [.int 0, .int 1, .int 0, .int 0, .int 0, .ref q_17, .ref q_18, .ref q_19, .ref q_20, .ref q_21])), (q_17, .inl (cI, 6, .inl z0)), (q_18, .inl (cI, 6, .inl z0)), (q_19, .inl (cI, 30, .inl z0)), (q_20, .inl (cI, 7, .inl z0)), (q_21, .inl (cI, 7, .inl z0)), (q_22, .inr (7, [.ref u_23])), (u_23, .inl (cI, 41, .inl z0)), (q_26, .inr (2, [.ref q_29, .int 0, .int 0])), (q_29, .inr (6, [.int 20, .ref q_30])), (q_30, .inl (cI, 820, .inl z0)), (q_31, .inr (6, [.int 2, .ref u_32])), (u_32, .inl (cI, 82, .inl z0)), (q_35, .inl (cI, 2, .inl z0)), (q_36, .inr (0, [.int 0, .ref q_39, .ref q_40])), (q_39, .inl (cI, 15, .inl z0)), (q_40, .inl (cI, 15, .inl z0)), (q_41, .inr (4, [.int 0, .int 0, .int 0, .int 0, .int 0])), (q_44, .inr (3, [.ref q_47, .ref q_48, .ref q_49])), (q_47, .inl (cI, 36, .inl z0)), (q_48, .inl (cI, 64, .inl z0)), (q_49, .inl (cI, 64, .inl z0))]) (rest := [.ref q_50, .ref h]) (k_convoy_init q_50) okI_X1_init 7 rfl hx hb hml hown hts hK hP hD hS hA hN hl.1 [32] [0, 1, 2, 3, 4, 5, 6, 7, 8, 9, 10, 11, 12, 13, 14, 15, 16, 17, 18, 19, 20, 21, 22, 23, 24, 25, 26, 27, 28, 29, 30, 31] rfl rfl rfl rfl (of_decide_eq_true rfl) rfl (Nat.le_of_ble_eq_true rfl) (Nat.le_of_ble_eq_true rfl) (Nat.le_of_ble_eq_true rfl) (Nat.le_of_ble_eq_true rfl) (Nat.le_of_ble_eq_true rfl) dX9_init_145 (fun u_51 H locs hw_u_51 hP hD hS => ?_)
  obtain ⟨q_53, q_54, q_55, q_56, q_57, q_58⟩ := u_51
  refine W.widen (k := 38) (n := 1992) (Nat.le_of_ble_eq_true rfl) (Nat.le_of_ble_eq_true rfl) ?_
  have hP : va_P D classes [(h, .inr (9, [.ref q_1, .int 0, .int (-1), .ref q_2, .ref q_6, .ref q_14, .ref q_22, .ref q_26, .ref q_31, .ref q_35, .int 0, .ref q_36, .int 0, .ref q_41, .ref q_44, .null, .null])), (q_1, .inl (cI, 240, .inl z0)), (q_2, .inr (5, [.int 0, .int (-1), .ref u_3, .int 0, .int 0, .int 0, .int 0])), (u_3, .inl (cI, 0, .inl z0)), (q_6, .inr (8, [.int 0, .int 1, .int 0, .int 0, .int 0, .ref q_9, .ref q_10, .ref q_11, .ref q_12, .ref q_13])), (q_9, .inl (cI, 6, .inl z0)), (q_10, .inl (cI, 6, .inl z0)), (q_11, .inl (cI, 30, .inl z0)), (q_12, .inl (cI, 7, .inl z0)), (q_13, .inl (cI, 7, .inl z0)), (q_14, .inr (8, [.int 0, .int 1, .int 0, .int 0, .int 0, .ref q_17, .ref q_18, .ref q_19, .ref q_20, .ref q_21])), (q_17, .inl (cI, 6, .inl z0)), (q_18, .inl (cI, 6, .inl z0)), (q_19, .inl (cI, 30, .inl z0)), (q_20, .inl (cI, 7, .inl z0)), (q_21, .inl (cI, 7, .inl z0)), (q_22, .inr (7, [.ref u_23])), (u_23, .inl (cI, 41, .inl z0)), (q_26, .inr (2, [.ref q_29, .int 0, .int 0])), (q_29, .inr (6, [.int 20, .ref q_30])), (q_30, .inl (cI, 820, .inl z0)), (q_31, .inr (6, [.int 2, .ref u_32])), (u_32, .inl (cI, 82, .inl z0)), (q_35, .inl (cI, 2, .inl z0)), (q_36, .inr (0, [.int 0, .ref q_39, .ref q_40])), (q_39, .inl (cI, 15, .inl z0)), (q_40, .inl (cI, 15, .inl z0)), (q_41, .inr (4, [.int 0, .int 0, .int 0, .int 0, .int 0])), (q_44, .inr (3, [.ref q_47, .ref q_48, .ref q_49])), (q_47, .inl (cI, 36, .inl z0)), (q_48, .inl (cI, 64, .inl z0)), (q_49, .inl (cI, 64, .inl z0)), (q_50, .inr (1, [.int 0, .ref q_53, .ref q_54, .ref q_55, .ref q_56, .ref q_57, .ref q_58, .int 0, .int 0, .null])), (q_53, .inl (cI, 7, .inl z0)), (q_54, .inl (cI, 6, .inl z0)), (q_55, .inl (cI, 48, .inl z0)), (q_56, .inl (cI, 128, .inl z0)), (q_57, .inl (cI, 128, .inl z0)), (q_58, .inl (cI, 128, .inl z0))] H := hP
  have hD : va_D A [(h, .inr (9, [.ref q_1, .int 0, .int (-1), .ref q_2, .ref q_6, .ref q_14, .ref q_22, .ref q_26, .ref q_31, .ref q_35, .int 0, .ref q_36, .int 0, .ref q_41, .ref q_44, .null, .null])), (q_1, .inl (cI, 240, .inl z0)), (q_2, .inr (5, [.int 0, .int (-1), .ref u_3, .int 0, .int 0, .int 0, .int 0])), (u_3, .inl (cI, 0, .inl z0)), (q_6, .inr (8, [.int 0, .int 1, .int 0, .int 0, .int 0, .ref q_9, .ref q_10, .ref q_11, .ref q_12, .ref q_13])), (q_9, .inl (cI, 6, .inl z0)), (q_10, .inl (cI, 6, .inl z0)), (q_11, .inl (cI, 30, .inl z0)), (q_12, .inl (cI, 7, .inl z0)), (q_13, .inl (cI, 7, .inl z0)), (q_14, .inr (8, [.int 0, .int 1, .int 0, .int 0, .int 0, .ref q_17, .ref q_18, .ref q_19, .ref q_20, .ref q_21])), (q_17, .inl (cI, 6, .inl z0)), (q_18, .inl (cI, 6, .inl z0)), (q_19, .inl (cI, 30, .inl z0)), (q_20, .inl (cI, 7, .inl z0)), (q_21, .inl (cI, 7, .inl z0)), (q_22, .inr (7, [.ref u_23])), (u_23, .inl (cI, 41, .inl z0)), (q_26, .inr (2, [.ref q_29, .int 0, .int 0])), (q_29, .inr (6, [.int 20, .ref q_30])), (q_30, .inl (cI, 820, .inl z0)), (q_31, .inr (6, [.int 2, .ref u_32])), (u_32, .inl (cI, 82, .inl z0)), (q_35, .inl (cI, 2, .inl z0)), (q_36, .inr (0, [.int 0, .ref q_39, .ref q_40])), (q_39, .inl (cI, 15, .inl z0)), (q_40, .inl (cI, 15, .inl z0)), (q_41, .inr (4, [.int 0, .int 0, .int 0, .int 0, .int 0])), (q_44, .inr (3, [.ref q_47, .ref q_48, .ref q_49])), (q_47, .inl (cI, 36, .inl z0)), (q_48, .inl (cI, 64, .inl z0)), (q_49, .inl (cI, 64, .inl z0)), (q_50, .inr (1, [.int 0, .ref q_53, .ref q_54, .ref q_55, .ref q_56, .ref q_57, .ref q_58, .int 0, .int 0, .null])), (q_53, .inl (cI, 7, .inl z0)), (q_54, .inl (cI, 6, .inl z0)), (q_55, .inl (cI, 48, .inl z0)), (q_56, .inl (cI, 128, .inl z0)), (q_57, .inl (cI, 128, .inl z0)), (q_58, .inl (cI, 128, .inl z0))] := hD
  refine va_putF (D := D) (ci := 9) (v := .ref q_50) (ty := (.object "QuarrelBridges$Convoy")) (C := RX9) (T := TX9) (N := 17) hx hb hts iX9 tyX9 tyX9_ok nmX9 hown hK hP hD hS 0 rfl rfl 15 (Nat.le_of_ble_eq_true rfl) (hts _ wd_132) (fun _ h9 => h9) rfl hin rfl (by decide +kernel) rfl rfl (Nat.le_of_ble_eq_true rfl) dX9_init_148 (fun H locs hP hD hS => ?_)
  have hP : va_P D classes [(h, .inr (9, [.ref q_1, .int 0, .int (-1), .ref q_2, .ref q_6, .ref q_14, .ref q_22, .ref q_26, .ref q_31, .ref q_35, .int 0, .ref q_36, .int 0, .ref q_41, .ref q_44, .ref q_50, .null])), (q_1, .inl (cI, 240, .inl z0)), (q_2, .inr (5, [.int 0, .int (-1), .ref u_3, .int 0, .int 0, .int 0, .int 0])), (u_3, .inl (cI, 0, .inl z0)), (q_6, .inr (8, [.int 0, .int 1, .int 0, .int 0, .int 0, .ref q_9, .ref q_10, .ref q_11, .ref q_12, .ref q_13])), (q_9, .inl (cI, 6, .inl z0)), (q_10, .inl (cI, 6, .inl z0)), (q_11, .inl (cI, 30, .inl z0)), (q_12, .inl (cI, 7, .inl z0)), (q_13, .inl (cI, 7, .inl z0)), (q_14, .inr (8, [.int 0, .int 1, .int 0, .int 0, .int 0, .ref q_17, .ref q_18, .ref q_19, .ref q_20, .ref q_21])), (q_17, .inl (cI, 6, .inl z0)), (q_18, .inl (cI, 6, .inl z0)), (q_19, .inl (cI, 30, .inl z0)), (q_20, .inl (cI, 7, .inl z0)), (q_21, .inl (cI, 7, .inl z0)), (q_22, .inr (7, [.ref u_23])), (u_23, .inl (cI, 41, .inl z0)), (q_26, .inr (2, [.ref q_29, .int 0, .int 0])), (q_29, .inr (6, [.int 20, .ref q_30])), (q_30, .inl (cI, 820, .inl z0)), (q_31, .inr (6, [.int 2, .ref u_32])), (u_32, .inl (cI, 82, .inl z0)), (q_35, .inl (cI, 2, .inl z0)), (q_36, .inr (0, [.int 0, .ref q_39, .ref q_40])), (q_39, .inl (cI, 15, .inl z0)), (q_40, .inl (cI, 15, .inl z0)), (q_41, .inr (4, [.int 0, .int 0, .int 0, .int 0, .int 0])), (q_44, .inr (3, [.ref q_47, .ref q_48, .ref q_49])), (q_47, .inl (cI, 36, .inl z0)), (q_48, .inl (cI, 64, .inl z0)), (q_49, .inl (cI, 64, .inl z0)), (q_50, .inr (1, [.int 0, .ref q_53, .ref q_54, .ref q_55, .ref q_56, .ref q_57, .ref q_58, .int 0, .int 0, .null])), (q_53, .inl (cI, 7, .inl z0)), (q_54, .inl (cI, 6, .inl z0)), (q_55, .inl (cI, 48, .inl z0)), (q_56, .inl (cI, 128, .inl z0)), (q_57, .inl (cI, 128, .inl z0)), (q_58, .inl (cI, 128, .inl z0))] H := hP
  have hD : va_D A [(h, .inr (9, [.ref q_1, .int 0, .int (-1), .ref q_2, .ref q_6, .ref q_14, .ref q_22, .ref q_26, .ref q_31, .ref q_35, .int 0, .ref q_36, .int 0, .ref q_41, .ref q_44, .ref q_50, .null])), (q_1, .inl (cI, 240, .inl z0)), (q_2, .inr (5, [.int 0, .int (-1), .ref u_3, .int 0, .int 0, .int 0, .int 0])), (u_3, .inl (cI, 0, .inl z0)), (q_6, .inr (8, [.int 0, .int 1, .int 0, .int 0, .int 0, .ref q_9, .ref q_10, .ref q_11, .ref q_12, .ref q_13])), (q_9, .inl (cI, 6, .inl z0)), (q_10, .inl (cI, 6, .inl z0)), (q_11, .inl (cI, 30, .inl z0)), (q_12, .inl (cI, 7, .inl z0)), (q_13, .inl (cI, 7, .inl z0)), (q_14, .inr (8, [.int 0, .int 1, .int 0, .int 0, .int 0, .ref q_17, .ref q_18, .ref q_19, .ref q_20, .ref q_21])), (q_17, .inl (cI, 6, .inl z0)), (q_18, .inl (cI, 6, .inl z0)), (q_19, .inl (cI, 30, .inl z0)), (q_20, .inl (cI, 7, .inl z0)), (q_21, .inl (cI, 7, .inl z0)), (q_22, .inr (7, [.ref u_23])), (u_23, .inl (cI, 41, .inl z0)), (q_26, .inr (2, [.ref q_29, .int 0, .int 0])), (q_29, .inr (6, [.int 20, .ref q_30])), (q_30, .inl (cI, 820, .inl z0)), (q_31, .inr (6, [.int 2, .ref u_32])), (u_32, .inl (cI, 82, .inl z0)), (q_35, .inl (cI, 2, .inl z0)), (q_36, .inr (0, [.int 0, .ref q_39, .ref q_40])), (q_39, .inl (cI, 15, .inl z0)), (q_40, .inl (cI, 15, .inl z0)), (q_41, .inr (4, [.int 0, .int 0, .int 0, .int 0, .int 0])), (q_44, .inr (3, [.ref q_47, .ref q_48, .ref q_49])), (q_47, .inl (cI, 36, .inl z0)), (q_48, .inl (cI, 64, .inl z0)), (q_49, .inl (cI, 64, .inl z0)), (q_50, .inr (1, [.int 0, .ref q_53, .ref q_54, .ref q_55, .ref q_56, .ref q_57, .ref q_58, .int 0, .int 0, .null])), (q_53, .inl (cI, 7, .inl z0)), (q_54, .inl (cI, 6, .inl z0)), (q_55, .inl (cI, 48, .inl z0)), (q_56, .inl (cI, 128, .inl z0)), (q_57, .inl (cI, 128, .inl z0)), (q_58, .inl (cI, 128, .inl z0))] := hD
  refine lv_aload_n hx hb dX9_init_151 rfl (lv_at hl 0 rfl) ?_
  refine lv_bipush (v := 30) hx hb dX9_init_152 rfl ?_
  refine va_newa (atype := .int) (a0 := (30, .inl z0)) (N' := 30) (ty := .int) hx hb (hts _ wd_8) rfl hK hP hD hS hA (fun cA => z0_int 30 cA) (by decide +kernel) (by decide +kernel) (by decide +kernel) (Nat.le_of_ble_eq_true rfl) (Nat.le_of_ble_eq_true rfl) dX9_init_154 (fun q_59 cA_q_59 H hKn hP hD hS => ?_)
  obtain rfl := (K_int hKn).symm
  have hP : va_P D classes [(h, .inr (9, [.ref q_1, .int 0, .int (-1), .ref q_2, .ref q_6, .ref q_14, .ref q_22, .ref q_26, .ref q_31, .ref q_35, .int 0, .ref q_36, .int 0, .ref q_41, .ref q_44, .ref q_50, .null])), (q_1, .inl (cI, 240, .inl z0)), (q_2, .inr (5, [.int 0, .int (-1), .ref u_3, .int 0, .int 0, .int 0, .int 0])), (u_3, .inl (cI, 0, .inl z0)), (q_6, .inr (8, [.int 0, .int 1, .int 0, .int 0, .int 0, .ref q_9, .ref q_10, .ref q_11, .ref q_12, .ref q_13])), (q_9, .inl (cI, 6, .inl z0)), (q_10, .inl (cI, 6, .inl z0)), (q_11, .inl (cI, 30, .inl z0)), (q_12, .inl (cI, 7, .inl z0)), (q_13, .inl (cI, 7, .inl z0)), (q_14, .inr (8, [.int 0, .int 1, .int 0, .int 0, .int 0, .ref q_17, .ref q_18, .ref q_19, .ref q_20, .ref q_21])), (q_17, .inl (cI, 6, .inl z0)), (q_18, .inl (cI, 6, .inl z0)), (q_19, .inl (cI, 30, .inl z0)), (q_20, .inl (cI, 7, .inl z0)), (q_21, .inl (cI, 7, .inl z0)), (q_22, .inr (7, [.ref u_23])), (u_23, .inl (cI, 41, .inl z0)), (q_26, .inr (2, [.ref q_29, .int 0, .int 0])), (q_29, .inr (6, [.int 20, .ref q_30])), (q_30, .inl (cI, 820, .inl z0)), (q_31, .inr (6, [.int 2, .ref u_32])), (u_32, .inl (cI, 82, .inl z0)), (q_35, .inl (cI, 2, .inl z0)), (q_36, .inr (0, [.int 0, .ref q_39, .ref q_40])), (q_39, .inl (cI, 15, .inl z0)), (q_40, .inl (cI, 15, .inl z0)), (q_41, .inr (4, [.int 0, .int 0, .int 0, .int 0, .int 0])), (q_44, .inr (3, [.ref q_47, .ref q_48, .ref q_49])), (q_47, .inl (cI, 36, .inl z0)), (q_48, .inl (cI, 64, .inl z0)), (q_49, .inl (cI, 64, .inl z0)), (q_50, .inr (1, [.int 0, .ref q_53, .ref q_54, .ref q_55, .ref q_56, .ref q_57, .ref q_58, .int 0, .int 0, .null])), (q_53, .inl (cI, 7, .inl z0)), (q_54, .inl (cI, 6, .inl z0)), (q_55, .inl (cI, 48, .inl z0)), (q_56, .inl (cI, 128, .inl z0)), (q_57, .inl (cI, 128, .inl z0)), (q_58, .inl (cI, 128, .inl z0)), (q_59, .inl (cI, 30, .inl z0))] H := hP
  have hD : va_D A [(h, .inr (9, [.ref q_1, .int 0, .int (-1), .ref q_2, .ref q_6, .ref q_14, .ref q_22, .ref q_26, .ref q_31, .ref q_35, .int 0, .ref q_36, .int 0, .ref q_41, .ref q_44, .ref q_50, .null])), (q_1, .inl (cI, 240, .inl z0)), (q_2, .inr (5, [.int 0, .int (-1), .ref u_3, .int 0, .int 0, .int 0, .int 0])), (u_3, .inl (cI, 0, .inl z0)), (q_6, .inr (8, [.int 0, .int 1, .int 0, .int 0, .int 0, .ref q_9, .ref q_10, .ref q_11, .ref q_12, .ref q_13])), (q_9, .inl (cI, 6, .inl z0)), (q_10, .inl (cI, 6, .inl z0)), (q_11, .inl (cI, 30, .inl z0)), (q_12, .inl (cI, 7, .inl z0)), (q_13, .inl (cI, 7, .inl z0)), (q_14, .inr (8, [.int 0, .int 1, .int 0, .int 0, .int 0, .ref q_17, .ref q_18, .ref q_19, .ref q_20, .ref q_21])), (q_17, .inl (cI, 6, .inl z0)), (q_18, .inl (cI, 6, .inl z0)), (q_19, .inl (cI, 30, .inl z0)), (q_20, .inl (cI, 7, .inl z0)), (q_21, .inl (cI, 7, .inl z0)), (q_22, .inr (7, [.ref u_23])), (u_23, .inl (cI, 41, .inl z0)), (q_26, .inr (2, [.ref q_29, .int 0, .int 0])), (q_29, .inr (6, [.int 20, .ref q_30])), (q_30, .inl (cI, 820, .inl z0)), (q_31, .inr (6, [.int 2, .ref u_32])), (u_32, .inl (cI, 82, .inl z0)), (q_35, .inl (cI, 2, .inl z0)), (q_36, .inr (0, [.int 0, .ref q_39, .ref q_40])), (q_39, .inl (cI, 15, .inl z0)), (q_40, .inl (cI, 15, .inl z0)), (q_41, .inr (4, [.int 0, .int 0, .int 0, .int 0, .int 0])), (q_44, .inr (3, [.ref q_47, .ref q_48, .ref q_49])), (q_47, .inl (cI, 36, .inl z0)), (q_48, .inl (cI, 64, .inl z0)), (q_49, .inl (cI, 64, .inl z0)), (q_50, .inr (1, [.int 0, .ref q_53, .ref q_54, .ref q_55, .ref q_56, .ref q_57, .ref q_58, .int 0, .int 0, .null])), (q_53, .inl (cI, 7, .inl z0)), (q_54, .inl (cI, 6, .inl z0)), (q_55, .inl (cI, 48, .inl z0)), (q_56, .inl (cI, 128, .inl z0)), (q_57, .inl (cI, 128, .inl z0)), (q_58, .inl (cI, 128, .inl z0)), (q_59, .inl (cI, 30, .inl z0))] := hD
  refine W.widen (k := 39) (n := 2022) (Nat.le_of_ble_eq_true rfl) (Nat.le_of_ble_eq_true rfl) ?_
  refine va_putF (D := D) (ci := 9) (v := .ref q_59) (ty := (.array .int)) (C := RX9) (T := TX9) (N := 17) hx hb hts iX9 tyX9 tyX9_ok nmX9 hown hK hP hD hS 0 rfl rfl 16 (Nat.le_of_ble_eq_true rfl) (hts _ wd_133) (fun _ h9 => h9) rfl hin rfl (by decide +kernel) rfl rfl (Nat.le_of_ble_eq_true rfl) dX9_init_156 (fun H locs hP hD hS => ?_)
  have hP : va_P D classes [(h, .inr (9, [.ref q_1, .int 0, .int (-1), .ref q_2, .ref q_6, .ref q_14, .ref q_22, .ref q_26, .ref q_31, .ref q_35, .int 0, .ref q_36, .int 0, .ref q_41, .ref q_44, .ref q_50, .ref q_59])), (q_1, .inl (cI, 240, .inl z0)), (q_2, .inr (5, [.int 0, .int (-1), .ref u_3, .int 0, .int 0, .int 0, .int 0])), (u_3, .inl (cI, 0, .inl z0)), (q_6, .inr (8, [.int 0, .int 1, .int 0, .int 0, .int 0, .ref q_9, .ref q_10, .ref q_11, .ref q_12, .ref q_13])), (q_9, .inl (cI, 6, .inl z0)), (q_10, .inl (cI, 6, .inl z0)), (q_11, .inl (cI, 30, .inl z0)), (q_12, .inl (cI, 7, .inl z0)), (q_13, .inl (cI, 7, .inl z0)), (q_14, .inr (8, [.int 0, .int 1, .int 0, .int 0, .int 0, .ref q_17, .ref q_18, .ref q_19, .ref q_20, .ref q_21])), (q_17, .inl (cI, 6, .inl z0)), (q_18, .inl (cI, 6, .inl z0)), (q_19, .inl (cI, 30, .inl z0)), (q_20, .inl (cI, 7, .inl z0)), (q_21, .inl (cI, 7, .inl z0)), (q_22, .inr (7, [.ref u_23])), (u_23, .inl (cI, 41, .inl z0)), (q_26, .inr (2, [.ref q_29, .int 0, .int 0])), (q_29, .inr (6, [.int 20, .ref q_30])), (q_30, .inl (cI, 820, .inl z0)), (q_31, .inr (6, [.int 2, .ref u_32])), (u_32, .inl (cI, 82, .inl z0)), (q_35, .inl (cI, 2, .inl z0)), (q_36, .inr (0, [.int 0, .ref q_39, .ref q_40])), (q_39, .inl (cI, 15, .inl z0)), (q_40, .inl (cI, 15, .inl z0)), (q_41, .inr (4, [.int 0, .int 0, .int 0, .int 0, .int 0])), (q_44, .inr (3, [.ref q_47, .ref q_48, .ref q_49])), (q_47, .inl (cI, 36, .inl z0)), (q_48, .inl (cI, 64, .inl z0)), (q_49, .inl (cI, 64, .inl z0)), (q_50, .inr (1, [.int 0, .ref q_53, .ref q_54, .ref q_55, .ref q_56, .ref q_57, .ref q_58, .int 0, .int 0, .null])), (q_53, .inl (cI, 7, .inl z0)), (q_54, .inl (cI, 6, .inl z0)), (q_55, .inl (cI, 48, .inl z0)), (q_56, .inl (cI, 128, .inl z0)), (q_57, .inl (cI, 128, .inl z0)), (q_58, .inl (cI, 128, .inl z0)), (q_59, .inl (cI, 30, .inl z0))] H := hP
  have hD : va_D A [(h, .inr (9, [.ref q_1, .int 0, .int (-1), .ref q_2, .ref q_6, .ref q_14, .ref q_22, .ref q_26, .ref q_31, .ref q_35, .int 0, .ref q_36, .int 0, .ref q_41, .ref q_44, .ref q_50, .ref q_59])), (q_1, .inl (cI, 240, .inl z0)), (q_2, .inr (5, [.int 0, .int (-1), .ref u_3, .int 0, .int 0, .int 0, .int 0])), (u_3, .inl (cI, 0, .inl z0)), (q_6, .inr (8, [.int 0, .int 1, .int 0, .int 0, .int 0, .ref q_9, .ref q_10, .ref q_11, .ref q_12, .ref q_13])), (q_9, .inl (cI, 6, .inl z0)), (q_10, .inl (cI, 6, .inl z0)), (q_11, .inl (cI, 30, .inl z0)), (q_12, .inl (cI, 7, .inl z0)), (q_13, .inl (cI, 7, .inl z0)), (q_14, .inr (8, [.int 0, .int 1, .int 0, .int 0, .int 0, .ref q_17, .ref q_18, .ref q_19, .ref q_20, .ref q_21])), (q_17, .inl (cI, 6, .inl z0)), (q_18, .inl (cI, 6, .inl z0)), (q_19, .inl (cI, 30, .inl z0)), (q_20, .inl (cI, 7, .inl z0)), (q_21, .inl (cI, 7, .inl z0)), (q_22, .inr (7, [.ref u_23])), (u_23, .inl (cI, 41, .inl z0)), (q_26, .inr (2, [.ref q_29, .int 0, .int 0])), (q_29, .inr (6, [.int 20, .ref q_30])), (q_30, .inl (cI, 820, .inl z0)), (q_31, .inr (6, [.int 2, .ref u_32])), (u_32, .inl (cI, 82, .inl z0)), (q_35, .inl (cI, 2, .inl z0)), (q_36, .inr (0, [.int 0, .ref q_39, .ref q_40])), (q_39, .inl (cI, 15, .inl z0)), (q_40, .inl (cI, 15, .inl z0)), (q_41, .inr (4, [.int 0, .int 0, .int 0, .int 0, .int 0])), (q_44, .inr (3, [.ref q_47, .ref q_48, .ref q_49])), (q_47, .inl (cI, 36, .inl z0)), (q_48, .inl (cI, 64, .inl z0)), (q_49, .inl (cI, 64, .inl z0)), (q_50, .inr (1, [.int 0, .ref q_53, .ref q_54, .ref q_55, .ref q_56, .ref q_57, .ref q_58, .int 0, .int 0, .null])), (q_53, .inl (cI, 7, .inl z0)), (q_54, .inl (cI, 6, .inl z0)), (q_55, .inl (cI, 48, .inl z0)), (q_56, .inl (cI, 128, .inl z0)), (q_57, .inl (cI, 128, .inl z0)), (q_58, .inl (cI, 128, .inl z0)), (q_59, .inl (cI, 30, .inl z0))] := hD
  refine lv_aload_n hx hb dX9_init_159 rfl (lv_at hl 0 rfl) ?_
  refine va_get (D := D) (ci := 9) (v := .ref q_22) (C := RX9) (T := TX9) (N := 17) hx hb hts iX9 hown hK hP 0 rfl rfl 6 (Nat.le_of_ble_eq_true rfl) (hts _ wd_96) (fun _ h9 => h9) rfl dX9_init_160 ?_
  refine lv_aload_n hx hb dX9_init_163 rfl (lv_at hl 0 rfl) ?_
  refine va_get (D := D) (ci := 9) (v := .ref q_6) (C := RX9) (T := TX9) (N := 17) hx hb hts iX9 hown hK hP 0 rfl rfl 4 (Nat.le_of_ble_eq_true rfl) (hts _ wd_89) (fun _ h9 => h9) rfl dX9_init_164 ?_
  refine cVv (wr := [(h, .inr (9, [.ref q_1, .int 0, .int (-1), .ref q_2, .ref q_6, .ref q_14, .ref q_22, .ref q_26, .ref q_31, .ref q_35, .int 0, .ref q_36, .int 0, .ref q_41, .ref q_44, .ref q_50, .ref q_59])), (q_1, .inl (cI, 240, .inl z0)), (q_2, .inr (5, [.int 0, .int (-1), .ref u_3, .int 0, .int 0, .int 0, .int 0])), (u_3, .inl (cI, 0, .inl z0)), (q_9, .inl (cI, 6, .inl z0)), (q_10, .inl (cI, 6, .inl z0)), (q_11, .inl (cI, 30, .inl z0)), (q_12, .inl (cI, 7, .inl z0)), (q_13, .inl (cI, 7, .inl z0)), (q_14, .inr (8, [.int 0, .int 1, .int 0, .int 0, .int 0, .ref q_17, .ref q_18, .ref q_19, .ref q_20, .ref q_21])), (q_17, .inl (cI, 6, .inl z0)), (q_18, .inl (cI, 6, .inl z0)), (q_19, .inl (cI, 30, .inl z0)), (q_20, .inl (cI, 7, .inl z0)), (q_21, .inl (cI, 7, .inl z0)), (q_26, .inr (2, [.ref q_29, .int 0, .int 0])), (q_29, .inr (6, [.int 20, .ref q_30])), (q_30, .inl (cI, 820, .inl z0)), (q_31, .inr (6, [.int 2, .ref u_32])), (u_32, .inl (cI, 82, .inl z0)), (q_35, .inl (cI, 2, .inl z0)), (q_36, .inr (0, [.int 0, .ref q_39, .ref q_40])), (q_39, .inl (cI, 15, .inl z0)), (q_40, .inl (cI, 15, .inl z0)), (q_41, .inr (4, [.int 0, .int 0, .int 0, .int 0, .int 0])), (q_44, .inr (3, [.ref q_47, .ref q_48, .ref q_49])), (q_47, .inl (cI, 36, .inl z0)), (q_48, .inl (cI, 64, .inl z0)), (q_49, .inl (cI, 64, .inl z0)), (q_50, .inr (1, [.int 0, .ref q_53, .ref q_54, .ref q_55, .ref q_56, .ref q_57, .ref q_58, .int 0, .int 0, .null])), (q_53, .inl (cI, 7, .inl z0)), (q_54, .inl (cI, 6, .inl z0)), (q_55, .inl (cI, 48, .inl z0)), (q_56, .inl (cI, 128, .inl z0)), (q_57, .inl (cI, 128, .inl z0)), (q_58, .inl (cI, 128, .inl z0)), (q_59, .inl (cI, 30, .inl z0))]) (rest := []) (k_begin q_22 u_23 z0 q_6 0 1 0 0 q_9 q_10 q_11 q_12 q_13) okV_X7_begin wd_134 hx hb hml hown hts hK hP hD hS hA hN hl.1 [16, 17, 4] [0, 1, 2, 3, 5, 6, 7, 8, 9, 10, 11, 12, 13, 14, 15, 18, 19, 20, 21, 22, 23, 24, 25, 26, 27, 28, 29, 30, 31, 32, 33, 34, 35, 36, 37, 38, 39] rfl rfl rfl rfl (of_decide_eq_true rfl) rfl rfl rfl (Nat.le_of_ble_eq_true rfl) (Nat.le_of_ble_eq_true rfl) (Nat.le_of_ble_eq_true rfl) (Nat.le_of_ble_eq_true rfl) (Nat.le_of_ble_eq_true rfl) dX9_init_167 (fun u_60 H locs hw_u_60 hP hD hS => ?_)
  have hP : va_P D classes [(h, .inr (9, [.ref q_1, .int 0, .int (-1), .ref q_2, .ref q_6, .ref q_14, .ref q_22, .ref q_26, .ref q_31, .ref q_35, .int 0, .ref q_36, .int 0, .ref q_41, .ref q_44, .ref q_50, .ref q_59])), (q_1, .inl (cI, 240, .inl z0)), (q_2, .inr (5, [.int 0, .int (-1), .ref u_3, .int 0, .int 0, .int 0, .int 0])), (u_3, .inl (cI, 0, .inl z0)), (q_9, .inl (cI, 6, .inl z0)), (q_10, .inl (cI, 6, .inl z0)), (q_11, .inl (cI, 30, .inl z0)), (q_12, .inl (cI, 7, .inl z0)), (q_13, .inl (cI, 7, .inl z0)), (q_14, .inr (8, [.int 0, .int 1, .int 0, .int 0, .int 0, .ref q_17, .ref q_18, .ref q_19, .ref q_20, .ref q_21])), (q_17, .inl (cI, 6, .inl z0)), (q_18, .inl (cI, 6, .inl z0)), (q_19, .inl (cI, 30, .inl z0)), (q_20, .inl (cI, 7, .inl z0)), (q_21, .inl (cI, 7, .inl z0)), (q_26, .inr (2, [.ref q_29, .int 0, .int 0])), (q_29, .inr (6, [.int 20, .ref q_30])), (q_30, .inl (cI, 820, .inl z0)), (q_31, .inr (6, [.int 2, .ref u_32])), (u_32, .inl (cI, 82, .inl z0)), (q_35, .inl (cI, 2, .inl z0)), (q_36, .inr (0, [.int 0, .ref q_39, .ref q_40])), (q_39, .inl (cI, 15, .inl z0)), (q_40, .inl (cI, 15, .inl z0)), (q_41, .inr (4, [.int 0, .int 0, .int 0, .int 0, .int 0])), (q_44, .inr (3, [.ref q_47, .ref q_48, .ref q_49])), (q_47, .inl (cI, 36, .inl z0)), (q_48, .inl (cI, 64, .inl z0)), (q_49, .inl (cI, 64, .inl z0)), (q_50, .inr (1, [.int 0, .ref q_53, .ref q_54, .ref q_55, .ref q_56, .ref q_57, .ref q_58, .int 0, .int 0, .null])), (q_53, .inl (cI, 7, .inl z0)), (q_54, .inl (cI, 6, .inl z0)), (q_55, .inl (cI, 48, .inl z0)), (q_56, .inl (cI, 128, .inl z0)), (q_57, .inl (cI, 128, .inl z0)), (q_58, .inl (cI, 128, .inl z0)), (q_59, .inl (cI, 30, .inl z0)), (q_22, .inr (7, [.ref u_23])), (u_23, .inl (cI, 41, .inl (cB2 z0 7))), (q_6, .inr (8, [.int 0, .int 1, .int 0, .int 0, .int 0, .ref q_9, .ref q_10, .ref q_11, .ref q_12, .ref q_13]))] H := hP
  have hD : va_D A [(h, .inr (9, [.ref q_1, .int 0, .int (-1), .ref q_2, .ref q_6, .ref q_14, .ref q_22, .ref q_26, .ref q_31, .ref q_35, .int 0, .ref q_36, .int 0, .ref q_41, .ref q_44, .ref q_50, .ref q_59])), (q_1, .inl (cI, 240, .inl z0)), (q_2, .inr (5, [.int 0, .int (-1), .ref u_3, .int 0, .int 0, .int 0, .int 0])), (u_3, .inl (cI, 0, .inl z0)), (q_9, .inl (cI, 6, .inl z0)), (q_10, .inl (cI, 6, .inl z0)), (q_11, .inl (cI, 30, .inl z0)), (q_12, .inl (cI, 7, .inl z0)), (q_13, .inl (cI, 7, .inl z0)), (q_14, .inr (8, [.int 0, .int 1, .int 0, .int 0, .int 0, .ref q_17, .ref q_18, .ref q_19, .ref q_20, .ref q_21])), (q_17, .inl (cI, 6, .inl z0)), (q_18, .inl (cI, 6, .inl z0)), (q_19, .inl (cI, 30, .inl z0)), (q_20, .inl (cI, 7, .inl z0)), (q_21, .inl (cI, 7, .inl z0)), (q_26, .inr (2, [.ref q_29, .int 0, .int 0])), (q_29, .inr (6, [.int 20, .ref q_30])), (q_30, .inl (cI, 820, .inl z0)), (q_31, .inr (6, [.int 2, .ref u_32])), (u_32, .inl (cI, 82, .inl z0)), (q_35, .inl (cI, 2, .inl z0)), (q_36, .inr (0, [.int 0, .ref q_39, .ref q_40])), (q_39, .inl (cI, 15, .inl z0)), (q_40, .inl (cI, 15, .inl z0)), (q_41, .inr (4, [.int 0, .int 0, .int 0, .int 0, .int 0])), (q_44, .inr (3, [.ref q_47, .ref q_48, .ref q_49])), (q_47, .inl (cI, 36, .inl z0)), (q_48, .inl (cI, 64, .inl z0)), (q_49, .inl (cI, 64, .inl z0)), (q_50, .inr (1, [.int 0, .ref q_53, .ref q_54, .ref q_55, .ref q_56, .ref q_57, .ref q_58, .int 0, .int 0, .null])), (q_53, .inl (cI, 7, .inl z0)), (q_54, .inl (cI, 6, .inl z0)), (q_55, .inl (cI, 48, .inl z0)), (q_56, .inl (cI, 128, .inl z0)), (q_57, .inl (cI, 128, .inl z0)), (q_58, .inl (cI, 128, .inl z0)), (q_59, .inl (cI, 30, .inl z0)), (q_22, .inr (7, [.ref u_23])), (u_23, .inl (cI, 41, .inl (cB2 z0 7))), (q_6, .inr (8, [.int 0, .int 1, .int 0, .int 0, .int 0, .ref q_9, .ref q_10, .ref q_11, .ref q_12, .ref q_13]))] := hD
  refine W.widen (k := rm_k_QB_init.cells) (n := rm_k_QB_init.slots) (Nat.le_of_ble_eq_true rfl) (Nat.le_of_ble_eq_true rfl) ?_
  exact hret ⟨q_1, q_2, u_3, q_6, q_9, q_10, q_11, q_12, q_13, q_14, q_17, q_18, q_19, q_20, q_21, q_22, u_23, q_26, q_29, q_30, q_31, u_32, q_35, q_36, q_39, q_40, q_41, q_44, q_47, q_48, q_49, q_50, q_53, q_54, q_55, q_56, q_57, q_58, q_59⟩ _ _ _ _ dX9_init_170 trivial hP hD hS
end
