theorem permP {D : va_G} {ws ws' : va_W} {H : Heap} (h : List.Perm ws ws') (hP : va_P D classes ws H) : va_P D classes ws' H := by
  intro k q hk
  obtain ⟨i, hi⟩ := List.mem_iff_getElem?.mp (h.mem_iff.mpr (List.mem_of_getElem? hk))
  exact hP i q hi
theorem va_D_cons {A : Nat → Prop} {a : Nat × va_E} {ws : va_W} : va_D A (a :: ws) ↔ (∀ q ∈ ws, a.1 ≠ q.1) ∧ A a.1 ∧ va_D A ws := by
  constructor
  · intro h
    refine ⟨fun q hq e => ?_, h.2 0 a rfl, fun i j p q hi hj e => Nat.succ.inj (h.1 (i + 1) (j + 1) p q hi hj e), fun k q hk => h.2 (k + 1) q hk⟩
    obtain ⟨i, hi⟩ := List.mem_iff_getElem?.mp hq
    exact absurd (h.1 0 (i + 1) a q rfl hi e) (by omega)
  · intro h
    refine ⟨fun i j p q hi hj e => ?_, fun k q hk => ?_⟩
    · cases i with
      | zero =>
        cases hi
        cases j with
        | zero => rfl
        | succ j => exact absurd e (h.1 q (List.mem_of_getElem? (show ws[j]? = some q from hj)))
      | succ i =>
        cases j with
        | zero =>
          cases hj
          exact absurd e.symm (h.1 p (List.mem_of_getElem? (show ws[i]? = some p from hi)))
        | succ j => exact congrArg Nat.succ (h.2.2.1 i j p q hi hj e)
    · cases k with
      | zero => cases hk; exact h.2.1
      | succ k => exact h.2.2.2 k q hk
theorem permD {A : Nat → Prop} {ws ws' : va_W} (h : List.Perm ws ws') : va_D A ws → va_D A ws' := by
  induction h with
  | nil => exact id
  | cons x p ih =>
    intro h
    rw [va_D_cons] at h ⊢
    exact ⟨fun q hq => h.1 q (p.mem_iff.mpr hq), h.2.1, ih h.2.2⟩
  | swap x y l =>
    intro h
    rw [va_D_cons, va_D_cons] at h ⊢
    obtain ⟨h1, h2, h3, h4, h5⟩ := h
    refine ⟨fun q hq => ?_, h4, fun q hq => h1 q (List.mem_cons_of_mem _ hq), h2, h5⟩
    rcases List.mem_cons.mp hq with e | e
    · rw [e]
      exact (h1 x List.mem_cons_self).symm
    · exact h3 q e
  | trans p1 p2 ih1 ih2 => exact fun h => ih2 (ih1 h)
/-- the cell at i comes first -/
noncomputable def mv (ws : va_W) : Nat → va_W := List.rec (motive := fun _ => Nat → va_W) (fun _ => []) (fun a l ih i => Nat.rec (motive := fun _ => va_W) (a :: l) (fun j _ => List.rec (motive := fun _ => va_W) [a] (fun q r _ => q :: a :: r) (ih j)) i) ws
theorem mv_perm (ws : va_W) : ∀ i, List.Perm (mv ws i) ws := by
  induction ws with
  | nil => intro i; exact List.Perm.refl _
  | cons a l ih =>
    intro i
    cases i with
    | zero => exact List.Perm.refl _
    | succ j =>
      show List.Perm (List.rec (motive := fun _ => va_W) [a] (fun q r _ => q :: a :: r) (mv l j)) (a :: l)
      have h := ih j
      cases hm : mv l j with
      | nil =>
        rw [hm] at h
        have := h.symm.eq_nil
        subst this
        exact List.Perm.refl _
      | cons q r =>
        rw [hm] at h
        exact (List.Perm.swap a q r).trans (h.cons a)
noncomputable def mvs (is : List Nat) : va_W → va_W := List.rec (motive := fun _ => va_W → va_W) (fun ws => ws) (fun i _ ih ws => List.rec (motive := fun _ => va_W) [] (fun q r _ => q :: ih r) (mv ws i)) is
theorem mvs_perm (is : List Nat) : ∀ ws, List.Perm (mvs is ws) ws := by
  induction is with
  | nil => intro ws; exact List.Perm.refl _
  | cons i is ih =>
    intro ws
    show List.Perm (List.rec (motive := fun _ => va_W) [] (fun q r _ => q :: mvs is r) (mv ws i)) ws
    have h := mv_perm ws i
    cases hm : mv ws i with
    | nil => rw [hm] at h; exact h
    | cons q r =>
      rw [hm] at h
      exact ((ih r).cons q).trans h
theorem rot {a b c : va_W} : List.Perm ((c ++ a) ++ b) (a ++ (b ++ c)) := by
  rw [List.append_assoc, ← List.append_assoc a b c]
  exact List.perm_append_comm
theorem takeP {D : va_G} {a b : va_W} {H : Heap} (h : va_P D classes (a ++ b) H) : va_P D classes a H := fun k q hk => h k q (by rw [List.getElem?_append_left (List.getElem?_eq_some_iff.mp hk).1]; exact hk)
theorem takeD {A : Nat → Prop} {a b : va_W} (h : va_D A (a ++ b)) : va_D A a := by
  have g : ∀ (k : Nat) (q : Nat × va_E), a[k]? = some q → (a ++ b)[k]? = some q := fun k q hk => by
    rw [List.getElem?_append_left (List.getElem?_eq_some_iff.mp hk).1]
    exact hk
  exact ⟨fun i j p q hi hj e => h.1 i j p q (g i p hi) (g j q hj) e, fun k q hk => h.2 k q (g k q hk)⟩
def rfL (l : List Nat) (k : Nat) : Nat := l.getD k 0
theorem mapC (a b : va_W) : (List.range' 0 a.length).map (fun i => (a ++ b)[i]?) = a.map some := by
  apply List.ext_getElem?
  intro i
  rw [List.getElem?_map, List.getElem?_map]
  by_cases h : i < a.length
  · rw [List.getElem?_range' h, List.getElem?_eq_getElem h]
    simp [List.getElem?_append_left h, List.getElem?_eq_getElem h]
  · rw [List.getElem?_eq_none (by rw [List.length_range']; omega), List.getElem?_eq_none (by omega)]
    rfl
theorem mapR (a b : va_W) : (List.range' a.length b.length).map (fun i => (a ++ b)[i]?) = b.map some := by
  apply List.ext_getElem?
  intro i
  rw [List.getElem?_map, List.getElem?_map]
  by_cases h : i < b.length
  · rw [List.getElem?_range' h, List.getElem?_eq_getElem h]
    simp [List.getElem?_append_right, List.getElem?_eq_getElem h]
  · rw [List.getElem?_eq_none (by rw [List.length_range']; omega), List.getElem?_eq_none (by omega)]
    rfl
theorem nd_range (n : Nat) : ∀ k, va_nd (List.range' k n) = true := by
  induction n with
  | zero => intro k; rfl
  | succ n ih =>
    intro k
    rw [List.range'_succ]
    simp only [va_nd, Bool.and_eq_true, decide_eq_true_eq]
    refine ⟨fun h => ?_, ih _⟩
    have := List.mem_range'_1.mp h
    omega
section CALLA
variable {p : Program} {l : Launch} {e : Env} {R : Room} {s : State} {m : MethodId} {args : Array Value} {below : List Frame} {meth : Method} {c : Code} {H H0 : Heap} {locs : List Loc} {cells slots : Nat} {Q : State → Prop} {D : va_G} {cI cZ : ClassId} {A : Nat → Prop} {wc wr : va_W} {rm : Room} {pc : Nat} {ls : Array Slot} {st0 rest : List Value} {S : Type} {cc : ByteArray} {own : String} {y : MethodName} {bytes : ByteArray} {maxL nL index : Nat} {ret : Option FieldType} {As : List Value} {b : Nat}
theorem cVa {post : Int32 → S → Prop} {w1 : S → va_W} (hM : KI l y bytes maxL ret rm D cI cZ (.ref b :: As) H.size wc post w1) (ok : okV y bytes maxL ret As.length) (hlink : Cond.methodLink own index y ∈ BG) (hx : p.tables.exec = Jvm.exec) (hb : c.code = cc) (hml : c.maxLocals = nL) (hown : s.vm.findClass own = some m.cls) (hts : ∀ w ∈ BG, w.before args s = true) (hK : va_K D classes (TYS cI cZ) s) (hP : va_P D classes (wc ++ wr) H) (hD : va_D A (wc ++ wr)) (hS : va_S A H0 H locs) (hA : ∀ q, H0.size ≤ q → A q) (hN : zN s) (hsz : ls.size = nL) {ci : Nat} {fs : List Value} {T : u_T} {N : Nat} (hrec : wc[0]? = some (b, .inr (ci, fs))) (hcl : classes[ci]? = some (y.cls, T, N)) (hst : st0 = As.reverse ++ .ref b :: rest) (hroom : (rest.map fun v => v.category).sum ≤ 8) (hR1 : rm.frames + 1 ≤ R.frames) (hR2 : 8 + (maxL + 11) + rm.locals ≤ R.locals) (hR3 : cells + rm.cells ≤ R.cells) (hR4 : slots + rm.slots ≤ R.slots) (hdg : decode cc pc = .ok (.invokevirtual index, 3))
    (kk : ∀ (r : Int32) (u : S) (H1 : Heap) (locs1 : List Loc), post r u → va_P D classes (wr ++ w1 u) H1 → va_D A (wr ++ w1 u) → va_S A H0 H1 locs1 → W p l e R s m args below meth c H1 locs1 (cells + rm.cells) (slots + rm.slots) Q (F0 m (pc + 3) ls (.int r :: rest))) : W p l e R s m args below meth c H locs cells slots Q (F0 m pc ls st0) :=
  cVi hM ok hlink hx hb hml hown hts hK hP hD hS hA hN hsz (List.range' 0 wc.length) (List.range' wc.length wr.length) (mapC wc wr) (mapR wc wr) (nd_range _ _) (nd_range _ _) (fun i hi hj => by
    have h1 := List.mem_range'_1.mp hi
    have h2 := List.mem_range'_1.mp hj
    omega) hrec hcl hst hroom hR1 hR2 hR3 hR4 hdg kk
end CALLA
theorem keep_eq {q1 q2 q10 q12 p1 p2 i_ r r' : Int32} {fim fis fn G f0 f1 : Nat → Int32} {u : Int32 × (Nat → Int32) × (Nat → Int32) × Int32} {u' : (Nat → Int32) × (Nat → Int32) × (Nat → Int32)} (h1 : (r, u) = f_e_keep_x9 q1 q2 q10 q12 fim fis fn p1 p2 i_) (h2 : (r', u') = f_m_keep G f0 f1 i_) : r = r' := by
  unfold f_e_keep_x9 at h1
  unfold f_m_keep at h2
  by_cases c1 : f_m_in i_.toInt64 0 1 = 0
  · rw [if_pos c1] at h2
    have e2 := congrArg Prod.fst h2
    rw [i_in, Int32.toInt_toInt64] at c1
    simp only [Int64.reduceToInt] at c1
    by_cases c2 : i_ < 0
    · rw [if_pos c2] at h1
      exact (congrArg Prod.fst h1).trans e2.symm
    · rw [if_neg c2] at h1
      by_cases c3 : i_ < 2
      · simp only [i_lt, Int32.reduceToInt] at c2 c3
        omega
      · rw [if_neg c3] at h1
        exact (congrArg Prod.fst h1).trans e2.symm
  · rw [if_neg c1] at h2
    have e2 := congrArg Prod.fst h2
    rw [i_in, Int32.toInt_toInt64] at c1
    simp only [Int64.reduceToInt] at c1
    by_cases c2 : i_ < 0
    · simp only [i_lt, Int32.reduceToInt] at c2
      omega
    · rw [if_neg c2] at h1
      by_cases c3 : i_ < 2
      · rw [if_pos c3] at h1
        exact (congrArg Prod.fst h1).trans e2.symm
      · simp only [i_lt, Int32.reduceToInt] at c2 c3
        omega
theorem town_td {t : Nat} {d : Nat} {q1 : Int32} {q2 : Int32} {q10 : Int32} {q12 : Int32} {r0 : Int32} {r1 : Int32} {r3 : Int32} {r4 : Int32} {r5 : Int32} {r6 : Int32} {ftx : Nat → Int32} {d0 : Int32} {d1 : Int32} {d2 : Int32} {d3 : Int32} {d4 : Int32} {fda : Nat → Int32} {fdb : Nat → Int32} {fdc : Nat → Int32} {fdd : Nat → Int32} {fde : Nat → Int32} {fn : Nat → Int32} {p1 : Int32} {p2 : Int32} {b0 : Int32} {r : Int32} {o0 : Int32} {o1 : Int32} {o2 : Nat} {o3 : Nat} {o4 : Int32} {o5 : Int32} {o6 : Int32} {o7 : Int32} {o8 : Int32} {o9 : Int32} {o10 : Int32} {o11 : Int32} {o12 : Int32} {o13 : Int32} {o14 : Int32} {o15 : Int32} {o16 : (Nat → Int32)} {o17 : (Nat → Int32)} {o18 : (Nat → Int32)} {o19 : (Nat → Int32)} {o20 : (Nat → Int32)} {o21 : (Nat → Int32)} {o22 : Int32} {o23 : Int32} (e : (r, o0, o1, o2, o3, o4, o5, o6, o7, o8, o9, o10, o11, o12, o13, o14, o15, o16, o17, o18, o19, o20, o21, o22, o23) = f_e_town_x9 t d q1 q2 q10 q12 r0 r1 r3 r4 r5 r6 ftx d0 d1 d2 d3 d4 fda fdb fdc fdd fde fn p1 p2 b0) : (d = o2 ∧ t = o3) ∨ (t = o2 ∧ d = o3) := by
  unfold f_e_town_x9 at e
  generalize f_e_read_x5 _ _ _ _ _ _ _ _ _ _ _ _ _ _ _ _ _ _ = z at e
  obtain ⟨z0, z1, z2, z3, z4, z5, z6, z7, z8, z9, z10, z11, z12, z13, z14, z15⟩ := z
  dsimp only at e
  split at e
  · simp only [Prod.mk.injEq] at e
    obtain ⟨yr, y0, y1, y2, y3, y4, y5, y6, y7, y8, y9, y10, y11, y12, y13, y14, y15, y16, y17, y18, y19, y20, y21, y22, y23⟩ := e
    exact Or.inl ⟨y2.symm, y3.symm⟩
  · simp only [Prod.mk.injEq] at e
    obtain ⟨yr, y0, y1, y2, y3, y4, y5, y6, y7, y8, y9, y10, y11, y12, y13, y14, y15, y16, y17, y18, y19, y20, y21, y22, y23⟩ := e
    exact Or.inr ⟨y2.symm, y3.symm⟩
def G00 : Nat → Int32 := fun k => if k = 4 then 1 else if k = 19 then -1 else 0
theorem GI_00 : GI G00 := by
  unfold GI
  decide
theorem WI_z0 : WI z0 := fun _ => OKv.z
theorem RI_z0 : RI z0 := fun _ => by
  show 0 ≤ (0 : Int32).toInt ∧ (0 : Int32).toInt ≤ 5
  decide
theorem WI_fillZ (n : Nat) : WI (fillZ z0 n) := by
  induction n with
  | zero => exact WI_z0
  | succ n ih => exact WI_upd ih OKv.z
theorem ix_nI (a k : Nat) (h : a + k < 2 ^ 31) : (nI a + nI k).toNatClampNeg = a + k := by
  rw [nI_add, nI_clamp h]
theorem WI_wB (k : Nat) (hk : k ≤ 6) : WI (wB z0 k) := by
  induction k with
  | zero => exact WI_fillZ 42
  | succ k ih =>
    refine WI_upd (WI_upd (ih (by omega)) OKv.z) (OKv.out ?_)
    have := ix_nI 6 k (by omega)
    rw [show (6 : Int32) = nI 6 from rfl, this]
    omega
theorem WI_wC (k : Nat) (hk : k ≤ 7) : WI (wC z0 k) := by
  induction k with
  | zero => exact WI_wB 6 (by omega)
  | succ k ih =>
    refine WI_upd (WI_upd (ih (by omega)) (OKv.out ?_)) (OKv.out ?_)
    · have := ix_nI 27 k (by omega)
      rw [show (27 : Int32) = nI 27 from rfl, this]
      omega
    · have := ix_nI 34 k (by omega)
      rw [show (34 : Int32) = nI 34 from rfl, this]
      omega
theorem WI_w0 : WI (upd (wC z0 7) (41 : Int32).toNatClampNeg (z0 (41 : Int32).toNatClampNeg)) := WI_upd (WI_wC 7 (by omega)) (WI_z0 _)
