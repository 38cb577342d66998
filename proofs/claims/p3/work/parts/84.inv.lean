theorem permP {D : va_G} {ws ws' : va_W} {H : Heap} (h : List.Perm ws ws') (hP : va_P D classes ws H) : va_P D classes ws' H := by
  intro k q hk
  obtain ⟨i, hi⟩ := List.mem_iff_getElem?.mp (h.mem_iff.mpr (List.mem_of_getElem? hk))
  exact hP i q hi
theorem va_D_cons {A : Nat → Prop} {a : Nat × va_E} {ws : va_W} : va_D A (a :: ws) ↔ (∀ q ∈ ws, a.1 ≠ q.1) ∧ A a.1 ∧ va_D A ws := by
  constructor
  · intro h
    refine ⟨fun q hq e => ?_, h.2 0 a rfl, fun i j p q hi hj e => Nat.succ.inj (h.1 (i + 1) (j + 1) p q hi hj e), fun k q hk => h.2 (k + 1) q hk⟩
    obtain ⟨i, hi⟩ := List.mem_iff_getElem?.mp hq
    exact absurd (h.1 0 (i + 1) a q rfl hi e) (by omega)
  · intro h
    refine ⟨fun i j p q hi hj e => ?_, fun k q hk => ?_⟩
    · cases i with
      | zero =>
        cases hi
        cases j with
        | zero => rfl
        | succ j => exact absurd e (h.1 q (List.mem_of_getElem? (show ws[j]? = some q from hj)))
      | succ i =>
        cases j with
        | zero =>
          cases hj
          exact absurd e.symm (h.1 p (List.mem_of_getElem? (show ws[i]? = some p from hi)))
        | succ j => exact congrArg Nat.succ (h.2.2.1 i j p q hi hj e)
    · cases k with
      | zero => cases hk; exact h.2.1
      | succ k => exact h.2.2.2 k q hk
theorem permD {A : Nat → Prop} {ws ws' : va_W} (h : List.Perm ws ws') : va_D A ws → va_D A ws' := by
  induction h with
  | nil => exact id
  | cons x p ih =>
    intro h
    rw [va_D_cons] at h ⊢
    exact ⟨fun q hq => h.1 q (p.mem_iff.mpr hq), h.2.1, ih h.2.2⟩
  | swap x y l =>
    intro h
    rw [va_D_cons, va_D_cons] at h ⊢
    obtain ⟨h1, h2, h3, h4, h5⟩ := h
    refine ⟨fun q hq => ?_, h4, fun q hq => h1 q (List.mem_cons_of_mem _ hq), h2, h5⟩
    rcases List.mem_cons.mp hq with e | e
    · rw [e]
      exact (h1 x List.mem_cons_self).symm
    · exact h3 q e
  | trans p1 p2 ih1 ih2 => exact fun h => ih2 (ih1 h)
/-- the cell at i comes first -/
noncomputable def mv (ws : va_W) : Nat → va_W := List.rec (motive := fun _ => Nat → va_W) (fun _ => []) (fun a l ih i => Nat.rec (motive := fun _ => va_W) (a :: l) (fun j _ => List.rec (motive := fun _ => va_W) [a] (fun q r _ => q :: a :: r) (ih j)) i) ws
theorem mv_perm (ws : va_W) : ∀ i, List.Perm (mv ws i) ws := by
  induction ws with
  | nil => intro i; exact List.Perm.refl _
  | cons a l ih =>
    intro i
    cases i with
    | zero => exact List.Perm.refl _
    | succ j =>
      show List.Perm (List.rec (motive := fun _ => va_W) [a] (fun q r _ => q :: a :: r) (mv l j)) (a :: l)
      have h := ih j
      cases hm : mv l j with
      | nil =>
        rw [hm] at h
        have := h.symm.eq_nil
        subst this
        exact List.Perm.refl _
      | cons q r =>
        rw [hm] at h
        exact (List.Perm.swap a q r).trans (h.cons a)
noncomputable def mvs (is : List Nat) : va_W → va_W := List.rec (motive := fun _ => va_W → va_W) (fun ws => ws) (fun i _ ih ws => List.rec (motive := fun _ => va_W) [] (fun q r _ => q :: ih r) (mv ws i)) is
theorem mvs_perm (is : List Nat) : ∀ ws, List.Perm (mvs is ws) ws := by
  induction is with
  | nil => intro ws; exact List.Perm.refl _
  | cons i is ih =>
    intro ws
    show List.Perm (List.rec (motive := fun _ => va_W) [] (fun q r _ => q :: mvs is r) (mv ws i)) ws
    have h := mv_perm ws i
    cases hm : mv ws i with
    | nil => rw [hm] at h; exact h
    | cons q r =>
      rw [hm] at h
      exact ((ih r).cons q).trans h
theorem rot {a b c : va_W} : List.Perm ((c ++ a) ++ b) (a ++ (b ++ c)) := by
  rw [List.append_assoc, ← List.append_assoc a b c]
  exact List.perm_append_comm
theorem takeP {D : va_G} {a b : va_W} {H : Heap} (h : va_P D classes (a ++ b) H) : va_P D classes a H := fun k q hk => h k q (by rw [List.getElem?_append_left (List.getElem?_eq_some_iff.mp hk).1]; exact hk)
theorem takeD {A : Nat → Prop} {a b : va_W} (h : va_D A (a ++ b)) : va_D A a := by
  have g : ∀ (k : Nat) (q : Nat × va_E), a[k]? = some q → (a ++ b)[k]? = some q := fun k q hk => by
    rw [List.getElem?_append_left (List.getElem?_eq_some_iff.mp hk).1]
    exact hk
  exact ⟨fun i j p q hi hj e => h.1 i j p q (g i p hi) (g j q hj) e, fun k q hk => h.2 k q (g k q hk)⟩
def rfL (l : List Nat) (k : Nat) : Nat := l.getD k 0
theorem mapC (a b : va_W) : (List.range' 0 a.length).map (fun i => (a ++ b)[i]?) = a.map some := by
  apply List.ext_getElem?
  intro i
  rw [List.getElem?_map, List.getElem?_map]
  by_cases h : i < a.length
  · rw [List.getElem?_range' h, List.getElem?_eq_getElem h]
    simp [List.getElem?_append_left h, List.getElem?_eq_getElem h]
  · rw [List.getElem?_eq_none (by rw [List.length_range']; omega), List.getElem?_eq_none (by omega)]
    rfl
theorem mapR (a b : va_W) : (List.range' a.length b.length).map (fun i => (a ++ b)[i]?) = b.map some := by
  apply List.ext_getElem?
  intro i
  rw [List.getElem?_map, List.getElem?_map]
  by_cases h : i < b.length
  · rw [List.getElem?_range' h, List.getElem?_eq_getElem h]
    simp [List.getElem?_append_right, List.getElem?_eq_getElem h]
  · rw [List.getElem?_eq_none (by rw [List.length_range']; omega), List.getElem?_eq_none (by omega)]
    rfl
theorem nd_range (n : Nat) : ∀ k, va_nd (List.range' k n) = true := by
  induction n with
  | zero => intro k; rfl
  | succ n ih =>
    intro k
    rw [List.range'_succ]
    simp only [va_nd, Bool.and_eq_true, decide_eq_true_eq]
    refine ⟨fun h => ?_, ih _⟩
    have := List.mem_range'_1.mp h
    omega
section CALLA
variable {p : Program} {l : Launch} {e : Env} {R : Room} {s : State} {m : MethodId} {args : Array Value} {below : List Frame} {meth : Method} {c : Code} {H H0 : Heap} {locs : List Loc} {cells slots : Nat} {Q : State → Prop} {D : va_G} {cI cZ : ClassId} {A : Nat → Prop} {wc wr : va_W} {rm : Room} {pc : Nat} {ls : Array Slot} {st0 rest : List Value} {S : Type} {cc : ByteArray} {own : String} {y : MethodName} {bytes : ByteArray} {maxL nL index : Nat} {ret : Option FieldType} {As : List Value} {b : Nat}
theorem cVa {post : Int32 → S → Prop} {w1 : S → va_W} (hM : KI l y bytes maxL ret rm D cI cZ (.ref b :: As) H.size wc post w1) (ok : okV y bytes maxL ret As.length) (hlink : Cond.methodLink own index y ∈ BG) (hx : p.tables.exec = Jvm.exec) (hb : c.code = cc) (hml : c.maxLocals = nL) (hown : s.vm.findClass own = some m.cls) (hts : ∀ w ∈ BG, w.before args s = true) (hK : va_K D classes (TYS cI cZ) s) (hP : va_P D classes (wc ++ wr) H) (hD : va_D A (wc ++ wr)) (hS : va_S A H0 H locs) (hA : ∀ q, H0.size ≤ q → A q) (hN : zN s) (hsz : ls.size = nL) {ci : Nat} {fs : List Value} {T : u_T} {N : Nat} (hrec : wc[0]? = some (b, .inr (ci, fs))) (hcl : classes[ci]? = some (y.cls, T, N)) (hst : st0 = As.reverse ++ .ref b :: rest) (hroom : (rest.map fun v => v.category).sum ≤ 8) (hR1 : rm.frames + 1 ≤ R.frames) (hR2 : 8 + (maxL + 11) + rm.locals ≤ R.locals) (hR3 : cells + rm.cells ≤ R.cells) (hR4 : slots + rm.slots ≤ R.slots) (hdg : decode cc pc = .ok (.invokevirtual index, 3))
    (kk : ∀ (r : Int32) (u : S) (H1 : Heap) (locs1 : List Loc), post r u → va_P D classes (wr ++ w1 u) H1 → va_D A (wr ++ w1 u) → va_S A H0 H1 locs1 → W p l e R s m args below meth c H1 locs1 (cells + rm.cells) (slots + rm.slots) Q (F0 m (pc + 3) ls (.int r :: rest))) : W p l e R s m args below meth c H locs cells slots Q (F0 m pc ls st0) :=
  cVi hM ok hlink hx hb hml hown hts hK hP hD hS hA hN hsz (List.range' 0 wc.length) (List.range' wc.length wr.length) (mapC wc wr) (mapR wc wr) (nd_range _ _) (nd_range _ _) (fun i hi hj => by
    have h1 := List.mem_range'_1.mp hi
    have h2 := List.mem_range'_1.mp hj
    omega) hrec hcl hst hroom hR1 hR2 hR3 hR4 hdg kk
end CALLA
def IW (cI cZ : ClassId) (xh yh : Nat) (v_x : Nat) (v_q1 : Int32) (v_q2 : Int32) (v_rd : Nat) (v_t : Nat) (v_d : Nat) (v_nw : Nat) (v_ps : Nat) (v_im : Nat) (v_is_ : Nat) (v_q10 : Int32) (v_bk : Nat) (v_q12 : Int32) (v_qr : Nat) (v_pr : Nat) (v_cv : Nat) (v_ft : Nat) (v_ftx : Nat → Int32) (v_r0 : Int32) (v_r1 : Int32) (v_u0 : Nat) (v_r3 : Int32) (v_r4 : Int32) (v_r5 : Int32) (v_r6 : Int32) (v_t0 : Int32) (v_t1 : Int32) (v_t2 : Int32) (v_t3 : Int32) (v_t4 : Int32) (v_ta : Nat) (v_tb : Nat) (v_tc : Nat) (v_td : Nat) (v_te : Nat) (v_fta : Nat → Int32) (v_ftb : Nat → Int32) (v_ftc : Nat → Int32) (v_ftd : Nat → Int32) (v_fte : Nat → Int32) (v_d0 : Int32) (v_d1 : Int32) (v_d2 : Int32) (v_d3 : Int32) (v_d4 : Int32) (v_da : Nat) (v_db : Nat) (v_dc : Nat) (v_dd : Nat) (v_de : Nat) (v_fda : Nat → Int32) (v_fdb : Nat → Int32) (v_fdc : Nat → Int32) (v_fdd : Nat → Int32) (v_fde : Nat → Int32) (v_nwc : Nat) (v_fn : Nat → Int32) (v_sh : Nat) (v_p1 : Int32) (v_p2 : Int32) (v_shc : Nat) (v_fsh : Nat → Int32) (v_imc : Nat) (v_fim : Nat → Int32) (v_fis : Nat → Int32) (v_b0 : Int32) (v_bka : Nat) (v_bkb : Nat) (v_fba : Nat → Int32) (v_fbb : Nat → Int32) (v_k0 : Int32) (v_k1 : Int32) (v_k2 : Int32) (v_k3 : Int32) (v_k4 : Int32) (v_pra : Nat) (v_prb : Nat) (v_prc : Nat) (v_fpa : Nat → Int32) (v_fpb : Nat → Int32) (v_fpc : Nat → Int32) (v_v0 : Int32) (v_c1 : Nat) (v_c2 : Nat) (v_c3 : Nat) (v_c4 : Nat) (v_c5 : Nat) (v_c6 : Nat) (v_v7 : Int32) (v_v8 : Int32) (v_cvt : Value) (v_fc1 : Nat → Int32) (v_fc2 : Nat → Int32) (v_fc3 : Nat → Int32) (v_fc4 : Nat → Int32) (v_fc5 : Nat → Int32) (v_fc6 : Nat → Int32) (v_fft : Nat → Int32) (Rf : Nat → Nat) (G : Nat → Int32) (f0 : Nat → Int32) (f1 : Nat → Int32) (f8 : Nat → Int32) (f9 : Nat → Int32) (f10 : Nat → Int32) (f11 : Nat → Int32) (f12 : Nat → Int32) (f13 : Nat → Int32) (f27 : Nat → Int32) (f28 : Nat → Int32) (f29 : Nat → Int32) (f30 : Nat → Int32) (f31 : Nat → Int32) (f36 : Nat → Int32) (f37 : Nat → Int32) (f38 : Nat → Int32) (f39 : Nat → Int32) (f43 : Nat → Int32) (f44 : Nat → Int32) : va_W := [(xh, .inr (9, [.ref v_x, .int v_q1, .int v_q2, .ref v_rd, .ref v_t, .ref v_d, .ref v_nw, .ref v_ps, .ref v_im, .ref v_is_, .int v_q10, .ref v_bk, .int v_q12, .ref v_qr, .ref v_pr, .ref v_cv, .ref v_ft])), (v_x, .inl (cI, 240, .inl v_ftx)), (v_rd, .inr (5, [.int v_r0, .int v_r1, .ref v_u0, .int v_r3, .int v_r4, .int v_r5, .int v_r6])), (v_t, .inr (8, [.int v_t0, .int v_t1, .int v_t2, .int v_t3, .int v_t4, .ref v_ta, .ref v_tb, .ref v_tc, .ref v_td, .ref v_te])), (v_ta, .inl (cI, 6, .inl v_fta)), (v_tb, .inl (cI, 6, .inl v_ftb)), (v_tc, .inl (cI, 30, .inl v_ftc)), (v_td, .inl (cI, 7, .inl v_ftd)), (v_te, .inl (cI, 7, .inl v_fte)), (v_d, .inr (8, [.int v_d0, .int v_d1, .int v_d2, .int v_d3, .int v_d4, .ref v_da, .ref v_db, .ref v_dc, .ref v_dd, .ref v_de])), (v_da, .inl (cI, 6, .inl v_fda)), (v_db, .inl (cI, 6, .inl v_fdb)), (v_dc, .inl (cI, 30, .inl v_fdc)), (v_dd, .inl (cI, 7, .inl v_fdd)), (v_de, .inl (cI, 7, .inl v_fde)), (v_nw, .inr (7, [.ref v_nwc])), (v_nwc, .inl (cI, 41, .inl v_fn)), (v_ps, .inr (2, [.ref v_sh, .int v_p1, .int v_p2])), (v_sh, .inr (6, [.int 20, .ref v_shc])), (v_shc, .inl (cI, 820, .inl v_fsh)), (v_im, .inr (6, [.int 2, .ref v_imc])), (v_imc, .inl (cI, 82, .inl v_fim)), (v_is_, .inl (cI, 2, .inl v_fis)), (v_bk, .inr (0, [.int v_b0, .ref v_bka, .ref v_bkb])), (v_bka, .inl (cI, 15, .inl v_fba)), (v_bkb, .inl (cI, 15, .inl v_fbb)), (v_qr, .inr (4, [.int v_k0, .int v_k1, .int v_k2, .int v_k3, .int v_k4])), (v_pr, .inr (3, [.ref v_pra, .ref v_prb, .ref v_prc])), (v_pra, .inl (cI, 36, .inl v_fpa)), (v_prb, .inl (cI, 64, .inl v_fpb)), (v_prc, .inl (cI, 64, .inl v_fpc)), (v_cv, .inr (1, [.int v_v0, .ref v_c1, .ref v_c2, .ref v_c3, .ref v_c4, .ref v_c5, .ref v_c6, .int v_v7, .int v_v8, v_cvt])), (v_c1, .inl (cI, 7, .inl v_fc1)), (v_c2, .inl (cI, 6, .inl v_fc2)), (v_c3, .inl (cI, 48, .inl v_fc3)), (v_c4, .inl (cI, 128, .inl v_fc4)), (v_c5, .inl (cI, 128, .inl v_fc5)), (v_c6, .inl (cI, 128, .inl v_fc6)), (v_ft, .inl (cI, 30, .inl v_fft)), (yh, .inr (10, ML G Rf)), ((Rf 0), .inl (cI, 1302, .inl f0)), ((Rf 1), .inl (cZ, 2, .inl f1)), ((Rf 8), .inl (cI, 6, .inl f8)), ((Rf 9), .inl (cI, 6, .inl f9)), ((Rf 10), .inl (cI, 30, .inl f10)), ((Rf 11), .inl (cI, 7, .inl f11)), ((Rf 12), .inl (cI, 7, .inl f12)), ((Rf 13), .inl (cI, 240, .inl f13)), ((Rf 27), .inl (cI, 6, .inl f27)), ((Rf 28), .inl (cI, 6, .inl f28)), ((Rf 29), .inl (cI, 30, .inl f29)), ((Rf 30), .inl (cI, 7, .inl f30)), ((Rf 31), .inl (cI, 7, .inl f31)), ((Rf 36), .inl (cI, 448, .inl f36)), ((Rf 37), .inl (cI, 36, .inl f37)), ((Rf 38), .inl (cI, 8, .inl f38)), ((Rf 39), .inl (cI, 7, .inl f39)), ((Rf 43), .inl (cI, 15, .inl f43)), ((Rf 44), .inl (cI, 15, .inl f44))]
theorem keep_eq {q1 q2 q10 q12 p1 p2 i_ r r' : Int32} {fim fis fn G f0 f1 : Nat → Int32} {u : Int32 × (Nat → Int32) × (Nat → Int32) × Int32} {u' : (Nat → Int32) × (Nat → Int32) × (Nat → Int32)} (h1 : (r, u) = f_e_keep_x9 q1 q2 q10 q12 fim fis fn p1 p2 i_) (h2 : (r', u') = f_m_keep G f0 f1 i_) : r = r' := by
  unfold f_e_keep_x9 at h1
  unfold f_m_keep at h2
  by_cases c1 : f_m_in i_.toInt64 0 1 = 0
  · rw [if_pos c1] at h2
    have e2 := congrArg Prod.fst h2
    rw [i_in, Int32.toInt_toInt64] at c1
    simp only [Int64.reduceToInt] at c1
    by_cases c2 : i_ < 0
    · rw [if_pos c2] at h1
      exact (congrArg Prod.fst h1).trans e2.symm
    · rw [if_neg c2] at h1
      by_cases c3 : i_ < 2
      · simp only [i_lt, Int32.reduceToInt] at c2 c3
        omega
      · rw [if_neg c3] at h1
        exact (congrArg Prod.fst h1).trans e2.symm
  · rw [if_neg c1] at h2
    have e2 := congrArg Prod.fst h2
    rw [i_in, Int32.toInt_toInt64] at c1
    simp only [Int64.reduceToInt] at c1
    by_cases c2 : i_ < 0
    · simp only [i_lt, Int32.reduceToInt] at c2
      omega
    · rw [if_neg c2] at h1
      by_cases c3 : i_ < 2
      · rw [if_pos c3] at h1
        exact (congrArg Prod.fst h1).trans e2.symm
      · simp only [i_lt, Int32.reduceToInt] at c2 c3
        omega
theorem town_td {t : Nat} {d : Nat} {q1 : Int32} {q2 : Int32} {q10 : Int32} {q12 : Int32} {r0 : Int32} {r1 : Int32} {r3 : Int32} {r4 : Int32} {r5 : Int32} {r6 : Int32} {ftx : Nat → Int32} {d0 : Int32} {d1 : Int32} {d2 : Int32} {d3 : Int32} {d4 : Int32} {fda : Nat → Int32} {fdb : Nat → Int32} {fdc : Nat → Int32} {fdd : Nat → Int32} {fde : Nat → Int32} {fn : Nat → Int32} {p1 : Int32} {p2 : Int32} {b0 : Int32} {r : Int32} {o0 : Int32} {o1 : Int32} {o2 : Nat} {o3 : Nat} {o4 : Int32} {o5 : Int32} {o6 : Int32} {o7 : Int32} {o8 : Int32} {o9 : Int32} {o10 : Int32} {o11 : Int32} {o12 : Int32} {o13 : Int32} {o14 : Int32} {o15 : Int32} {o16 : (Nat → Int32)} {o17 : (Nat → Int32)} {o18 : (Nat → Int32)} {o19 : (Nat → Int32)} {o20 : (Nat → Int32)} {o21 : (Nat → Int32)} {o22 : Int32} {o23 : Int32} (e : (r, o0, o1, o2, o3, o4, o5, o6, o7, o8, o9, o10, o11, o12, o13, o14, o15, o16, o17, o18, o19, o20, o21, o22, o23) = f_e_town_x9 t d q1 q2 q10 q12 r0 r1 r3 r4 r5 r6 ftx d0 d1 d2 d3 d4 fda fdb fdc fdd fde fn p1 p2 b0) : (d = o2 ∧ t = o3) ∨ (t = o2 ∧ d = o3) := by
  unfold f_e_town_x9 at e
  generalize f_e_read_x5 _ _ _ _ _ _ _ _ _ _ _ _ _ _ _ _ _ _ = z at e
  obtain ⟨z0, z1, z2, z3, z4, z5, z6, z7, z8, z9, z10, z11, z12, z13, z14, z15⟩ := z
  dsimp only at e
  split at e
  · simp only [Prod.mk.injEq] at e
    obtain ⟨yr, y0, y1, y2, y3, y4, y5, y6, y7, y8, y9, y10, y11, y12, y13, y14, y15, y16, y17, y18, y19, y20, y21, y22, y23⟩ := e
    exact Or.inl ⟨y2.symm, y3.symm⟩
  · simp only [Prod.mk.injEq] at e
    obtain ⟨yr, y0, y1, y2, y3, y4, y5, y6, y7, y8, y9, y10, y11, y12, y13, y14, y15, y16, y17, y18, y19, y20, y21, y22, y23⟩ := e
    exact Or.inr ⟨y2.symm, y3.symm⟩
def G00 : Nat → Int32 := fun k => if k = 4 then 1 else if k = 19 then -1 else 0
theorem GI_00 : GI G00 := by
  unfold GI
  decide
theorem WI_z0 : WI z0 := fun _ => OKv.z
theorem RI_z0 : RI z0 := fun _ => by
  show 0 ≤ (0 : Int32).toInt ∧ (0 : Int32).toInt ≤ 5
  decide
theorem WI_fillZ (n : Nat) : WI (fillZ z0 n) := by
  induction n with
  | zero => exact WI_z0
  | succ n ih => exact WI_upd ih OKv.z
theorem ix_nI (a k : Nat) (h : a + k < 2 ^ 31) : (nI a + nI k).toNatClampNeg = a + k := by
  rw [nI_add, nI_clamp h]
theorem WI_wB (k : Nat) (hk : k ≤ 6) : WI (wB z0 k) := by
  induction k with
  | zero => exact WI_fillZ 42
  | succ k ih =>
    refine WI_upd (WI_upd (ih (by omega)) OKv.z) (OKv.out ?_)
    have := ix_nI 6 k (by omega)
    rw [show (6 : Int32) = nI 6 from rfl, this]
    omega
theorem WI_wC (k : Nat) (hk : k ≤ 7) : WI (wC z0 k) := by
  induction k with
  | zero => exact WI_wB 6 (by omega)
  | succ k ih =>
    refine WI_upd (WI_upd (ih (by omega)) (OKv.out ?_)) (OKv.out ?_)
    · have := ix_nI 27 k (by omega)
      rw [show (27 : Int32) = nI 27 from rfl, this]
      omega
    · have := ix_nI 34 k (by omega)
      rw [show (34 : Int32) = nI 34 from rfl, this]
      omega
theorem WI_w0 : WI (upd (wC z0 7) (41 : Int32).toNatClampNeg (z0 (41 : Int32).toNatClampNeg)) := WI_upd (WI_wC 7 (by omega)) (WI_z0 _)
theorem AG_00 (x y : Nat → Int32) (lo hi : Int) : AG x y (0 : Int32).toInt lo hi := fun k hk => absurd (show (k : Int) < 0 from hk) (by omega)
theorem RS_00 : RS 0 (-1) z0 z0 0 1 0 0 0 z0 z0 z0 z0 z0 z0 z0 z0 z0 z0 0 z0 z0 z0 z0 G00 := ⟨⟨rfl, rfl, rfl⟩, ⟨rfl, rfl, rfl, rfl, rfl, by decide, Or.inl rfl, AG_00 _ _ _ _, AG_00 _ _ _ _, fun c t hc _ => absurd (show (c : Int) < 0 from hc) (by omega), AG_00 _ _ _ _, AG_00 _ _ _ _⟩, ⟨rfl, rfl, rfl⟩⟩
theorem W00_v : ∀ i : Fin 42, upd (wC z0 7) (41 : Int32).toNatClampNeg (z0 (41 : Int32).toNatClampNeg) i.val = (if i.val < 6 then 0 else if i.val < 12 then -1 else if i.val < 27 then 0 else if i.val < 41 then -1 else 0) := by decide +kernel
theorem W00_s : ∀ i : Fin 41, cB2 z0 7 i.val = upd (wC z0 7) (41 : Int32).toNatClampNeg (z0 (41 : Int32).toNatClampNeg) (cx i.val) := by decide +kernel
theorem DY_00 : DY 0 0 0 0 (cB2 z0 7) z0 z0 z0 z0 G00 (upd (wC z0 7) (41 : Int32).toNatClampNeg (z0 (41 : Int32).toNatClampNeg)) := by
  have hs := W00_s
  have hv := W00_v
  generalize upd (wC z0 7) (41 : Int32).toNatClampNeg (z0 (41 : Int32).toNatClampNeg) = W at hs hv
  have v : ∀ k : Nat, k < 42 → W k = (if k < 6 then 0 else if k < 12 then -1 else if k < 27 then 0 else if k < 41 then -1 else 0) := fun k hk => hv ⟨k, hk⟩
  refine ⟨⟨fun i hi => ?_, ?_, ?_⟩, UR_nil (G := G00) (by decide) (by decide) rfl, IR_0 rfl rfl⟩
  · rw [Nat.zero_add, Nat.zero_add]
    exact hs ⟨i, hi⟩
  · unfold BI
    simp only [Nat.zero_add]
    have a : ∀ c : Nat, c < 6 → W c = 0 := fun c hc => by rw [v c (by omega), if_pos hc]
    have b : ∀ c : Nat, c < 6 → W (6 + c) = -1 := fun c hc => by rw [v _ (by omega), if_neg (by omega), if_pos (by omega)]
    have m : ∀ k : Nat, 12 ≤ k → k < 27 → W k = 0 := fun k h1 h2 => by rw [v k (by omega), if_neg (by omega), if_neg (by omega), if_pos h2]
    have t : ∀ k : Nat, 27 ≤ k → k < 41 → W k = -1 := fun k h1 h2 => by rw [v k (by omega), if_neg (by omega), if_neg (by omega), if_neg (by omega), if_pos h2]
    refine ⟨fun c hc => by rw [a c hc]; decide, fun c hc _ => ⟨a c hc, b c hc⟩, fun c hc => by rw [b c hc]; decide, fun c d hc hd _ _ => b c hc, fun c hc => by rw [m _ (by omega) (by omega)]; decide, fun c h0 h1 hh => ?_, fun v' hv _ => ⟨t _ (by omega) (by omega), t _ (by omega) (by omega)⟩, fun v' hv _ => m _ (by omega) (by omega), by rw [m 18 (by decide) (by decide)]; decide⟩
    exact a _ (clN h0 h1)
  · rw [v 41 (by decide)]
    rfl
