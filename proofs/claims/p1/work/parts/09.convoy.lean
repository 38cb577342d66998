theorem dX1_minuteBehind_0 : decode cX1_minuteBehind 0 = .ok (.aload_n 0, 1) := by decide +kernel
theorem dX1_minuteBehind_1 : decode cX1_minuteBehind 1 = .ok (.getfield 40, 3) := by decide +kernel
theorem dX1_minuteBehind_4 : decode cX1_minuteBehind 4 = .ok (.ifnull 14, 3) := by decide +kernel
theorem dX1_minuteBehind_7 : decode cX1_minuteBehind 7 = .ok (.iload_n 1, 1) := by decide +kernel
theorem dX1_minuteBehind_8 : decode cX1_minuteBehind 8 = .ok (.aload_n 0, 1) := by decide +kernel
theorem dX1_minuteBehind_9 : decode cX1_minuteBehind 9 = .ok (.getfield 34, 3) := by decide +kernel
theorem dX1_minuteBehind_12 : decode cX1_minuteBehind 12 = .ok (.iconst (-1), 1) := by decide +kernel
theorem dX1_minuteBehind_13 : decode cX1_minuteBehind 13 = .ok (.ixor, 1) := by decide +kernel
theorem dX1_minuteBehind_14 : decode cX1_minuteBehind 14 = .ok (.iand, 1) := by decide +kernel
theorem dX1_minuteBehind_15 : decode cX1_minuteBehind 15 = .ok (.ifCond .eq 5, 3) := by decide +kernel
theorem dX1_minuteBehind_20 : decode cX1_minuteBehind 20 = .ok (.aload_n 0, 1) := by decide +kernel
theorem dX1_minuteBehind_21 : decode cX1_minuteBehind 21 = .ok (.getfield 37, 3) := by decide +kernel
theorem dX1_minuteBehind_24 : decode cX1_minuteBehind 24 = .ok (.istore_n 2, 1) := by decide +kernel
theorem dX1_minuteBehind_25 : decode cX1_minuteBehind 25 = .ok (.iconst 0, 1) := by decide +kernel
theorem dX1_minuteBehind_26 : decode cX1_minuteBehind 26 = .ok (.istore_n 3, 1) := by decide +kernel
theorem dX1_minuteBehind_27 : decode cX1_minuteBehind 27 = .ok (.iload_n 3, 1) := by decide +kernel
theorem dX1_minuteBehind_28 : decode cX1_minuteBehind 28 = .ok (.aload_n 0, 1) := by decide +kernel
theorem dX1_minuteBehind_29 : decode cX1_minuteBehind 29 = .ok (.getfield 40, 3) := by decide +kernel
theorem wd_168 : Cond.fieldLink RX1 83 "QuarrelBridges$Town" "bridges" "I" ∈ BG := BG_in (by decide +kernel) rfl
theorem dX1_minuteBehind_32 : decode cX1_minuteBehind 32 = .ok (.getfield 83, 3) := by decide +kernel
theorem dX1_minuteBehind_35 : decode cX1_minuteBehind 35 = .ok (.if_icmp .ge 95, 3) := by decide +kernel
theorem dX1_minuteBehind_130 : decode cX1_minuteBehind 130 = .ok (.iload_n 2, 1) := by decide +kernel
theorem dX1_minuteBehind_131 : decode cX1_minuteBehind 131 = .ok (.ireturn, 1) := by decide +kernel
theorem dX1_minuteBehind_18 : decode cX1_minuteBehind 18 = .ok (.iconst (-1), 1) := by decide +kernel
theorem dX1_minuteBehind_19 : decode cX1_minuteBehind 19 = .ok (.ireturn, 1) := by decide +kernel
theorem dX1_weigh_0 : decode cX1_weigh 0 = .ok (.iload_n 1, 1) := by decide +kernel
theorem dX1_weigh_1 : decode cX1_weigh 1 = .ok (.iconst 1, 1) := by decide +kernel
theorem dX1_weigh_2 : decode cX1_weigh 2 = .ok (.iload_n 2, 1) := by decide +kernel
theorem dX1_weigh_3 : decode cX1_weigh 3 = .ok (.ishl, 1) := by decide +kernel
theorem dX1_weigh_4 : decode cX1_weigh 4 = .ok (.ior, 1) := by decide +kernel
theorem dX1_weigh_5 : decode cX1_weigh 5 = .ok (.istore_n 3, 1) := by decide +kernel
theorem dX1_weigh_6 : decode cX1_weigh 6 = .ok (.aload_n 0, 1) := by decide +kernel
theorem dX1_weigh_7 : decode cX1_weigh 7 = .ok (.getfield 25, 3) := by decide +kernel
theorem dX1_weigh_10 : decode cX1_weigh 10 = .ok (.iload_n 3, 1) := by decide +kernel
theorem dX1_weigh_11 : decode cX1_weigh 11 = .ok (.invokestatic 65, 3) := by decide +kernel
theorem dX1_weigh_14 : decode cX1_weigh 14 = .ok (.istore 4, 2) := by decide +kernel
theorem dX1_weigh_16 : decode cX1_weigh 16 = .ok (.aload_n 0, 1) := by decide +kernel
theorem dX1_weigh_17 : decode cX1_weigh 17 = .ok (.getfield 40, 3) := by decide +kernel
theorem dX1_weigh_20 : decode cX1_weigh 20 = .ok (.ifnull 14, 3) := by decide +kernel
theorem dX1_weigh_23 : decode cX1_weigh 23 = .ok (.iload_n 3, 1) := by decide +kernel
theorem dX1_weigh_24 : decode cX1_weigh 24 = .ok (.iload_n 1, 1) := by decide +kernel
theorem dX1_weigh_25 : decode cX1_weigh 25 = .ok (.if_icmp .eq 9, 3) := by decide +kernel
theorem dX1_weigh_34 : decode cX1_weigh 34 = .ok (.return_, 1) := by decide +kernel
theorem dX1_weigh_28 : decode cX1_weigh 28 = .ok (.iload 4, 2) := by decide +kernel
theorem dX1_weigh_30 : decode cX1_weigh 30 = .ok (.iconst (-1), 1) := by decide +kernel
theorem dX1_weigh_31 : decode cX1_weigh 31 = .ok (.if_icmp .ne 4, 3) := by decide +kernel
theorem dX1_layOutRow_0 : decode cX1_layOutRow 0 = .ok (.iconst 0, 1) := by decide +kernel
theorem dX1_layOutRow_1 : decode cX1_layOutRow 1 = .ok (.istore_n 1, 1) := by decide +kernel
theorem dX1_layOutRow_2 : decode cX1_layOutRow 2 = .ok (.aload_n 0, 1) := by decide +kernel
theorem dX1_layOutRow_3 : decode cX1_layOutRow 3 = .ok (.iconst 0, 1) := by decide +kernel
theorem dX1_layOutRow_4 : decode cX1_layOutRow 4 = .ok (.putfield 9, 3) := by decide +kernel
theorem dX1_layOutRow_7 : decode cX1_layOutRow 7 = .ok (.iconst 0, 1) := by decide +kernel
theorem dX1_layOutRow_8 : decode cX1_layOutRow 8 = .ok (.istore_n 2, 1) := by decide +kernel
theorem dX1_layOutRow_9 : decode cX1_layOutRow 9 = .ok (.iload_n 2, 1) := by decide +kernel
theorem dX1_layOutRow_10 : decode cX1_layOutRow 10 = .ok (.bipush 7, 2) := by decide +kernel
theorem dX1_layOutRow_12 : decode cX1_layOutRow 12 = .ok (.if_icmp .ge 58, 3) := by decide +kernel
theorem dX1_layOutRow_15 : decode cX1_layOutRow 15 = .ok (.aload_n 0, 1) := by decide +kernel
theorem dX1_layOutRow_16 : decode cX1_layOutRow 16 = .ok (.getfield 31, 3) := by decide +kernel
theorem dX1_layOutRow_19 : decode cX1_layOutRow 19 = .ok (.iload_n 1, 1) := by decide +kernel
theorem dX1_layOutRow_20 : decode cX1_layOutRow 20 = .ok (.invokestatic 65, 3) := by decide +kernel
theorem dX1_layOutRow_23 : decode cX1_layOutRow 23 = .ok (.iconst (-1), 1) := by decide +kernel
theorem dX1_layOutRow_24 : decode cX1_layOutRow 24 = .ok (.if_icmp .eq 46, 3) := by decide +kernel
theorem dX1_layOutRow_70 : decode cX1_layOutRow 70 = .ok (.return_, 1) := by decide +kernel
theorem dX1_solve_0 : decode cX1_solve 0 = .ok (.bipush 127, 2) := by decide +kernel
theorem dX1_solve_2 : decode cX1_solve 2 = .ok (.istore_n 1, 1) := by decide +kernel
theorem dX1_solve_3 : decode cX1_solve 3 = .ok (.iload_n 1, 1) := by decide +kernel
theorem dX1_solve_4 : decode cX1_solve 4 = .ok (.ifCond .lt 60, 3) := by decide +kernel
theorem dX1_solve_64 : decode cX1_solve 64 = .ok (.aload_n 0, 1) := by decide +kernel
theorem dX1_solve_65 : decode cX1_solve 65 = .ok (.invokevirtual 80, 3) := by decide +kernel
theorem wd_169 : Cond.methodLink RX1 80 yX1_layOutRow ∈ BG := BG_in (by decide +kernel) rfl
theorem wd_170 : Cond.code yX1_layOutRow cX1_layOutRow 4 none ∈ BG := BG_in (by decide +kernel) rfl
theorem wd_171 : Cond.instanceMethod yX1_layOutRow ∈ BG := BG_in (by decide +kernel) rfl
theorem wd_172 : Cond.selects RX1 yX1_layOutRow yX1_layOutRow ∈ BG := BG_in (by decide +kernel) rfl
theorem okV_X1_layOutRow : okV yX1_layOutRow cX1_layOutRow 4 none 0 := ⟨⟨wd_170, wd_129, by decide +kernel⟩, wd_171, wd_172⟩
theorem dX1_solve_68 : decode cX1_solve 68 = .ok (.return_, 1) := by decide +kernel
theorem dX1_solve_7 : decode cX1_solve 7 = .ok (.aload_n 0, 1) := by decide +kernel
theorem dX1_solve_8 : decode cX1_solve 8 = .ok (.getfield 25, 3) := by decide +kernel
theorem dX1_solve_11 : decode cX1_solve 11 = .ok (.iload_n 1, 1) := by decide +kernel
theorem dX1_solve_12 : decode cX1_solve 12 = .ok (.aload_n 0, 1) := by decide +kernel
theorem dX1_solve_13 : decode cX1_solve 13 = .ok (.iload_n 1, 1) := by decide +kernel
theorem dX1_solve_14 : decode cX1_solve 14 = .ok (.invokevirtual 73, 3) := by decide +kernel
theorem wd_173 : Cond.methodLink RX1 73 yX1_minuteBehind ∈ BG := BG_in (by decide +kernel) rfl
theorem wd_174 : Cond.code yX1_minuteBehind cX1_minuteBehind 6 (some .int) ∈ BG := BG_in (by decide +kernel) rfl
theorem wd_175 : Cond.instanceMethod yX1_minuteBehind ∈ BG := BG_in (by decide +kernel) rfl
theorem wd_176 : Cond.selects RX1 yX1_minuteBehind yX1_minuteBehind ∈ BG := BG_in (by decide +kernel) rfl
theorem okV_X1_minuteBehind : okV yX1_minuteBehind cX1_minuteBehind 6 (some .int) 1 := ⟨⟨wd_174, wd_129, by decide +kernel⟩, wd_175, wd_176⟩
theorem dX1_solve_17 : decode cX1_solve 17 = .ok (.invokestatic 69, 3) := by decide +kernel
theorem dX1_solve_20 : decode cX1_solve 20 = .ok (.aload_n 0, 1) := by decide +kernel
theorem dX1_solve_21 : decode cX1_solve 21 = .ok (.getfield 28, 3) := by decide +kernel
theorem dX1_solve_24 : decode cX1_solve 24 = .ok (.iload_n 1, 1) := by decide +kernel
theorem dX1_solve_25 : decode cX1_solve 25 = .ok (.iconst 0, 1) := by decide +kernel
theorem dX1_solve_26 : decode cX1_solve 26 = .ok (.invokestatic 69, 3) := by decide +kernel
theorem dX1_solve_29 : decode cX1_solve 29 = .ok (.aload_n 0, 1) := by decide +kernel
theorem dX1_solve_30 : decode cX1_solve 30 = .ok (.getfield 31, 3) := by decide +kernel
theorem dX1_solve_33 : decode cX1_solve 33 = .ok (.iload_n 1, 1) := by decide +kernel
theorem dX1_solve_34 : decode cX1_solve 34 = .ok (.iconst (-1), 1) := by decide +kernel
theorem dX1_solve_35 : decode cX1_solve 35 = .ok (.invokestatic 69, 3) := by decide +kernel
theorem dX1_solve_38 : decode cX1_solve 38 = .ok (.iconst 0, 1) := by decide +kernel
theorem dX1_solve_39 : decode cX1_solve 39 = .ok (.istore_n 2, 1) := by decide +kernel
theorem dX1_solve_40 : decode cX1_solve 40 = .ok (.iload_n 2, 1) := by decide +kernel
theorem dX1_solve_41 : decode cX1_solve 41 = .ok (.bipush 7, 2) := by decide +kernel
theorem dX1_solve_43 : decode cX1_solve 43 = .ok (.if_icmp .ge 15, 3) := by decide +kernel
theorem dX1_solve_58 : decode cX1_solve 58 = .ok (.iinc 1 (-1), 3) := by decide +kernel
theorem dX1_solve_61 : decode cX1_solve 61 = .ok (.goto (-58), 3) := by decide +kernel
theorem dX1_solve_46 : decode cX1_solve 46 = .ok (.aload_n 0, 1) := by decide +kernel
theorem dX1_solve_47 : decode cX1_solve 47 = .ok (.iload_n 1, 1) := by decide +kernel
theorem dX1_solve_48 : decode cX1_solve 48 = .ok (.iload_n 2, 1) := by decide +kernel
theorem dX1_solve_49 : decode cX1_solve 49 = .ok (.invokevirtual 76, 3) := by decide +kernel
theorem wd_177 : Cond.methodLink RX1 76 yX1_weigh ∈ BG := BG_in (by decide +kernel) rfl
theorem wd_178 : Cond.code yX1_weigh cX1_weigh 6 none ∈ BG := BG_in (by decide +kernel) rfl
theorem wd_179 : Cond.instanceMethod yX1_weigh ∈ BG := BG_in (by decide +kernel) rfl
theorem wd_180 : Cond.selects RX1 yX1_weigh yX1_weigh ∈ BG := BG_in (by decide +kernel) rfl
theorem okV_X1_weigh : okV yX1_weigh cX1_weigh 6 none 2 := ⟨⟨wd_178, wd_129, by decide +kernel⟩, wd_179, wd_180⟩
theorem dX1_solve_52 : decode cX1_solve 52 = .ok (.iinc 2 1, 3) := by decide +kernel
theorem dX1_solve_55 : decode cX1_solve 55 = .ok (.goto (-15), 3) := by decide +kernel
theorem dX1_gather_0 : decode cX1_gather 0 = .ok (.aload_n 0, 1) := by decide +kernel
theorem dX1_gather_1 : decode cX1_gather 1 = .ok (.aload_n 1, 1) := by decide +kernel
theorem dX1_gather_2 : decode cX1_gather 2 = .ok (.putfield 40, 3) := by decide +kernel
theorem dX1_gather_5 : decode cX1_gather 5 = .ok (.aload_n 0, 1) := by decide +kernel
theorem dX1_gather_6 : decode cX1_gather 6 = .ok (.aload_n 2, 1) := by decide +kernel
theorem dX1_gather_7 : decode cX1_gather 7 = .ok (.invokevirtual 44, 3) := by decide +kernel
theorem wd_181 : Cond.methodLink RX1 44 yX7_minutes ∈ BG := BG_in (by decide +kernel) rfl
theorem wd_182 : Cond.code yX7_minutes cX7_minutes 1 (some .int) ∈ BG := BG_in (by decide +kernel) rfl
theorem wd_183 : Cond.instanceMethod yX7_minutes ∈ BG := BG_in (by decide +kernel) rfl
theorem wd_184 : Cond.selects RX7 yX7_minutes yX7_minutes ∈ BG := BG_in (by decide +kernel) rfl
theorem okV_X7_minutes : okV yX7_minutes cX7_minutes 1 (some .int) 0 := ⟨⟨wd_182, wd_93, by decide +kernel⟩, wd_183, wd_184⟩
theorem dX1_gather_10 : decode cX1_gather 10 = .ok (.putfield 37, 3) := by decide +kernel
theorem dX1_gather_13 : decode cX1_gather 13 = .ok (.aload_n 0, 1) := by decide +kernel
theorem dX1_gather_14 : decode cX1_gather 14 = .ok (.aload_n 2, 1) := by decide +kernel
theorem dX1_gather_15 : decode cX1_gather 15 = .ok (.iconst 0, 1) := by decide +kernel
theorem dX1_gather_16 : decode cX1_gather 16 = .ok (.invokevirtual 50, 3) := by decide +kernel
theorem wd_185 : Cond.methodLink RX1 50 yX7_bargesOfFate ∈ BG := BG_in (by decide +kernel) rfl
theorem wd_186 : Cond.code yX7_bargesOfFate cX7_bargesOfFate 4 (some .int) ∈ BG := BG_in (by decide +kernel) rfl
theorem wd_187 : Cond.instanceMethod yX7_bargesOfFate ∈ BG := BG_in (by decide +kernel) rfl
theorem wd_188 : Cond.selects RX7 yX7_bargesOfFate yX7_bargesOfFate ∈ BG := BG_in (by decide +kernel) rfl
theorem okV_X7_bargesOfFate : okV yX7_bargesOfFate cX7_bargesOfFate 4 (some .int) 1 := ⟨⟨wd_186, wd_93, by decide +kernel⟩, wd_187, wd_188⟩
theorem dX1_gather_19 : decode cX1_gather 19 = .ok (.iconst 1, 1) := by decide +kernel
theorem dX1_gather_20 : decode cX1_gather 20 = .ok (.aload_n 1, 1) := by decide +kernel
theorem wd_189 : Cond.fieldLink RX1 54 "QuarrelBridges$Town" "barges" "I" ∈ BG := BG_in (by decide +kernel) rfl
theorem dX1_gather_21 : decode cX1_gather 21 = .ok (.getfield 54, 3) := by decide +kernel
theorem dX1_gather_24 : decode cX1_gather 24 = .ok (.ishl, 1) := by decide +kernel
theorem dX1_gather_25 : decode cX1_gather 25 = .ok (.iconst 1, 1) := by decide +kernel
theorem dX1_gather_26 : decode cX1_gather 26 = .ok (.isub, 1) := by decide +kernel
theorem dX1_gather_27 : decode cX1_gather 27 = .ok (.iand, 1) := by decide +kernel
theorem dX1_gather_28 : decode cX1_gather 28 = .ok (.putfield 34, 3) := by decide +kernel
theorem dX1_gather_31 : decode cX1_gather 31 = .ok (.aload_n 0, 1) := by decide +kernel
theorem dX1_gather_32 : decode cX1_gather 32 = .ok (.getfield 19, 3) := by decide +kernel
theorem dX1_gather_35 : decode cX1_gather 35 = .ok (.iconst 0, 1) := by decide +kernel
theorem dX1_gather_36 : decode cX1_gather 36 = .ok (.invokestatic 59, 3) := by decide +kernel
theorem wd_190 : Cond.methodLink RX1 59 yJ7_fill_53178 ∈ BG := BG_in (by decide +kernel) rfl
theorem dX1_gather_39 : decode cX1_gather 39 = .ok (.aload_n 0, 1) := by decide +kernel
theorem dX1_gather_40 : decode cX1_gather 40 = .ok (.getfield 22, 3) := by decide +kernel
theorem dX1_gather_43 : decode cX1_gather 43 = .ok (.iconst 0, 1) := by decide +kernel
theorem dX1_gather_44 : decode cX1_gather 44 = .ok (.invokestatic 59, 3) := by decide +kernel
theorem dX1_gather_47 : decode cX1_gather 47 = .ok (.return_, 1) := by decide +kernel
def gF (k : Nat) : Int32 := 127 - nI k
theorem gF_dec (k : Nat) : gF k + Int32.ofInt (-1) = gF (k + 1) := by
  show 127 - nI k + -1 = 127 - nI (k + 1)
  rw [nI_succ, Int32.sub_eq_add_neg, Int32.sub_eq_add_neg, Int32.neg_add, Int32.sub_eq_add_neg, Int32.add_assoc]
theorem gF_nI : ∀ k : Fin 128, gF k.1 = nI (127 - k.1) := by decide +kernel
def mbF (g : Int32) : Int32 := if (g &&& (-1)) = 0 then 0 else -1
theorem mbF_nI : ∀ k : Fin 128, mbF (gF k.1) = if 127 - k.1 = 0 then 0 else -1 := by decide +kernel
def bB (f : Nat → Int32) : Nat → Nat → Int32
  | 0 => f
  | k + 1 => putF 128 (bB f k) (gF k) (mbF (gF k))
def mM (f : Nat → Int32) : Nat → Nat → Int32
  | 0 => f
  | k + 1 => putF 128 (mM f k) (gF k) 0
def cC (f : Nat → Int32) : Nat → Nat → Int32
  | 0 => f
  | k + 1 => putF 128 (cC f k) (gF k) (-1)
theorem bB_at (f : Nat → Int32) : ∀ k, k ≤ 128 → ∀ i, 128 - k ≤ i → i < 128 → i ≠ 0 → bB f k i = -1
  | 0, _, i, h1, h2, _ => absurd h1 (by omega)
  | k + 1, hk, i, h1, h2, h3 => by
    have e1 := gF_nI ⟨k, by omega⟩
    have e2 := mbF_nI ⟨k, by omega⟩
    have hin : vp_in (gF k) 128 := by rw [e1]; exact nI_in (by omega) (by decide)
    show putF 128 (bB f k) (gF k) (mbF (gF k)) i = -1
    rw [← putF_in hin, e2, e1, nI_clamp (by omega)]
    unfold upd
    by_cases hi : i = 127 - k
    · rw [if_pos hi, if_neg (by show ¬ (127 - k = 0); omega)]
    · rw [if_neg hi]
      exact bB_at f k (by omega) i (by omega) h2 h3
theorem wq_dec : ∀ (k : Fin 128) (j : Fin 7), (gF k.1 ||| (1 <<< (nI j.1 &&& 31))) = gF k.1 ∨ (¬ ((gF k.1 ||| (1 <<< (nI j.1 &&& 31))) < 0) ∧ 128 - (k.1 + 1) ≤ (gF k.1 ||| (1 <<< (nI j.1 &&& 31))).toNatClampNeg ∧ (gF k.1 ||| (1 <<< (nI j.1 &&& 31))).toNatClampNeg < 128 ∧ (gF k.1 ||| (1 <<< (nI j.1 &&& 31))).toNatClampNeg ≠ 0) := by decide +kernel
theorem wq (f : Nat → Int32) {k j : Nat} (hk : k < 128) (hj : j < 7) : (gF k ||| (1 <<< (nI j &&& 31))) = gF k ∨ atF 128 (putF 128 (bB f k) (gF k) (mbF (gF k))) (gF k ||| (1 <<< (nI j &&& 31))) = -1 := by
  rcases wq_dec ⟨k, hk⟩ ⟨j, hj⟩ with h | ⟨h1, h2, h3, h4⟩
  · exact Or.inl h
  · refine Or.inr ?_
    rw [← atF_in (show vp_in _ 128 from fun h => h.elim h1 (by omega))]
    exact bB_at f (k + 1) (by omega) _ h2 h3 h4
theorem cC_0 : atF 128 (cC z0 128) 0 = -1 := by decide +kernel
theorem gF_lt {k : Nat} (h : k < 128) : ¬ gF k < 0 := by
  rw [gF_nI ⟨k, h⟩]
  exact nI_pos (by omega)
def rm_k_minuteBehind : Room := { frames := 0, cells := 0, slots := 0, locals := 0 }
set_option maxHeartbeats 4000000 in
set_option maxRecDepth 100000 in
theorem k_minuteBehind {l : Launch} {D : va_G} {cI cZ : ClassId} {sz : Nat} (h : Nat) (ln : Int32) (c1 c2 c3 c4 c5 c6 t : Nat) (ta tb tc td te : Nat) (g : Int32) : KI l yX1_minuteBehind cX1_minuteBehind 6 (some .int) rm_k_minuteBehind D cI cZ [.ref h, .int g] sz [(h, .inr (1, [.int ln, .ref c1, .ref c2, .ref c3, .ref c4, .ref c5, .ref c6, .int 0, .int 0, .ref t])), (t, .inr (8, [.int 0, .int 1, .int 0, .int 0, .int 0, .ref ta, .ref tb, .ref tc, .ref td, .ref te]))] (fun (r : Int32) (_ : Unit) => r = mbF g) (fun (_ : Unit) => [(h, .inr (1, [.int ln, .ref c1, .ref c2, .ref c3, .ref c4, .ref c5, .ref c6, .int 0, .int 0, .ref t])), (t, .inr (8, [.int 0, .int 1, .int 0, .int 0, .int 0, .ref ta, .ref tb, .ref tc, .ref td, .ref te]))]) := by
  refine KI.go rfl (Nat.le_of_ble_eq_true rfl) ?_
  intro p e s m args below meth c ls A Q hx hb hml hts hown hin hP hK hD hS hA hN hl hret
  have hl : lv_has ls 6 [(0, .ref h), (1, .int g)] := hl
  refine lv_aload_n hx hb dX1_minuteBehind_0 rfl (lv_at hl 0 rfl) ?_
  refine va_get (D := D) (ci := 1) (v := .ref t) (C := RX1) (T := TX1) (N := 10) hx hb hts iX1 hown hK hP 0 rfl rfl 9 (by decide) (hts _ wd_40) (fun _ h9 => h9) rfl dX1_minuteBehind_1 ?_
  refine lv_ifnull hx hb dX1_minuteBehind_4 ?_
  refine lv_iload_n hx hb dX1_minuteBehind_7 rfl (lv_at hl 1 rfl) ?_
  refine lv_aload_n hx hb dX1_minuteBehind_8 rfl (lv_at hl 0 rfl) ?_
  refine va_get (D := D) (ci := 1) (v := .int 0) (C := RX1) (T := TX1) (N := 10) hx hb hts iX1 hown hK hP 0 rfl rfl 7 (by decide) (hts _ wd_38) (fun _ h9 => h9) rfl dX1_minuteBehind_9 ?_
  refine lv_iconst (v := (-1)) hx hb dX1_minuteBehind_12 (by decide) ?_
  refine lv_ixor hx hb dX1_minuteBehind_13 ?_
  refine lv_topi (fun z_1 ez_1 => ?_)
  obtain rfl : z_1 = (-1) := ez_1.trans (by decide +kernel)
  refine lv_iand hx hb dX1_minuteBehind_14 ?_
  refine lv_if_eq (tgt := 20) hx hb dX1_minuteBehind_15 (by decide) (fun c_2 => ?_) (fun c_2 => ?_)
  · refine lv_aload_n hx hb dX1_minuteBehind_20 rfl (lv_at hl 0 rfl) ?_
    refine va_get (D := D) (ci := 1) (v := .int 0) (C := RX1) (T := TX1) (N := 10) hx hb hts iX1 hown hK hP 0 rfl rfl 8 (by decide) (hts _ wd_39) (fun _ h9 => h9) rfl dX1_minuteBehind_21 ?_
    refine lv_istore_n (lv' := [(2, .int 0), (0, .ref h), (1, .int g)]) hx hb dX1_minuteBehind_24 rfl hl (by decide) rfl (fun ls hl => ?_)
    refine lv_iconst (v := 0) hx hb dX1_minuteBehind_25 (by decide) ?_
    refine lv_istore_n (lv' := [(3, .int 0), (2, .int 0), (0, .ref h), (1, .int g)]) hx hb dX1_minuteBehind_26 rfl hl (by decide) rfl (fun ls hl => ?_)
    refine lv_iload_n hx hb dX1_minuteBehind_27 rfl (lv_at hl 0 rfl) ?_
    refine lv_aload_n hx hb dX1_minuteBehind_28 rfl (lv_at hl 2 rfl) ?_
    refine va_get (D := D) (ci := 1) (v := .ref t) (C := RX1) (T := TX1) (N := 10) hx hb hts iX1 hown hK hP 0 rfl rfl 9 (by decide) (hts _ wd_40) (fun _ h9 => h9) rfl dX1_minuteBehind_29 ?_
    refine va_get (D := D) (ci := 8) (v := .int 0) (C := RX8) (T := TX8) (N := 10) hx hb hts iX8 hown hK hP 1 rfl rfl 0 (by decide) (hts _ wd_168) (fun _ h9 => h9) rfl dX1_minuteBehind_32 ?_
    refine lv_icmp_ge (tgt := 130) hx hb dX1_minuteBehind_35 (by decide) (fun c_3 => ?_) (fun c_3 => absurd (by decide +kernel) c_3)
    refine lv_iload_n hx hb dX1_minuteBehind_130 rfl (lv_at hl 1 rfl) ?_
    exact hret 0 () _ _ _ _ dX1_minuteBehind_131 rfl (if_pos c_2).symm hP hD hS
  · refine lv_iconst (v := (-1)) hx hb dX1_minuteBehind_18 (by decide) ?_
    exact hret (-1) () _ _ _ _ dX1_minuteBehind_19 rfl (if_neg c_2).symm hP hD hS
def rm_k_weigh : Room := { frames := 1, cells := 0, slots := 0, locals := 21 }
set_option maxHeartbeats 4000000 in
set_option maxRecDepth 100000 in
theorem k_weigh {l : Launch} {D : va_G} {cI cZ : ClassId} {sz : Nat} (h : Nat) (ln : Int32) (c1 c2 c3 c4 c5 c6 t : Nat) (f : Nat → Int32) (g v : Int32) (hq : (g ||| (1 <<< (v &&& 31))) = g ∨ atF 128 f (g ||| (1 <<< (v &&& 31))) = -1) : KV l yX1_weigh cX1_weigh 6 rm_k_weigh D cI cZ [.ref h, .int g, .int v] sz [(h, .inr (1, [.int ln, .ref c1, .ref c2, .ref c3, .ref c4, .ref c5, .ref c6, .int 0, .int 0, .ref t])), (c4, .inl (cI, 128, .inl f))] (fun (_ : Unit) => True) (fun (_ : Unit) => [(h, .inr (1, [.int ln, .ref c1, .ref c2, .ref c3, .ref c4, .ref c5, .ref c6, .int 0, .int 0, .ref t])), (c4, .inl (cI, 128, .inl f))]) := by
  refine KV.go rfl (Nat.le_of_ble_eq_true rfl) ?_
  intro p e s m args below meth c ls A Q hx hb hml hts hown hin hP hK hD hS hA hN hl hret
  have hl : lv_has ls 6 [(0, .ref h), (1, .int g), (2, .int v)] := hl
  refine lv_iload_n hx hb dX1_weigh_0 rfl (lv_at hl 1 rfl) ?_
  refine lv_iconst (v := 1) hx hb dX1_weigh_1 (by decide) ?_
  refine lv_iload_n hx hb dX1_weigh_2 rfl (lv_at hl 2 rfl) ?_
  refine lv_ishl hx hb dX1_weigh_3 ?_
  refine lv_ior hx hb dX1_weigh_4 ?_
  refine lv_istore_n (lv' := [(3, .int (g ||| (1 <<< (v &&& 31)))), (0, .ref h), (1, .int g), (2, .int v)]) hx hb dX1_weigh_5 rfl hl (by decide) rfl (fun ls hl => ?_)
  refine lv_aload_n hx hb dX1_weigh_6 rfl (lv_at hl 1 rfl) ?_
  refine va_get (D := D) (ci := 1) (v := .ref c4) (C := RX1) (T := TX1) (N := 10) hx hb hts iX1 hown hK hP 0 rfl rfl 4 (by decide) (hts _ wd_35) (fun _ h9 => h9) rfl dX1_weigh_7 ?_
  refine lv_iload_n hx hb dX1_weigh_10 rfl (lv_at hl 0 rfl) ?_
  refine cNi (wr := [(h, .inr (1, [.int ln, .ref c1, .ref c2, .ref c3, .ref c4, .ref c5, .ref c6, .int 0, .int 0, .ref t]))]) (rest := []) (k_at c4 128 f (g ||| (1 <<< (v &&& 31))) (by decide)) okS_X9_at 10 rfl hx hb hml hown hts hK hP hD hS hA hN hl.1 [1] [0] rfl rfl rfl rfl (by decide) rfl (Nat.le_of_ble_eq_true rfl) (Nat.le_of_ble_eq_true rfl) (Nat.le_of_ble_eq_true rfl) (Nat.le_of_ble_eq_true rfl) (Nat.le_of_ble_eq_true rfl) dX1_weigh_11 (fun r_2 u_1 H locs hw_u_1 hP hD hS => ?_)
  obtain rfl := hw_u_1
  have hP : va_P D classes [(h, .inr (1, [.int ln, .ref c1, .ref c2, .ref c3, .ref c4, .ref c5, .ref c6, .int 0, .int 0, .ref t])), (c4, .inl (cI, 128, .inl f))] H := hP
  have hD : va_D A [(h, .inr (1, [.int ln, .ref c1, .ref c2, .ref c3, .ref c4, .ref c5, .ref c6, .int 0, .int 0, .ref t])), (c4, .inl (cI, 128, .inl f))] := hD
  refine lv_istore (lv' := [(4, .int (atF 128 f (g ||| (1 <<< (v &&& 31))))), (3, .int (g ||| (1 <<< (v &&& 31)))), (0, .ref h), (1, .int g), (2, .int v)]) hx hb dX1_weigh_14 hl (by decide) rfl (fun ls hl => ?_)
  refine lv_aload_n hx hb dX1_weigh_16 rfl (lv_at hl 2 rfl) ?_
  refine va_get (D := D) (ci := 1) (v := .ref t) (C := RX1) (T := TX1) (N := 10) hx hb hts iX1 hown hK hP 0 rfl rfl 9 (by decide) (hts _ wd_40) (fun _ h9 => h9) rfl dX1_weigh_17 ?_
  refine lv_ifnull hx hb dX1_weigh_20 ?_
  refine lv_iload_n hx hb dX1_weigh_23 rfl (lv_at hl 1 rfl) ?_
  refine lv_iload_n hx hb dX1_weigh_24 rfl (lv_at hl 3 rfl) ?_
  refine lv_icmp_eq (tgt := 34) hx hb dX1_weigh_25 (by decide) (fun c_3 => ?_) (fun c_3 => ?_)
  · exact hret () _ _ _ _ dX1_weigh_34 trivial (cutP (isC := [0, 1]) hP rfl) (cutD (isC := [0, 1]) hD rfl rfl) hS
  · refine lv_iload hx hb dX1_weigh_28 (lv_at hl 0 rfl) ?_
    refine lv_iconst (v := (-1)) hx hb dX1_weigh_30 (by decide) ?_
    refine lv_icmp_ne (tgt := 35) hx hb dX1_weigh_31 (by decide) (fun c_4 => absurd (hq.resolve_left c_3) c_4) (fun c_4 => ?_)
    exact hret () _ _ _ _ dX1_weigh_34 trivial (cutP (isC := [0, 1]) hP rfl) (cutD (isC := [0, 1]) hD rfl rfl) hS
def rm_k_layOutRow : Room := { frames := 1, cells := 0, slots := 0, locals := 21 }
set_option maxHeartbeats 4000000 in
set_option maxRecDepth 100000 in
theorem k_layOutRow {l : Launch} {D : va_G} {cI cZ : ClassId} {sz : Nat} (h : Nat) (ln : Int32) (c1 c2 c3 c4 c5 c6 t : Nat) (f : Nat → Int32) (h0 : atF 128 f 0 = -1) : KV l yX1_layOutRow cX1_layOutRow 4 rm_k_layOutRow D cI cZ [.ref h] sz [(h, .inr (1, [.int ln, .ref c1, .ref c2, .ref c3, .ref c4, .ref c5, .ref c6, .int 0, .int 0, .ref t])), (c6, .inl (cI, 128, .inl f))] (fun (_ : Unit) => True) (fun (_ : Unit) => [(h, .inr (1, [.int 0, .ref c1, .ref c2, .ref c3, .ref c4, .ref c5, .ref c6, .int 0, .int 0, .ref t])), (c6, .inl (cI, 128, .inl f))]) := by
  refine KV.go rfl (Nat.le_of_ble_eq_true rfl) ?_
  intro p e s m args below meth c ls A Q hx hb hml hts hown hin hP hK hD hS hA hN hl hret
  have hl : lv_has ls 4 [(0, .ref h)] := hl
  refine lv_iconst (v := 0) hx hb dX1_layOutRow_0 (by decide) ?_
  refine lv_istore_n (lv' := [(1, .int 0), (0, .ref h)]) hx hb dX1_layOutRow_1 rfl hl (by decide) rfl (fun ls hl => ?_)
  refine lv_aload_n hx hb dX1_layOutRow_2 rfl (lv_at hl 1 rfl) ?_
  refine lv_iconst (v := 0) hx hb dX1_layOutRow_3 (by decide) ?_
  refine va_put (D := D) (ci := 1) (v := .int 0) (ty := .int) (C := RX1) (T := TX1) (N := 10) hx hb hts iX1 tyX1 tyX1_ok nmX1 hown hK hP hD hS 0 rfl rfl 0 (by decide) (hts _ wd_31) (fun _ h9 => h9) rfl (by decide +kernel) rfl rfl (Nat.le_of_ble_eq_true rfl) dX1_layOutRow_4 (fun H locs hP hD hS => ?_)
  have hP : va_P D classes [(h, .inr (1, [.int 0, .ref c1, .ref c2, .ref c3, .ref c4, .ref c5, .ref c6, .int 0, .int 0, .ref t])), (c6, .inl (cI, 128, .inl f))] H := hP
  have hD : va_D A [(h, .inr (1, [.int 0, .ref c1, .ref c2, .ref c3, .ref c4, .ref c5, .ref c6, .int 0, .int 0, .ref t])), (c6, .inl (cI, 128, .inl f))] := hD
  refine lv_iconst (v := 0) hx hb dX1_layOutRow_7 (by decide) ?_
  refine lv_istore_n (lv' := [(2, .int 0), (1, .int 0), (0, .ref h)]) hx hb dX1_layOutRow_8 rfl hl (by decide) rfl (fun ls hl => ?_)
  refine lv_iload_n hx hb dX1_layOutRow_9 rfl (lv_at hl 0 rfl) ?_
  refine lv_bipush (v := 7) hx hb dX1_layOutRow_10 (by decide) ?_
  refine lv_icmp_ge (tgt := 70) hx hb dX1_layOutRow_12 (by decide) (fun c_1 => absurd c_1 (by decide +kernel)) (fun c_1 => ?_)
  refine lv_aload_n hx hb dX1_layOutRow_15 rfl (lv_at hl 2 rfl) ?_
  refine va_get (D := D) (ci := 1) (v := .ref c6) (C := RX1) (T := TX1) (N := 10) hx hb hts iX1 hown hK hP 0 rfl rfl 6 (by decide) (hts _ wd_37) (fun _ h9 => h9) rfl dX1_layOutRow_16 ?_
  refine lv_iload_n hx hb dX1_layOutRow_19 rfl (lv_at hl 1 rfl) ?_
  refine cNi (wr := [(h, .inr (1, [.int 0, .ref c1, .ref c2, .ref c3, .ref c4, .ref c5, .ref c6, .int 0, .int 0, .ref t]))]) (rest := []) (k_at c6 128 f 0 (by decide)) okS_X9_at 10 rfl hx hb hml hown hts hK hP hD hS hA hN hl.1 [1] [0] rfl rfl rfl rfl (by decide) rfl (Nat.le_of_ble_eq_true rfl) (Nat.le_of_ble_eq_true rfl) (Nat.le_of_ble_eq_true rfl) (Nat.le_of_ble_eq_true rfl) (Nat.le_of_ble_eq_true rfl) dX1_layOutRow_20 (fun r_3 u_2 H locs hw_u_2 hP hD hS => ?_)
  obtain rfl := hw_u_2
  have hP : va_P D classes [(h, .inr (1, [.int 0, .ref c1, .ref c2, .ref c3, .ref c4, .ref c5, .ref c6, .int 0, .int 0, .ref t])), (c6, .inl (cI, 128, .inl f))] H := hP
  have hD : va_D A [(h, .inr (1, [.int 0, .ref c1, .ref c2, .ref c3, .ref c4, .ref c5, .ref c6, .int 0, .int 0, .ref t])), (c6, .inl (cI, 128, .inl f))] := hD
  refine lv_topi (fun z_4 ez_4 => ?_)
  obtain rfl : z_4 = (-1) := ez_4.trans h0
  refine lv_iconst (v := (-1)) hx hb dX1_layOutRow_23 (by decide) ?_
  refine lv_icmp_eq (tgt := 70) hx hb dX1_layOutRow_24 (by decide) (fun c_5 => ?_) (fun c_5 => absurd (by decide +kernel) c_5)
  exact hret () _ _ _ _ dX1_layOutRow_70 trivial (cutP (isC := [0, 1]) hP rfl) (cutD (isC := [0, 1]) hD rfl rfl) hS
def rm_k_solve : Room := { frames := 2, cells := 0, slots := 0, locals := 46 }
set_option maxHeartbeats 4000000 in
set_option maxRecDepth 100000 in
theorem k_solve {l : Launch} {D : va_G} {cI cZ : ClassId} {sz : Nat} (h : Nat) (ln : Int32) (c1 c2 c3 c4 c5 c6 t : Nat) (ta tb tc td te : Nat) : KV l yX1_solve cX1_solve 3 rm_k_solve D cI cZ [.ref h] sz [(h, .inr (1, [.int ln, .ref c1, .ref c2, .ref c3, .ref c4, .ref c5, .ref c6, .int 0, .int 0, .ref t])), (c4, .inl (cI, 128, .inl z0)), (c5, .inl (cI, 128, .inl z0)), (c6, .inl (cI, 128, .inl z0)), (t, .inr (8, [.int 0, .int 1, .int 0, .int 0, .int 0, .ref ta, .ref tb, .ref tc, .ref td, .ref te]))] (fun (_ : Unit) => True) (fun (_ : Unit) => [(h, .inr (1, [.int 0, .ref c1, .ref c2, .ref c3, .ref c4, .ref c5, .ref c6, .int 0, .int 0, .ref t])), (t, .inr (8, [.int 0, .int 1, .int 0, .int 0, .int 0, .ref ta, .ref tb, .ref tc, .ref td, .ref te]))]) := by
  refine KV.go rfl (Nat.le_of_ble_eq_true rfl) ?_
  intro p e s m args below meth c ls A Q hx hb hml hts hown hin hP hK hD hS hA hN hl hret
  have hl : lv_has ls 3 [(0, .ref h)] := hl
  refine lv_bipush (v := 127) hx hb dX1_solve_0 (by decide) ?_
  refine lv_istore_n (lv' := [(1, .int 127), (0, .ref h)]) hx hb dX1_solve_2 rfl hl (by decide) rfl (fun ls hl => ?_)
  have lp_1 : ∀ (n k : Nat), k + n = 128 → ∀ (H : Heap) (locs : List Loc) (ls : Array Slot), va_P D classes [(h, .inr (1, [.int ln, .ref c1, .ref c2, .ref c3, .ref c4, .ref c5, .ref c6, .int 0, .int 0, .ref t])), (c4, .inl (cI, 128, .inl (bB z0 k))), (c5, .inl (cI, 128, .inl (mM z0 k))), (c6, .inl (cI, 128, .inl (cC z0 k))), (t, .inr (8, [.int 0, .int 1, .int 0, .int 0, .int 0, .ref ta, .ref tb, .ref tc, .ref td, .ref te]))] H → va_D A [(h, .inr (1, [.int ln, .ref c1, .ref c2, .ref c3, .ref c4, .ref c5, .ref c6, .int 0, .int 0, .ref t])), (c4, .inl (cI, 128, .inl (bB z0 k))), (c5, .inl (cI, 128, .inl (mM z0 k))), (c6, .inl (cI, 128, .inl (cC z0 k))), (t, .inr (8, [.int 0, .int 1, .int 0, .int 0, .int 0, .ref ta, .ref tb, .ref tc, .ref td, .ref te]))] → va_S A s.heap H locs → lv_has ls 3 [(1, .int (gF k)), (0, .ref h)] → W p l e rm_k_solve s m args below meth c H locs 0 0 Q (F0 m 3 ls []) := by
    intro n
    induction n with
    | zero =>
      intro k hk H locs ls hP hD hS hl
      obtain rfl : k = 128 := by omega
      refine lv_iload_n hx hb dX1_solve_3 rfl (lv_at hl 0 rfl) ?_
      refine lv_if_lt (tgt := 64) hx hb dX1_solve_4 (by decide) (fun c_2 => ?_) (fun c_2 => absurd (by decide +kernel) c_2)
      refine lv_aload_n hx hb dX1_solve_64 rfl (lv_at hl 1 rfl) ?_
      refine cVv (wr := [(c4, .inl (cI, 128, .inl (bB z0 128))), (c5, .inl (cI, 128, .inl (mM z0 128))), (t, .inr (8, [.int 0, .int 1, .int 0, .int 0, .int 0, .ref ta, .ref tb, .ref tc, .ref td, .ref te]))]) (rest := []) (k_layOutRow h ln c1 c2 c3 c4 c5 c6 t (cC z0 128) cC_0) okV_X1_layOutRow wd_169 hx hb hml hown hts hK hP hD hS hA hN hl.1 [0, 3] [1, 2, 4] rfl rfl rfl rfl (by decide) rfl rfl rfl (Nat.le_of_ble_eq_true rfl) (Nat.le_of_ble_eq_true rfl) (Nat.le_of_ble_eq_true rfl) (Nat.le_of_ble_eq_true rfl) (Nat.le_of_ble_eq_true rfl) dX1_solve_65 (fun u_3 H locs hw_u_3 hP hD hS => ?_)
      have hP : va_P D classes [(c4, .inl (cI, 128, .inl (bB z0 128))), (c5, .inl (cI, 128, .inl (mM z0 128))), (t, .inr (8, [.int 0, .int 1, .int 0, .int 0, .int 0, .ref ta, .ref tb, .ref tc, .ref td, .ref te])), (h, .inr (1, [.int 0, .ref c1, .ref c2, .ref c3, .ref c4, .ref c5, .ref c6, .int 0, .int 0, .ref t])), (c6, .inl (cI, 128, .inl (cC z0 128)))] H := hP
      have hD : va_D A [(c4, .inl (cI, 128, .inl (bB z0 128))), (c5, .inl (cI, 128, .inl (mM z0 128))), (t, .inr (8, [.int 0, .int 1, .int 0, .int 0, .int 0, .ref ta, .ref tb, .ref tc, .ref td, .ref te])), (h, .inr (1, [.int 0, .ref c1, .ref c2, .ref c3, .ref c4, .ref c5, .ref c6, .int 0, .int 0, .ref t])), (c6, .inl (cI, 128, .inl (cC z0 128)))] := hD
      exact hret () _ _ _ _ dX1_solve_68 trivial (cutP (isC := [3, 2]) hP rfl) (cutD (isC := [3, 2]) hD rfl rfl) hS
    | succ n ih_lp_1 =>
      intro k hk H locs ls hP hD hS hl
      have hkN_lp_1 : k < 128 := by omega
      refine lv_iload_n hx hb dX1_solve_3 rfl (lv_at hl 0 rfl) ?_
      refine lv_if_lt (tgt := 64) hx hb dX1_solve_4 (by decide) (fun c_5 => absurd c_5 (gF_lt hkN_lp_1)) (fun c_5 => ?_)
      refine lv_aload_n hx hb dX1_solve_7 rfl (lv_at hl 1 rfl) ?_
      refine va_get (D := D) (ci := 1) (v := .ref c4) (C := RX1) (T := TX1) (N := 10) hx hb hts iX1 hown hK hP 0 rfl rfl 4 (by decide) (hts _ wd_35) (fun _ h9 => h9) rfl dX1_solve_8 ?_
      refine lv_iload_n hx hb dX1_solve_11 rfl (lv_at hl 0 rfl) ?_
      refine lv_aload_n hx hb dX1_solve_12 rfl (lv_at hl 1 rfl) ?_
      refine lv_iload_n hx hb dX1_solve_13 rfl (lv_at hl 0 rfl) ?_
      refine cVi (wr := [(c4, .inl (cI, 128, .inl (bB z0 k))), (c5, .inl (cI, 128, .inl (mM z0 k))), (c6, .inl (cI, 128, .inl (cC z0 k)))]) (rest := [.int (gF k), .ref c4]) (k_minuteBehind h ln c1 c2 c3 c4 c5 c6 t ta tb tc td te (gF k)) okV_X1_minuteBehind wd_173 hx hb hml hown hts hK hP hD hS hA hN hl.1 [0, 4] [1, 2, 3] rfl rfl rfl rfl (by decide) rfl rfl rfl (Nat.le_of_ble_eq_true rfl) (Nat.le_of_ble_eq_true rfl) (Nat.le_of_ble_eq_true rfl) (Nat.le_of_ble_eq_true rfl) (Nat.le_of_ble_eq_true rfl) dX1_solve_14 (fun r_7 u_6 H locs hw_u_6 hP hD hS => ?_)
      obtain rfl := hw_u_6
      have hP : va_P D classes [(c4, .inl (cI, 128, .inl (bB z0 k))), (c5, .inl (cI, 128, .inl (mM z0 k))), (c6, .inl (cI, 128, .inl (cC z0 k))), (h, .inr (1, [.int ln, .ref c1, .ref c2, .ref c3, .ref c4, .ref c5, .ref c6, .int 0, .int 0, .ref t])), (t, .inr (8, [.int 0, .int 1, .int 0, .int 0, .int 0, .ref ta, .ref tb, .ref tc, .ref td, .ref te]))] H := hP
      have hD : va_D A [(c4, .inl (cI, 128, .inl (bB z0 k))), (c5, .inl (cI, 128, .inl (mM z0 k))), (c6, .inl (cI, 128, .inl (cC z0 k))), (h, .inr (1, [.int ln, .ref c1, .ref c2, .ref c3, .ref c4, .ref c5, .ref c6, .int 0, .int 0, .ref t])), (t, .inr (8, [.int 0, .int 1, .int 0, .int 0, .int 0, .ref ta, .ref tb, .ref tc, .ref td, .ref te]))] := hD
      refine cNv (wr := [(c5, .inl (cI, 128, .inl (mM z0 k))), (c6, .inl (cI, 128, .inl (cC z0 k))), (h, .inr (1, [.int ln, .ref c1, .ref c2, .ref c3, .ref c4, .ref c5, .ref c6, .int 0, .int 0, .ref t])), (t, .inr (8, [.int 0, .int 1, .int 0, .int 0, .int 0, .ref ta, .ref tb, .ref tc, .ref td, .ref te]))]) (rest := []) (k_put c4 128 (bB z0 k) (gF k) (mbF (gF k)) (by decide)) okS_X9_put 11 rfl hx hb hml hown hts hK hP hD hS hA hN hl.1 [0] [1, 2, 3, 4] rfl rfl rfl rfl (by decide) rfl (Nat.le_of_ble_eq_true rfl) (Nat.le_of_ble_eq_true rfl) (Nat.le_of_ble_eq_true rfl) (Nat.le_of_ble_eq_true rfl) (Nat.le_of_ble_eq_true rfl) dX1_solve_17 (fun u_8 H locs hw_u_8 hP hD hS => ?_)
      have hP : va_P D classes [(c5, .inl (cI, 128, .inl (mM z0 k))), (c6, .inl (cI, 128, .inl (cC z0 k))), (h, .inr (1, [.int ln, .ref c1, .ref c2, .ref c3, .ref c4, .ref c5, .ref c6, .int 0, .int 0, .ref t])), (t, .inr (8, [.int 0, .int 1, .int 0, .int 0, .int 0, .ref ta, .ref tb, .ref tc, .ref td, .ref te])), (c4, .inl (cI, 128, .inl (putF 128 (bB z0 k) (gF k) (mbF (gF k)))))] H := hP
      have hD : va_D A [(c5, .inl (cI, 128, .inl (mM z0 k))), (c6, .inl (cI, 128, .inl (cC z0 k))), (h, .inr (1, [.int ln, .ref c1, .ref c2, .ref c3, .ref c4, .ref c5, .ref c6, .int 0, .int 0, .ref t])), (t, .inr (8, [.int 0, .int 1, .int 0, .int 0, .int 0, .ref ta, .ref tb, .ref tc, .ref td, .ref te])), (c4, .inl (cI, 128, .inl (putF 128 (bB z0 k) (gF k) (mbF (gF k)))))] := hD
      refine lv_aload_n hx hb dX1_solve_20 rfl (lv_at hl 1 rfl) ?_
      refine va_get (D := D) (ci := 1) (v := .ref c5) (C := RX1) (T := TX1) (N := 10) hx hb hts iX1 hown hK hP 2 rfl rfl 5 (by decide) (hts _ wd_36) (fun _ h9 => h9) rfl dX1_solve_21 ?_
      refine lv_iload_n hx hb dX1_solve_24 rfl (lv_at hl 0 rfl) ?_
      refine lv_iconst (v := 0) hx hb dX1_solve_25 (by decide) ?_
      refine cNv (wr := [(c6, .inl (cI, 128, .inl (cC z0 k))), (h, .inr (1, [.int ln, .ref c1, .ref c2, .ref c3, .ref c4, .ref c5, .ref c6, .int 0, .int 0, .ref t])), (t, .inr (8, [.int 0, .int 1, .int 0, .int 0, .int 0, .ref ta, .ref tb, .ref tc, .ref td, .ref te])), (c4, .inl (cI, 128, .inl (putF 128 (bB z0 k) (gF k) (mbF (gF k)))))]) (rest := []) (k_put c5 128 (mM z0 k) (gF k) 0 (by decide)) okS_X9_put 11 rfl hx hb hml hown hts hK hP hD hS hA hN hl.1 [0] [1, 2, 3, 4] rfl rfl rfl rfl (by decide) rfl (Nat.le_of_ble_eq_true rfl) (Nat.le_of_ble_eq_true rfl) (Nat.le_of_ble_eq_true rfl) (Nat.le_of_ble_eq_true rfl) (Nat.le_of_ble_eq_true rfl) dX1_solve_26 (fun u_10 H locs hw_u_10 hP hD hS => ?_)
      have hP : va_P D classes [(c6, .inl (cI, 128, .inl (cC z0 k))), (h, .inr (1, [.int ln, .ref c1, .ref c2, .ref c3, .ref c4, .ref c5, .ref c6, .int 0, .int 0, .ref t])), (t, .inr (8, [.int 0, .int 1, .int 0, .int 0, .int 0, .ref ta, .ref tb, .ref tc, .ref td, .ref te])), (c4, .inl (cI, 128, .inl (putF 128 (bB z0 k) (gF k) (mbF (gF k))))), (c5, .inl (cI, 128, .inl (putF 128 (mM z0 k) (gF k) 0)))] H := hP
      have hD : va_D A [(c6, .inl (cI, 128, .inl (cC z0 k))), (h, .inr (1, [.int ln, .ref c1, .ref c2, .ref c3, .ref c4, .ref c5, .ref c6, .int 0, .int 0, .ref t])), (t, .inr (8, [.int 0, .int 1, .int 0, .int 0, .int 0, .ref ta, .ref tb, .ref tc, .ref td, .ref te])), (c4, .inl (cI, 128, .inl (putF 128 (bB z0 k) (gF k) (mbF (gF k))))), (c5, .inl (cI, 128, .inl (putF 128 (mM z0 k) (gF k) 0)))] := hD
      refine lv_aload_n hx hb dX1_solve_29 rfl (lv_at hl 1 rfl) ?_
      refine va_get (D := D) (ci := 1) (v := .ref c6) (C := RX1) (T := TX1) (N := 10) hx hb hts iX1 hown hK hP 1 rfl rfl 6 (by decide) (hts _ wd_37) (fun _ h9 => h9) rfl dX1_solve_30 ?_
      refine lv_iload_n hx hb dX1_solve_33 rfl (lv_at hl 0 rfl) ?_
      refine lv_iconst (v := (-1)) hx hb dX1_solve_34 (by decide) ?_
      refine cNv (wr := [(h, .inr (1, [.int ln, .ref c1, .ref c2, .ref c3, .ref c4, .ref c5, .ref c6, .int 0, .int 0, .ref t])), (t, .inr (8, [.int 0, .int 1, .int 0, .int 0, .int 0, .ref ta, .ref tb, .ref tc, .ref td, .ref te])), (c4, .inl (cI, 128, .inl (putF 128 (bB z0 k) (gF k) (mbF (gF k))))), (c5, .inl (cI, 128, .inl (putF 128 (mM z0 k) (gF k) 0)))]) (rest := []) (k_put c6 128 (cC z0 k) (gF k) (-1) (by decide)) okS_X9_put 11 rfl hx hb hml hown hts hK hP hD hS hA hN hl.1 [0] [1, 2, 3, 4] rfl rfl rfl rfl (by decide) rfl (Nat.le_of_ble_eq_true rfl) (Nat.le_of_ble_eq_true rfl) (Nat.le_of_ble_eq_true rfl) (Nat.le_of_ble_eq_true rfl) (Nat.le_of_ble_eq_true rfl) dX1_solve_35 (fun u_12 H locs hw_u_12 hP hD hS => ?_)
      have hP : va_P D classes [(h, .inr (1, [.int ln, .ref c1, .ref c2, .ref c3, .ref c4, .ref c5, .ref c6, .int 0, .int 0, .ref t])), (t, .inr (8, [.int 0, .int 1, .int 0, .int 0, .int 0, .ref ta, .ref tb, .ref tc, .ref td, .ref te])), (c4, .inl (cI, 128, .inl (putF 128 (bB z0 k) (gF k) (mbF (gF k))))), (c5, .inl (cI, 128, .inl (putF 128 (mM z0 k) (gF k) 0))), (c6, .inl (cI, 128, .inl (putF 128 (cC z0 k) (gF k) (-1))))] H := hP
      have hD : va_D A [(h, .inr (1, [.int ln, .ref c1, .ref c2, .ref c3, .ref c4, .ref c5, .ref c6, .int 0, .int 0, .ref t])), (t, .inr (8, [.int 0, .int 1, .int 0, .int 0, .int 0, .ref ta, .ref tb, .ref tc, .ref td, .ref te])), (c4, .inl (cI, 128, .inl (putF 128 (bB z0 k) (gF k) (mbF (gF k))))), (c5, .inl (cI, 128, .inl (putF 128 (mM z0 k) (gF k) 0))), (c6, .inl (cI, 128, .inl (putF 128 (cC z0 k) (gF k) (-1))))] := hD
      refine lv_iconst (v := 0) hx hb dX1_solve_38 (by decide) ?_
      refine lv_istore_n (lv' := [(2, .int 0), (1, .int (gF k)), (0, .ref h)]) hx hb dX1_solve_39 rfl hl (by decide) rfl (fun ls hl => ?_)
      have lp_14 : ∀ (n j : Nat), j + n = 7 → ∀ (H : Heap) (locs : List Loc) (ls : Array Slot), va_P D classes [(h, .inr (1, [.int ln, .ref c1, .ref c2, .ref c3, .ref c4, .ref c5, .ref c6, .int 0, .int 0, .ref t])), (t, .inr (8, [.int 0, .int 1, .int 0, .int 0, .int 0, .ref ta, .ref tb, .ref tc, .ref td, .ref te])), (c4, .inl (cI, 128, .inl (putF 128 (bB z0 k) (gF k) (mbF (gF k))))), (c5, .inl (cI, 128, .inl (putF 128 (mM z0 k) (gF k) 0))), (c6, .inl (cI, 128, .inl (putF 128 (cC z0 k) (gF k) (-1))))] H → va_D A [(h, .inr (1, [.int ln, .ref c1, .ref c2, .ref c3, .ref c4, .ref c5, .ref c6, .int 0, .int 0, .ref t])), (t, .inr (8, [.int 0, .int 1, .int 0, .int 0, .int 0, .ref ta, .ref tb, .ref tc, .ref td, .ref te])), (c4, .inl (cI, 128, .inl (putF 128 (bB z0 k) (gF k) (mbF (gF k))))), (c5, .inl (cI, 128, .inl (putF 128 (mM z0 k) (gF k) 0))), (c6, .inl (cI, 128, .inl (putF 128 (cC z0 k) (gF k) (-1))))] → va_S A s.heap H locs → lv_has ls 3 [(2, .int (nI j)), (1, .int (gF k)), (0, .ref h)] → W p l e rm_k_solve s m args below meth c H locs 0 0 Q (F0 m 40 ls []) := by
        intro n
        induction n with
        | zero =>
          intro j hk H locs ls hP hD hS hl
          obtain rfl : j = 7 := by omega
          refine lv_iload_n hx hb dX1_solve_40 rfl (lv_at hl 0 rfl) ?_
          refine lv_bipush (v := 7) hx hb dX1_solve_41 (by decide) ?_
          refine lv_icmp_ge (tgt := 58) hx hb dX1_solve_43 (by decide) (fun c_15 => ?_) (fun c_15 => absurd (by decide +kernel) c_15)
          refine lv_iinc (v := (gF (k + 1))) (lv' := [(1, .int (gF (k + 1))), (2, .int (nI 7)), (0, .ref h)]) hx hb dX1_solve_58 hl (k := 1) rfl (gF_dec k) (by decide) rfl (fun ls hl => ?_)
          refine lv_goto (tgt := 3) hx hb dX1_solve_61 (by decide) ?_
          exact ih_lp_1 (k + 1) (by omega) _ _ ls (cutP (isC := [0, 2, 3, 4, 1]) hP rfl) (cutD (isC := [0, 2, 3, 4, 1]) hD rfl rfl) hS (lv_sub hl [0, 2] rfl)
        | succ n ih_lp_14 =>
          intro j hk H locs ls hP hD hS hl
          have hkN_lp_14 : j < 7 := by omega
          refine lv_iload_n hx hb dX1_solve_40 rfl (lv_at hl 0 rfl) ?_
          refine lv_bipush (v := 7) hx hb dX1_solve_41 (by decide) ?_
          refine lv_icmp_ge (tgt := 58) hx hb dX1_solve_43 (by decide) (fun c_16 => absurd c_16 (nI_ge hkN_lp_14 (by decide))) (fun c_16 => ?_)
          refine lv_aload_n hx hb dX1_solve_46 rfl (lv_at hl 2 rfl) ?_
          refine lv_iload_n hx hb dX1_solve_47 rfl (lv_at hl 1 rfl) ?_
          refine lv_iload_n hx hb dX1_solve_48 rfl (lv_at hl 0 rfl) ?_
          refine cVv (wr := [(t, .inr (8, [.int 0, .int 1, .int 0, .int 0, .int 0, .ref ta, .ref tb, .ref tc, .ref td, .ref te])), (c5, .inl (cI, 128, .inl (putF 128 (mM z0 k) (gF k) 0))), (c6, .inl (cI, 128, .inl (putF 128 (cC z0 k) (gF k) (-1))))]) (rest := []) (k_weigh h ln c1 c2 c3 c4 c5 c6 t (putF 128 (bB z0 k) (gF k) (mbF (gF k))) (gF k) (nI j) (wq z0 hkN_lp_1 hkN_lp_14)) okV_X1_weigh wd_177 hx hb hml hown hts hK hP hD hS hA hN hl.1 [0, 2] [1, 3, 4] rfl rfl rfl rfl (by decide) rfl rfl rfl (Nat.le_of_ble_eq_true rfl) (Nat.le_of_ble_eq_true rfl) (Nat.le_of_ble_eq_true rfl) (Nat.le_of_ble_eq_true rfl) (Nat.le_of_ble_eq_true rfl) dX1_solve_49 (fun u_17 H locs hw_u_17 hP hD hS => ?_)
          have hP : va_P D classes [(t, .inr (8, [.int 0, .int 1, .int 0, .int 0, .int 0, .ref ta, .ref tb, .ref tc, .ref td, .ref te])), (c5, .inl (cI, 128, .inl (putF 128 (mM z0 k) (gF k) 0))), (c6, .inl (cI, 128, .inl (putF 128 (cC z0 k) (gF k) (-1)))), (h, .inr (1, [.int ln, .ref c1, .ref c2, .ref c3, .ref c4, .ref c5, .ref c6, .int 0, .int 0, .ref t])), (c4, .inl (cI, 128, .inl (putF 128 (bB z0 k) (gF k) (mbF (gF k)))))] H := hP
          have hD : va_D A [(t, .inr (8, [.int 0, .int 1, .int 0, .int 0, .int 0, .ref ta, .ref tb, .ref tc, .ref td, .ref te])), (c5, .inl (cI, 128, .inl (putF 128 (mM z0 k) (gF k) 0))), (c6, .inl (cI, 128, .inl (putF 128 (cC z0 k) (gF k) (-1)))), (h, .inr (1, [.int ln, .ref c1, .ref c2, .ref c3, .ref c4, .ref c5, .ref c6, .int 0, .int 0, .ref t])), (c4, .inl (cI, 128, .inl (putF 128 (bB z0 k) (gF k) (mbF (gF k)))))] := hD
          refine lv_iinc (v := (nI (j + 1))) (lv' := [(2, .int (nI (j + 1))), (1, .int (gF k)), (0, .ref h)]) hx hb dX1_solve_52 hl (k := 0) rfl (nI_1 j) (by decide) rfl (fun ls hl => ?_)
          refine lv_goto (tgt := 40) hx hb dX1_solve_55 (by decide) ?_
          exact ih_lp_14 (j + 1) (by omega) _ _ ls (cutP (isC := [3, 0, 4, 1, 2]) hP rfl) (cutD (isC := [3, 0, 4, 1, 2]) hD rfl rfl) hS (lv_sub hl [0, 1, 2] rfl)
      exact lp_14 7 0 (by omega) _ _ ls hP hD hS hl
  exact lp_1 128 0 (by omega) _ _ ls hP hD hS hl
def rm_k_gather : Room := { frames := 3, cells := 0, slots := 0, locals := 65 }
set_option maxHeartbeats 4000000 in
set_option maxRecDepth 100000 in
theorem k_gather {l : Launch} {D : va_G} {cI cZ : ClassId} {sz : Nat} (h c1 c2 c3 c4 c5 c6 t ta tb tc td te n a : Nat) : KV l yX1_gather cX1_gather 3 rm_k_gather D cI cZ [.ref h, .ref t, .ref n] sz [(h, .inr (1, [.int 0, .ref c1, .ref c2, .ref c3, .ref c4, .ref c5, .ref c6, .int 0, .int 0, .null])), (c2, .inl (cI, 6, .inl z0)), (c3, .inl (cI, 48, .inl z0)), (t, .inr (8, [.int 0, .int 1, .int 0, .int 0, .int 0, .ref ta, .ref tb, .ref tc, .ref td, .ref te])), (n, .inr (7, [.ref a])), (a, .inl (cI, 41, .inl (cB2 z0 7)))] (fun (_ : Unit) => True) (fun (_ : Unit) => [(h, .inr (1, [.int 0, .ref c1, .ref c2, .ref c3, .ref c4, .ref c5, .ref c6, .int 0, .int 0, .ref t])), (t, .inr (8, [.int 0, .int 1, .int 0, .int 0, .int 0, .ref ta, .ref tb, .ref tc, .ref td, .ref te]))]) := by
  refine KV.go rfl (Nat.le_of_ble_eq_true rfl) ?_
  intro p e s m args below meth c ls A Q hx hb hml hts hown hin hP hK hD hS hA hN hl hret
  have hl : lv_has ls 3 [(0, .ref h), (1, .ref t), (2, .ref n)] := hl
  refine lv_aload_n hx hb dX1_gather_0 rfl (lv_at hl 0 rfl) ?_
  refine lv_aload_n hx hb dX1_gather_1 rfl (lv_at hl 1 rfl) ?_
  refine va_put (D := D) (ci := 1) (v := .ref t) (ty := (.object "QuarrelBridges$Town")) (C := RX1) (T := TX1) (N := 10) hx hb hts iX1 tyX1 tyX1_ok nmX1 hown hK hP hD hS 0 rfl rfl 9 (by decide) (hts _ wd_40) (fun _ h9 => h9) rfl (by decide +kernel) rfl rfl (Nat.le_of_ble_eq_true rfl) dX1_gather_2 (fun H locs hP hD hS => ?_)
  have hP : va_P D classes [(h, .inr (1, [.int 0, .ref c1, .ref c2, .ref c3, .ref c4, .ref c5, .ref c6, .int 0, .int 0, .ref t])), (c2, .inl (cI, 6, .inl z0)), (c3, .inl (cI, 48, .inl z0)), (t, .inr (8, [.int 0, .int 1, .int 0, .int 0, .int 0, .ref ta, .ref tb, .ref tc, .ref td, .ref te])), (n, .inr (7, [.ref a])), (a, .inl (cI, 41, .inl (cB2 z0 7)))] H := hP
  have hD : va_D A [(h, .inr (1, [.int 0, .ref c1, .ref c2, .ref c3, .ref c4, .ref c5, .ref c6, .int 0, .int 0, .ref t])), (c2, .inl (cI, 6, .inl z0)), (c3, .inl (cI, 48, .inl z0)), (t, .inr (8, [.int 0, .int 1, .int 0, .int 0, .int 0, .ref ta, .ref tb, .ref tc, .ref td, .ref te])), (n, .inr (7, [.ref a])), (a, .inl (cI, 41, .inl (cB2 z0 7)))] := hD
  refine lv_aload_n hx hb dX1_gather_5 rfl (lv_at hl 0 rfl) ?_
  refine lv_aload_n hx hb dX1_gather_6 rfl (lv_at hl 2 rfl) ?_
  refine cVi (wr := [(h, .inr (1, [.int 0, .ref c1, .ref c2, .ref c3, .ref c4, .ref c5, .ref c6, .int 0, .int 0, .ref t])), (c2, .inl (cI, 6, .inl z0)), (c3, .inl (cI, 48, .inl z0)), (t, .inr (8, [.int 0, .int 1, .int 0, .int 0, .int 0, .ref ta, .ref tb, .ref tc, .ref td, .ref te]))]) (rest := [.ref h]) (k_minutes n a (cB2 z0 7)) okV_X7_minutes wd_181 hx hb hml hown hts hK hP hD hS hA hN hl.1 [4, 5] [0, 1, 2, 3] rfl rfl rfl rfl (by decide) rfl rfl rfl (Nat.le_of_ble_eq_true rfl) (Nat.le_of_ble_eq_true rfl) (Nat.le_of_ble_eq_true rfl) (Nat.le_of_ble_eq_true rfl) (Nat.le_of_ble_eq_true rfl) dX1_gather_7 (fun r_2 u_1 H locs hw_u_1 hP hD hS => ?_)
  obtain rfl := hw_u_1
  have hP : va_P D classes [(h, .inr (1, [.int 0, .ref c1, .ref c2, .ref c3, .ref c4, .ref c5, .ref c6, .int 0, .int 0, .ref t])), (c2, .inl (cI, 6, .inl z0)), (c3, .inl (cI, 48, .inl z0)), (t, .inr (8, [.int 0, .int 1, .int 0, .int 0, .int 0, .ref ta, .ref tb, .ref tc, .ref td, .ref te])), (n, .inr (7, [.ref a])), (a, .inl (cI, 41, .inl (cB2 z0 7)))] H := hP
  have hD : va_D A [(h, .inr (1, [.int 0, .ref c1, .ref c2, .ref c3, .ref c4, .ref c5, .ref c6, .int 0, .int 0, .ref t])), (c2, .inl (cI, 6, .inl z0)), (c3, .inl (cI, 48, .inl z0)), (t, .inr (8, [.int 0, .int 1, .int 0, .int 0, .int 0, .ref ta, .ref tb, .ref tc, .ref td, .ref te])), (n, .inr (7, [.ref a])), (a, .inl (cI, 41, .inl (cB2 z0 7)))] := hD
  refine lv_topi (fun z_3 ez_3 => ?_)
  obtain rfl : z_3 = 0 := ez_3.trans (by decide +kernel)
  refine va_put (D := D) (ci := 1) (v := .int 0) (ty := .int) (C := RX1) (T := TX1) (N := 10) hx hb hts iX1 tyX1 tyX1_ok nmX1 hown hK hP hD hS 0 rfl rfl 8 (by decide) (hts _ wd_39) (fun _ h9 => h9) rfl (by decide +kernel) rfl rfl (Nat.le_of_ble_eq_true rfl) dX1_gather_10 (fun H locs hP hD hS => ?_)
  have hP : va_P D classes [(h, .inr (1, [.int 0, .ref c1, .ref c2, .ref c3, .ref c4, .ref c5, .ref c6, .int 0, .int 0, .ref t])), (c2, .inl (cI, 6, .inl z0)), (c3, .inl (cI, 48, .inl z0)), (t, .inr (8, [.int 0, .int 1, .int 0, .int 0, .int 0, .ref ta, .ref tb, .ref tc, .ref td, .ref te])), (n, .inr (7, [.ref a])), (a, .inl (cI, 41, .inl (cB2 z0 7)))] H := hP
  have hD : va_D A [(h, .inr (1, [.int 0, .ref c1, .ref c2, .ref c3, .ref c4, .ref c5, .ref c6, .int 0, .int 0, .ref t])), (c2, .inl (cI, 6, .inl z0)), (c3, .inl (cI, 48, .inl z0)), (t, .inr (8, [.int 0, .int 1, .int 0, .int 0, .int 0, .ref ta, .ref tb, .ref tc, .ref td, .ref te])), (n, .inr (7, [.ref a])), (a, .inl (cI, 41, .inl (cB2 z0 7)))] := hD
  refine lv_aload_n hx hb dX1_gather_13 rfl (lv_at hl 0 rfl) ?_
  refine lv_aload_n hx hb dX1_gather_14 rfl (lv_at hl 2 rfl) ?_
  refine lv_iconst (v := 0) hx hb dX1_gather_15 (by decide) ?_
  refine cVi (wr := [(h, .inr (1, [.int 0, .ref c1, .ref c2, .ref c3, .ref c4, .ref c5, .ref c6, .int 0, .int 0, .ref t])), (c2, .inl (cI, 6, .inl z0)), (c3, .inl (cI, 48, .inl z0)), (t, .inr (8, [.int 0, .int 1, .int 0, .int 0, .int 0, .ref ta, .ref tb, .ref tc, .ref td, .ref te]))]) (rest := [.ref h]) (k_bargesOfFate0 n a) okV_X7_bargesOfFate wd_185 hx hb hml hown hts hK hP hD hS hA hN hl.1 [4, 5] [0, 1, 2, 3] rfl rfl rfl rfl (by decide) rfl rfl rfl (Nat.le_of_ble_eq_true rfl) (Nat.le_of_ble_eq_true rfl) (Nat.le_of_ble_eq_true rfl) (Nat.le_of_ble_eq_true rfl) (Nat.le_of_ble_eq_true rfl) dX1_gather_16 (fun r_5 u_4 H locs hw_u_4 hP hD hS => ?_)
  obtain rfl := hw_u_4
  have hP : va_P D classes [(h, .inr (1, [.int 0, .ref c1, .ref c2, .ref c3, .ref c4, .ref c5, .ref c6, .int 0, .int 0, .ref t])), (c2, .inl (cI, 6, .inl z0)), (c3, .inl (cI, 48, .inl z0)), (t, .inr (8, [.int 0, .int 1, .int 0, .int 0, .int 0, .ref ta, .ref tb, .ref tc, .ref td, .ref te])), (n, .inr (7, [.ref a])), (a, .inl (cI, 41, .inl (cB2 z0 7)))] H := hP
  have hD : va_D A [(h, .inr (1, [.int 0, .ref c1, .ref c2, .ref c3, .ref c4, .ref c5, .ref c6, .int 0, .int 0, .ref t])), (c2, .inl (cI, 6, .inl z0)), (c3, .inl (cI, 48, .inl z0)), (t, .inr (8, [.int 0, .int 1, .int 0, .int 0, .int 0, .ref ta, .ref tb, .ref tc, .ref td, .ref te])), (n, .inr (7, [.ref a])), (a, .inl (cI, 41, .inl (cB2 z0 7)))] := hD
  refine lv_iconst (v := 1) hx hb dX1_gather_19 (by decide) ?_
  refine lv_aload_n hx hb dX1_gather_20 rfl (lv_at hl 1 rfl) ?_
  refine va_get (D := D) (ci := 8) (v := .int 0) (C := RX8) (T := TX8) (N := 10) hx hb hts iX8 hown hK hP 3 rfl rfl 3 (by decide) (hts _ wd_189) (fun _ h9 => h9) rfl dX1_gather_21 ?_
  refine lv_ishl hx hb dX1_gather_24 ?_
  refine lv_topi (fun z_6 ez_6 => ?_)
  obtain rfl : z_6 = 1 := ez_6.trans (by decide +kernel)
  refine lv_iconst (v := 1) hx hb dX1_gather_25 (by decide) ?_
  refine lv_isub hx hb dX1_gather_26 ?_
  refine lv_topi (fun z_7 ez_7 => ?_)
  obtain rfl : z_7 = 0 := ez_7.trans (by decide +kernel)
  refine lv_iand hx hb dX1_gather_27 ?_
  refine lv_topi (fun z_8 ez_8 => ?_)
  obtain rfl : z_8 = 0 := ez_8.trans (by decide +kernel)
  refine va_put (D := D) (ci := 1) (v := .int 0) (ty := .int) (C := RX1) (T := TX1) (N := 10) hx hb hts iX1 tyX1 tyX1_ok nmX1 hown hK hP hD hS 0 rfl rfl 7 (by decide) (hts _ wd_38) (fun _ h9 => h9) rfl (by decide +kernel) rfl rfl (Nat.le_of_ble_eq_true rfl) dX1_gather_28 (fun H locs hP hD hS => ?_)
  have hP : va_P D classes [(h, .inr (1, [.int 0, .ref c1, .ref c2, .ref c3, .ref c4, .ref c5, .ref c6, .int 0, .int 0, .ref t])), (c2, .inl (cI, 6, .inl z0)), (c3, .inl (cI, 48, .inl z0)), (t, .inr (8, [.int 0, .int 1, .int 0, .int 0, .int 0, .ref ta, .ref tb, .ref tc, .ref td, .ref te])), (n, .inr (7, [.ref a])), (a, .inl (cI, 41, .inl (cB2 z0 7)))] H := hP
  have hD : va_D A [(h, .inr (1, [.int 0, .ref c1, .ref c2, .ref c3, .ref c4, .ref c5, .ref c6, .int 0, .int 0, .ref t])), (c2, .inl (cI, 6, .inl z0)), (c3, .inl (cI, 48, .inl z0)), (t, .inr (8, [.int 0, .int 1, .int 0, .int 0, .int 0, .ref ta, .ref tb, .ref tc, .ref td, .ref te])), (n, .inr (7, [.ref a])), (a, .inl (cI, 41, .inl (cB2 z0 7)))] := hD
  refine lv_aload_n hx hb dX1_gather_31 rfl (lv_at hl 0 rfl) ?_
  refine va_get (D := D) (ci := 1) (v := .ref c2) (C := RX1) (T := TX1) (N := 10) hx hb hts iX1 hown hK hP 0 rfl rfl 2 (by decide) (hts _ wd_33) (fun _ h9 => h9) rfl dX1_gather_32 ?_
  refine lv_iconst (v := 0) hx hb dX1_gather_35 (by decide) ?_
  refine cSv (wr := [(h, .inr (1, [.int 0, .ref c1, .ref c2, .ref c3, .ref c4, .ref c5, .ref c6, .int 0, .int 0, .ref t])), (c3, .inl (cI, 48, .inl z0)), (t, .inr (8, [.int 0, .int 1, .int 0, .int 0, .int 0, .ref ta, .ref tb, .ref tc, .ref td, .ref te])), (n, .inr (7, [.ref a])), (a, .inl (cI, 41, .inl (cB2 z0 7)))]) (rest := []) (k_fill6 c2 z0) okS_J7_fill_53178 wd_190 hx hb hml hown hts hK hP hD hS hA hN hl.1 [1] [0, 2, 3, 4, 5] rfl rfl rfl rfl (by decide) rfl (Nat.le_of_ble_eq_true rfl) (Nat.le_of_ble_eq_true rfl) (Nat.le_of_ble_eq_true rfl) (Nat.le_of_ble_eq_true rfl) (Nat.le_of_ble_eq_true rfl) dX1_gather_36 (fun u_9 H locs hw_u_9 hP hD hS => ?_)
  have hP : va_P D classes [(h, .inr (1, [.int 0, .ref c1, .ref c2, .ref c3, .ref c4, .ref c5, .ref c6, .int 0, .int 0, .ref t])), (c3, .inl (cI, 48, .inl z0)), (t, .inr (8, [.int 0, .int 1, .int 0, .int 0, .int 0, .ref ta, .ref tb, .ref tc, .ref td, .ref te])), (n, .inr (7, [.ref a])), (a, .inl (cI, 41, .inl (cB2 z0 7))), (c2, .inl (cI, 6, .inl (fillZ z0 6)))] H := hP
  have hD : va_D A [(h, .inr (1, [.int 0, .ref c1, .ref c2, .ref c3, .ref c4, .ref c5, .ref c6, .int 0, .int 0, .ref t])), (c3, .inl (cI, 48, .inl z0)), (t, .inr (8, [.int 0, .int 1, .int 0, .int 0, .int 0, .ref ta, .ref tb, .ref tc, .ref td, .ref te])), (n, .inr (7, [.ref a])), (a, .inl (cI, 41, .inl (cB2 z0 7))), (c2, .inl (cI, 6, .inl (fillZ z0 6)))] := hD
  refine lv_aload_n hx hb dX1_gather_39 rfl (lv_at hl 0 rfl) ?_
  refine va_get (D := D) (ci := 1) (v := .ref c3) (C := RX1) (T := TX1) (N := 10) hx hb hts iX1 hown hK hP 0 rfl rfl 3 (by decide) (hts _ wd_34) (fun _ h9 => h9) rfl dX1_gather_40 ?_
  refine lv_iconst (v := 0) hx hb dX1_gather_43 (by decide) ?_
  refine cSv (wr := [(h, .inr (1, [.int 0, .ref c1, .ref c2, .ref c3, .ref c4, .ref c5, .ref c6, .int 0, .int 0, .ref t])), (t, .inr (8, [.int 0, .int 1, .int 0, .int 0, .int 0, .ref ta, .ref tb, .ref tc, .ref td, .ref te])), (n, .inr (7, [.ref a])), (a, .inl (cI, 41, .inl (cB2 z0 7))), (c2, .inl (cI, 6, .inl (fillZ z0 6)))]) (rest := []) (k_fill48 c3 z0) okS_J7_fill_53178 wd_190 hx hb hml hown hts hK hP hD hS hA hN hl.1 [1] [0, 2, 3, 4, 5] rfl rfl rfl rfl (by decide) rfl (Nat.le_of_ble_eq_true rfl) (Nat.le_of_ble_eq_true rfl) (Nat.le_of_ble_eq_true rfl) (Nat.le_of_ble_eq_true rfl) (Nat.le_of_ble_eq_true rfl) dX1_gather_44 (fun u_11 H locs hw_u_11 hP hD hS => ?_)
  have hP : va_P D classes [(h, .inr (1, [.int 0, .ref c1, .ref c2, .ref c3, .ref c4, .ref c5, .ref c6, .int 0, .int 0, .ref t])), (t, .inr (8, [.int 0, .int 1, .int 0, .int 0, .int 0, .ref ta, .ref tb, .ref tc, .ref td, .ref te])), (n, .inr (7, [.ref a])), (a, .inl (cI, 41, .inl (cB2 z0 7))), (c2, .inl (cI, 6, .inl (fillZ z0 6))), (c3, .inl (cI, 48, .inl (fillZ z0 48)))] H := hP
  have hD : va_D A [(h, .inr (1, [.int 0, .ref c1, .ref c2, .ref c3, .ref c4, .ref c5, .ref c6, .int 0, .int 0, .ref t])), (t, .inr (8, [.int 0, .int 1, .int 0, .int 0, .int 0, .ref ta, .ref tb, .ref tc, .ref td, .ref te])), (n, .inr (7, [.ref a])), (a, .inl (cI, 41, .inl (cB2 z0 7))), (c2, .inl (cI, 6, .inl (fillZ z0 6))), (c3, .inl (cI, 48, .inl (fillZ z0 48)))] := hD
  exact hret () _ _ _ _ dX1_gather_47 trivial (cutP (isC := [0, 1]) hP rfl) (cutD (isC := [0, 1]) hD rfl rfl) hS
