theorem wd_616 : Cond.instantiable RX9 17 ∈ BG := BG_in (by decide +kernel) rfl
theorem wd_617 : Cond.instantiable RX10 45 ∈ BG := BG_in (by decide +kernel) rfl
theorem wd_618 : Cond.classLink RL 7 RX9 ∈ BG := BG_in (by decide +kernel) rfl
theorem dL_law_0 : decode cL_law 0 = .ok (.new 7, 3) := by decide +kernel
theorem dL_law_3 : decode cL_law 3 = .ok (.dup, 1) := by decide +kernel
theorem dL_law_4 : decode cL_law 4 = .ok (.invokespecial 9, 3) := by decide +kernel
theorem wd_619 : Cond.methodLink RL 9 yX9_init ∈ BG := BG_in (by decide +kernel) rfl
theorem wd_620 : Cond.code yX9_init cX9_init 1 none ∈ BG := BG_in (by decide +kernel) rfl
theorem wd_621 : Cond.instanceMethod yX9_init ∈ BG := BG_in (by decide +kernel) rfl
theorem okI_X9_init : okI yX9_init cX9_init 1 0 := ⟨⟨wd_620, wd_71, by decide +kernel⟩, wd_621, rfl⟩
theorem dL_law_7 : decode cL_law 7 = .ok (.astore_n 1, 1) := by decide +kernel
theorem wd_622 : Cond.classLink RL 10 RX10 ∈ BG := BG_in (by decide +kernel) rfl
theorem dL_law_8 : decode cL_law 8 = .ok (.new 10, 3) := by decide +kernel
theorem dL_law_11 : decode cL_law 11 = .ok (.dup, 1) := by decide +kernel
theorem dL_law_12 : decode cL_law 12 = .ok (.invokespecial 12, 3) := by decide +kernel
theorem wd_623 : Cond.methodLink RL 12 yX10_init ∈ BG := BG_in (by decide +kernel) rfl
theorem wd_624 : Cond.code yX10_init cX10_init 1 none ∈ BG := BG_in (by decide +kernel) rfl
theorem wd_625 : Cond.instanceMethod yX10_init ∈ BG := BG_in (by decide +kernel) rfl
theorem okI_X10_init : okI yX10_init cX10_init 1 0 := ⟨⟨wd_624, wd_295, by decide +kernel⟩, wd_625, rfl⟩
theorem dL_law_15 : decode cL_law 15 = .ok (.astore_n 2, 1) := by decide +kernel
theorem dL_law_16 : decode cL_law 16 = .ok (.iconst 0, 1) := by decide +kernel
theorem dL_law_17 : decode cL_law 17 = .ok (.istore_n 3, 1) := by decide +kernel
theorem dL_law_26 : decode cL_law 26 = .ok (.aload_n 0, 1) := by decide +kernel
theorem dL_law_27 : decode cL_law 27 = .ok (.iload_n 3, 1) := by decide +kernel
theorem dL_law_28 : decode cL_law 28 = .ok (.iaload, 1) := by decide +kernel
theorem dL_law_29 : decode cL_law 29 = .ok (.bipush 31, 2) := by decide +kernel
theorem dL_law_31 : decode cL_law 31 = .ok (.iand, 1) := by decide +kernel
theorem dL_law_32 : decode cL_law 32 = .ok (.tableswitch 983 0 30 #[140, 163, 176, 189, 212, 245, 278, 311, 344, 387, 410, 433, 466, 489, 502, 555, 588, 621, 644, 687, 720, 733, 756, 789, 832, 855, 888, 901, 914, 937, 960], 140) := by decide +kernel
theorem law_K {p : Program} {s : State} {m : MethodId} {meth : Method} {c : Code} {b L : Nat} {xs : Nat → Int32} (C0 : lw_C p s m meth c b L xs) : ∃ (D : va_G) (cI cZ : ClassId), va_K D classes (TYS cI cZ) s := by
  have hts := C0.2.2.2.2.2.1
  obtain ⟨c0, i0, hk0⟩ := u_known (C := RX0) (T := TX0) (N := 3) (n := 3) hts iX0 (hts _ wd_109)
  obtain ⟨c1, i1, hk1⟩ := u_known (C := RX1) (T := TX1) (N := 10) (n := 10) hts iX1 (hts _ wd_128)
  obtain ⟨c2, i2, hk2⟩ := u_known (C := RX2) (T := TX2) (N := 3) (n := 3) hts iX2 (hts _ wd_98)
  obtain ⟨c3, i3, hk3⟩ := u_known (C := RX3) (T := TX3) (N := 3) (n := 3) hts iX3 (hts _ wd_122)
  obtain ⟨c4, i4, hk4⟩ := u_known (C := RX4) (T := TX4) (N := 5) (n := 5) hts iX4 (hts _ wd_116)
  obtain ⟨c5, i5, hk5⟩ := u_known (C := RX5) (T := TX5) (N := 7) (n := 7) hts iX5 (hts _ wd_79)
  obtain ⟨c6, i6, hk6⟩ := u_known (C := RX6) (T := TX6) (N := 2) (n := 2) hts iX6 (hts _ wd_58)
  obtain ⟨c7, i7, hk7⟩ := u_known (C := RX7) (T := TX7) (N := 1) (n := 1) hts iX7 (hts _ wd_92)
  obtain ⟨c8, i8, hk8⟩ := u_known (C := RX8) (T := TX8) (N := 10) (n := 10) hts iX8 (hts _ wd_85)
  obtain ⟨c9, i9, hk9⟩ := u_known (C := RX9) (T := TX9) (N := 17) (n := 17) hts iX9 (hts _ wd_616)
  obtain ⟨c10, i10, hk10⟩ := u_known (C := RX10) (T := TX10) (N := 45) (n := 45) hts iX10 (hts _ wd_617)
  refine ⟨(fun k => match k with | 0 => c0 | 1 => c1 | 2 => c2 | 3 => c3 | 4 => c4 | 5 => c5 | 6 => c6 | 7 => c7 | 8 => c8 | 9 => c9 | _ => c10, fun k => match k with | 0 => i0 | 1 => i1 | 2 => i2 | 3 => i3 | 4 => i4 | 5 => i5 | 6 => i6 | 7 => i7 | 8 => i8 | 9 => i9 | _ => i10), K_start ?_ (hts _ wd_8) (hts _ wd_272)⟩
  intro k q hq
  match k, hq with
  | 0, hq => cases hq; exact hk0
  | 1, hq => cases hq; exact hk1
  | 2, hq => cases hq; exact hk2
  | 3, hq => cases hq; exact hk3
  | 4, hq => cases hq; exact hk4
  | 5, hq => cases hq; exact hk5
  | 6, hq => cases hq; exact hk6
  | 7, hq => cases hq; exact hk7
  | 8, hq => cases hq; exact hk8
  | 9, hq => cases hq; exact hk9
  | 10, hq => cases hq; exact hk10
  | k + 11, hq => simp [classes] at hq
set_option maxHeartbeats 4000000 in
set_option maxRecDepth 100000 in
theorem whole_start {p : Program} {e : Env} {s : State} {m : MethodId} {below : List Frame} {meth : Method} {c : Code} (l : Launch) {b L : Nat} {xs : Nat → Int32} (hL : L ≤ 5) (C00 : lw_At p s m meth c b L xs) : W p l e room_1 s m #[Value.ref b] below meth c s.heap [] 0 0 (lw_Z below #[Value.ref b] s) (entryFrame m ([Value.ref b] : List Value).toArray 4) := by
  have C1 := lw_C.of C00
  obtain ⟨D, cI, cZ, hK⟩ := law_K C1
  obtain ⟨hx, hb, hr, hml, hown, hts, hX, hbl, hlocks, hN⟩ := id C1
  have hA : ∀ q, s.heap.size ≤ q → lw_A s q := fun _ h => h
  have hbA : ¬ lw_A s b := Nat.not_le.mpr hbl
  have hS : va_S (lw_A s) s.heap s.heap [] := va_S.rf
  have hP : va_P D classes [] s.heap := fun k q h => by simp at h
  have hD : va_D (lw_A s) [] := ⟨fun i j p q h => by simp at h, fun k q h => by simp at h⟩
  have hl := lv_entry ([.ref b]) (n := 4) (Nat.le_of_ble_eq_true rfl)
  rw [lg_entry_eq]
  generalize (lg_sl ([.ref b]) ++ List.replicate (4 - (lg_sl ([.ref b])).length) Slot.unset).toArray = ls at hl ⊢
  have hl : lv_has ls 4 [(0, .ref b)] := hl
  refine va_new (ci := 9) (fs := [.null, .int 0, .int 0, .null, .null, .null, .null, .null, .null, .null, .int 0, .null, .int 0, .null, .null, .null, .null]) (C := RX9) (T := TX9) (N := 17) hx hb hts iX9 tyX9 tyX9_ok hown (hts _ wd_618) (hts _ wd_616) (hts _ wd_71) hK hP hD hS hA rfl (by decide +kernel) (Nat.le_of_ble_eq_true rfl) (Nat.le_of_ble_eq_true rfl) dL_law_0 (fun q_1 H hP hD hS => ?_)
  have hP : va_P D classes [(q_1, .inr (9, [.null, .int 0, .int 0, .null, .null, .null, .null, .null, .null, .null, .int 0, .null, .int 0, .null, .null, .null, .null]))] H := hP
  have hD : va_D (lw_A s) [(q_1, .inr (9, [.null, .int 0, .int 0, .null, .null, .null, .null, .null, .null, .null, .int 0, .null, .int 0, .null, .null, .null, .null]))] := hD
  refine W.widen (k := 1) (n := 17) (Nat.le_of_ble_eq_true rfl) (Nat.le_of_ble_eq_true rfl) ?_
  refine lv_dup hx hb dL_law_3 rfl ?_
  refine cIv (wr := []) (rest := [.ref q_1]) (k_QB_init q_1) okI_X9_init wd_619 hx hb hml hown hts hK hP hD hS hA hN hl.1 [0] [] rfl rfl rfl rfl (by decide) rfl (Nat.le_of_ble_eq_true rfl) (Nat.le_of_ble_eq_true rfl) (Nat.le_of_ble_eq_true rfl) (Nat.le_of_ble_eq_true rfl) (Nat.le_of_ble_eq_true rfl) dL_law_4 (fun u_2 H locs hw_u_2 hP hD hS => ?_)
  obtain ⟨q_4, q_5, q_6, q_7, q_8, q_9, q_10, q_11, q_12, q_13, q_14, q_15, q_16, q_17, q_18, q_19, q_20, q_21, q_22, q_23, q_24, q_25, q_26, q_27, q_28, q_29, q_30, q_31, q_32, q_33, q_34, q_35, q_36, q_37, q_38, q_39, q_40, q_41, q_42⟩ := u_2
  refine W.widen (k := 40) (n := 2039) (Nat.le_of_ble_eq_true rfl) (Nat.le_of_ble_eq_true rfl) ?_
  have hP : va_P D classes [(q_1, .inr (9, [.ref q_4, .int 0, .int (-1), .ref q_5, .ref q_7, .ref q_13, .ref q_19, .ref q_21, .ref q_24, .ref q_26, .int 0, .ref q_27, .int 0, .ref q_30, .ref q_31, .ref q_35, .ref q_42])), (q_4, .inl (cI, 240, .inl z0)), (q_5, .inr (5, [.int 0, .int (-1), .ref q_6, .int 0, .int 0, .int 0, .int 0])), (q_6, .inl (cI, 0, .inl z0)), (q_8, .inl (cI, 6, .inl z0)), (q_9, .inl (cI, 6, .inl z0)), (q_10, .inl (cI, 30, .inl z0)), (q_11, .inl (cI, 7, .inl z0)), (q_12, .inl (cI, 7, .inl z0)), (q_13, .inr (8, [.int 0, .int 1, .int 0, .int 0, .int 0, .ref q_14, .ref q_15, .ref q_16, .ref q_17, .ref q_18])), (q_14, .inl (cI, 6, .inl z0)), (q_15, .inl (cI, 6, .inl z0)), (q_16, .inl (cI, 30, .inl z0)), (q_17, .inl (cI, 7, .inl z0)), (q_18, .inl (cI, 7, .inl z0)), (q_21, .inr (2, [.ref q_22, .int 0, .int 0])), (q_22, .inr (6, [.int 20, .ref q_23])), (q_23, .inl (cI, 820, .inl z0)), (q_24, .inr (6, [.int 2, .ref q_25])), (q_25, .inl (cI, 82, .inl z0)), (q_26, .inl (cI, 2, .inl z0)), (q_27, .inr (0, [.int 0, .ref q_28, .ref q_29])), (q_28, .inl (cI, 15, .inl z0)), (q_29, .inl (cI, 15, .inl z0)), (q_30, .inr (4, [.int 0, .int 0, .int 0, .int 0, .int 0])), (q_31, .inr (3, [.ref q_32, .ref q_33, .ref q_34])), (q_32, .inl (cI, 36, .inl z0)), (q_33, .inl (cI, 64, .inl z0)), (q_34, .inl (cI, 64, .inl z0)), (q_35, .inr (1, [.int 0, .ref q_36, .ref q_37, .ref q_38, .ref q_39, .ref q_40, .ref q_41, .int 0, .int 0, .null])), (q_36, .inl (cI, 7, .inl z0)), (q_37, .inl (cI, 6, .inl z0)), (q_38, .inl (cI, 48, .inl z0)), (q_39, .inl (cI, 128, .inl z0)), (q_40, .inl (cI, 128, .inl z0)), (q_41, .inl (cI, 128, .inl z0)), (q_42, .inl (cI, 30, .inl z0)), (q_19, .inr (7, [.ref q_20])), (q_20, .inl (cI, 41, .inl (cB2 z0 7))), (q_7, .inr (8, [.int 0, .int 1, .int 0, .int 0, .int 0, .ref q_8, .ref q_9, .ref q_10, .ref q_11, .ref q_12]))] H := hP
  have hD : va_D (lw_A s) [(q_1, .inr (9, [.ref q_4, .int 0, .int (-1), .ref q_5, .ref q_7, .ref q_13, .ref q_19, .ref q_21, .ref q_24, .ref q_26, .int 0, .ref q_27, .int 0, .ref q_30, .ref q_31, .ref q_35, .ref q_42])), (q_4, .inl (cI, 240, .inl z0)), (q_5, .inr (5, [.int 0, .int (-1), .ref q_6, .int 0, .int 0, .int 0, .int 0])), (q_6, .inl (cI, 0, .inl z0)), (q_8, .inl (cI, 6, .inl z0)), (q_9, .inl (cI, 6, .inl z0)), (q_10, .inl (cI, 30, .inl z0)), (q_11, .inl (cI, 7, .inl z0)), (q_12, .inl (cI, 7, .inl z0)), (q_13, .inr (8, [.int 0, .int 1, .int 0, .int 0, .int 0, .ref q_14, .ref q_15, .ref q_16, .ref q_17, .ref q_18])), (q_14, .inl (cI, 6, .inl z0)), (q_15, .inl (cI, 6, .inl z0)), (q_16, .inl (cI, 30, .inl z0)), (q_17, .inl (cI, 7, .inl z0)), (q_18, .inl (cI, 7, .inl z0)), (q_21, .inr (2, [.ref q_22, .int 0, .int 0])), (q_22, .inr (6, [.int 20, .ref q_23])), (q_23, .inl (cI, 820, .inl z0)), (q_24, .inr (6, [.int 2, .ref q_25])), (q_25, .inl (cI, 82, .inl z0)), (q_26, .inl (cI, 2, .inl z0)), (q_27, .inr (0, [.int 0, .ref q_28, .ref q_29])), (q_28, .inl (cI, 15, .inl z0)), (q_29, .inl (cI, 15, .inl z0)), (q_30, .inr (4, [.int 0, .int 0, .int 0, .int 0, .int 0])), (q_31, .inr (3, [.ref q_32, .ref q_33, .ref q_34])), (q_32, .inl (cI, 36, .inl z0)), (q_33, .inl (cI, 64, .inl z0)), (q_34, .inl (cI, 64, .inl z0)), (q_35, .inr (1, [.int 0, .ref q_36, .ref q_37, .ref q_38, .ref q_39, .ref q_40, .ref q_41, .int 0, .int 0, .null])), (q_36, .inl (cI, 7, .inl z0)), (q_37, .inl (cI, 6, .inl z0)), (q_38, .inl (cI, 48, .inl z0)), (q_39, .inl (cI, 128, .inl z0)), (q_40, .inl (cI, 128, .inl z0)), (q_41, .inl (cI, 128, .inl z0)), (q_42, .inl (cI, 30, .inl z0)), (q_19, .inr (7, [.ref q_20])), (q_20, .inl (cI, 41, .inl (cB2 z0 7))), (q_7, .inr (8, [.int 0, .int 1, .int 0, .int 0, .int 0, .ref q_8, .ref q_9, .ref q_10, .ref q_11, .ref q_12]))] := hD
  refine lv_astore_n (lv' := [(1, .ref q_1), (0, .ref b)]) hx hb dL_law_7 rfl hl (by decide) rfl (fun ls hl => ?_)
  refine va_new (ci := 10) (fs := [.null, .null, .int 0, .int 0, .int 0, .int 0, .int 0, .int 0, .null, .null, .null, .null, .null, .null, .int 0, .int 0, .int 0, .int 0, .int 0, .int 0, .int 0, .int 0, .int 0, .int 0, .int 0, .int 0, .int 0, .null, .null, .null, .null, .null, .int 0, .int 0, .int 0, .int 0, .null, .null, .null, .null, .int 0, .int 0, .int 0, .null, .null]) (C := RX10) (T := TX10) (N := 45) hx hb hts iX10 tyX10 tyX10_ok hown (hts _ wd_622) (hts _ wd_617) (hts _ wd_295) hK hP hD hS hA rfl (by decide +kernel) (Nat.le_of_ble_eq_true rfl) (Nat.le_of_ble_eq_true rfl) dL_law_8 (fun q_43 H hP hD hS => ?_)
  have hP : va_P D classes [(q_1, .inr (9, [.ref q_4, .int 0, .int (-1), .ref q_5, .ref q_7, .ref q_13, .ref q_19, .ref q_21, .ref q_24, .ref q_26, .int 0, .ref q_27, .int 0, .ref q_30, .ref q_31, .ref q_35, .ref q_42])), (q_4, .inl (cI, 240, .inl z0)), (q_5, .inr (5, [.int 0, .int (-1), .ref q_6, .int 0, .int 0, .int 0, .int 0])), (q_6, .inl (cI, 0, .inl z0)), (q_8, .inl (cI, 6, .inl z0)), (q_9, .inl (cI, 6, .inl z0)), (q_10, .inl (cI, 30, .inl z0)), (q_11, .inl (cI, 7, .inl z0)), (q_12, .inl (cI, 7, .inl z0)), (q_13, .inr (8, [.int 0, .int 1, .int 0, .int 0, .int 0, .ref q_14, .ref q_15, .ref q_16, .ref q_17, .ref q_18])), (q_14, .inl (cI, 6, .inl z0)), (q_15, .inl (cI, 6, .inl z0)), (q_16, .inl (cI, 30, .inl z0)), (q_17, .inl (cI, 7, .inl z0)), (q_18, .inl (cI, 7, .inl z0)), (q_21, .inr (2, [.ref q_22, .int 0, .int 0])), (q_22, .inr (6, [.int 20, .ref q_23])), (q_23, .inl (cI, 820, .inl z0)), (q_24, .inr (6, [.int 2, .ref q_25])), (q_25, .inl (cI, 82, .inl z0)), (q_26, .inl (cI, 2, .inl z0)), (q_27, .inr (0, [.int 0, .ref q_28, .ref q_29])), (q_28, .inl (cI, 15, .inl z0)), (q_29, .inl (cI, 15, .inl z0)), (q_30, .inr (4, [.int 0, .int 0, .int 0, .int 0, .int 0])), (q_31, .inr (3, [.ref q_32, .ref q_33, .ref q_34])), (q_32, .inl (cI, 36, .inl z0)), (q_33, .inl (cI, 64, .inl z0)), (q_34, .inl (cI, 64, .inl z0)), (q_35, .inr (1, [.int 0, .ref q_36, .ref q_37, .ref q_38, .ref q_39, .ref q_40, .ref q_41, .int 0, .int 0, .null])), (q_36, .inl (cI, 7, .inl z0)), (q_37, .inl (cI, 6, .inl z0)), (q_38, .inl (cI, 48, .inl z0)), (q_39, .inl (cI, 128, .inl z0)), (q_40, .inl (cI, 128, .inl z0)), (q_41, .inl (cI, 128, .inl z0)), (q_42, .inl (cI, 30, .inl z0)), (q_19, .inr (7, [.ref q_20])), (q_20, .inl (cI, 41, .inl (cB2 z0 7))), (q_7, .inr (8, [.int 0, .int 1, .int 0, .int 0, .int 0, .ref q_8, .ref q_9, .ref q_10, .ref q_11, .ref q_12])), (q_43, .inr (10, [.null, .null, .int 0, .int 0, .int 0, .int 0, .int 0, .int 0, .null, .null, .null, .null, .null, .null, .int 0, .int 0, .int 0, .int 0, .int 0, .int 0, .int 0, .int 0, .int 0, .int 0, .int 0, .int 0, .int 0, .null, .null, .null, .null, .null, .int 0, .int 0, .int 0, .int 0, .null, .null, .null, .null, .int 0, .int 0, .int 0, .null, .null]))] H := hP
  have hD : va_D (lw_A s) [(q_1, .inr (9, [.ref q_4, .int 0, .int (-1), .ref q_5, .ref q_7, .ref q_13, .ref q_19, .ref q_21, .ref q_24, .ref q_26, .int 0, .ref q_27, .int 0, .ref q_30, .ref q_31, .ref q_35, .ref q_42])), (q_4, .inl (cI, 240, .inl z0)), (q_5, .inr (5, [.int 0, .int (-1), .ref q_6, .int 0, .int 0, .int 0, .int 0])), (q_6, .inl (cI, 0, .inl z0)), (q_8, .inl (cI, 6, .inl z0)), (q_9, .inl (cI, 6, .inl z0)), (q_10, .inl (cI, 30, .inl z0)), (q_11, .inl (cI, 7, .inl z0)), (q_12, .inl (cI, 7, .inl z0)), (q_13, .inr (8, [.int 0, .int 1, .int 0, .int 0, .int 0, .ref q_14, .ref q_15, .ref q_16, .ref q_17, .ref q_18])), (q_14, .inl (cI, 6, .inl z0)), (q_15, .inl (cI, 6, .inl z0)), (q_16, .inl (cI, 30, .inl z0)), (q_17, .inl (cI, 7, .inl z0)), (q_18, .inl (cI, 7, .inl z0)), (q_21, .inr (2, [.ref q_22, .int 0, .int 0])), (q_22, .inr (6, [.int 20, .ref q_23])), (q_23, .inl (cI, 820, .inl z0)), (q_24, .inr (6, [.int 2, .ref q_25])), (q_25, .inl (cI, 82, .inl z0)), (q_26, .inl (cI, 2, .inl z0)), (q_27, .inr (0, [.int 0, .ref q_28, .ref q_29])), (q_28, .inl (cI, 15, .inl z0)), (q_29, .inl (cI, 15, .inl z0)), (q_30, .inr (4, [.int 0, .int 0, .int 0, .int 0, .int 0])), (q_31, .inr (3, [.ref q_32, .ref q_33, .ref q_34])), (q_32, .inl (cI, 36, .inl z0)), (q_33, .inl (cI, 64, .inl z0)), (q_34, .inl (cI, 64, .inl z0)), (q_35, .inr (1, [.int 0, .ref q_36, .ref q_37, .ref q_38, .ref q_39, .ref q_40, .ref q_41, .int 0, .int 0, .null])), (q_36, .inl (cI, 7, .inl z0)), (q_37, .inl (cI, 6, .inl z0)), (q_38, .inl (cI, 48, .inl z0)), (q_39, .inl (cI, 128, .inl z0)), (q_40, .inl (cI, 128, .inl z0)), (q_41, .inl (cI, 128, .inl z0)), (q_42, .inl (cI, 30, .inl z0)), (q_19, .inr (7, [.ref q_20])), (q_20, .inl (cI, 41, .inl (cB2 z0 7))), (q_7, .inr (8, [.int 0, .int 1, .int 0, .int 0, .int 0, .ref q_8, .ref q_9, .ref q_10, .ref q_11, .ref q_12])), (q_43, .inr (10, [.null, .null, .int 0, .int 0, .int 0, .int 0, .int 0, .int 0, .null, .null, .null, .null, .null, .null, .int 0, .int 0, .int 0, .int 0, .int 0, .int 0, .int 0, .int 0, .int 0, .int 0, .int 0, .int 0, .int 0, .null, .null, .null, .null, .null, .int 0, .int 0, .int 0, .int 0, .null, .null, .null, .null, .int 0, .int 0, .int 0, .null, .null]))] := hD
  refine W.widen (k := 41) (n := 2084) (Nat.le_of_ble_eq_true rfl) (Nat.le_of_ble_eq_true rfl) ?_
  refine lv_dup hx hb dL_law_11 rfl ?_
  refine cIv (wr := [(q_1, .inr (9, [.ref q_4, .int 0, .int (-1), .ref q_5, .ref q_7, .ref q_13, .ref q_19, .ref q_21, .ref q_24, .ref q_26, .int 0, .ref q_27, .int 0, .ref q_30, .ref q_31, .ref q_35, .ref q_42])), (q_4, .inl (cI, 240, .inl z0)), (q_5, .inr (5, [.int 0, .int (-1), .ref q_6, .int 0, .int 0, .int 0, .int 0])), (q_6, .inl (cI, 0, .inl z0)), (q_8, .inl (cI, 6, .inl z0)), (q_9, .inl (cI, 6, .inl z0)), (q_10, .inl (cI, 30, .inl z0)), (q_11, .inl (cI, 7, .inl z0)), (q_12, .inl (cI, 7, .inl z0)), (q_13, .inr (8, [.int 0, .int 1, .int 0, .int 0, .int 0, .ref q_14, .ref q_15, .ref q_16, .ref q_17, .ref q_18])), (q_14, .inl (cI, 6, .inl z0)), (q_15, .inl (cI, 6, .inl z0)), (q_16, .inl (cI, 30, .inl z0)), (q_17, .inl (cI, 7, .inl z0)), (q_18, .inl (cI, 7, .inl z0)), (q_21, .inr (2, [.ref q_22, .int 0, .int 0])), (q_22, .inr (6, [.int 20, .ref q_23])), (q_23, .inl (cI, 820, .inl z0)), (q_24, .inr (6, [.int 2, .ref q_25])), (q_25, .inl (cI, 82, .inl z0)), (q_26, .inl (cI, 2, .inl z0)), (q_27, .inr (0, [.int 0, .ref q_28, .ref q_29])), (q_28, .inl (cI, 15, .inl z0)), (q_29, .inl (cI, 15, .inl z0)), (q_30, .inr (4, [.int 0, .int 0, .int 0, .int 0, .int 0])), (q_31, .inr (3, [.ref q_32, .ref q_33, .ref q_34])), (q_32, .inl (cI, 36, .inl z0)), (q_33, .inl (cI, 64, .inl z0)), (q_34, .inl (cI, 64, .inl z0)), (q_35, .inr (1, [.int 0, .ref q_36, .ref q_37, .ref q_38, .ref q_39, .ref q_40, .ref q_41, .int 0, .int 0, .null])), (q_36, .inl (cI, 7, .inl z0)), (q_37, .inl (cI, 6, .inl z0)), (q_38, .inl (cI, 48, .inl z0)), (q_39, .inl (cI, 128, .inl z0)), (q_40, .inl (cI, 128, .inl z0)), (q_41, .inl (cI, 128, .inl z0)), (q_42, .inl (cI, 30, .inl z0)), (q_19, .inr (7, [.ref q_20])), (q_20, .inl (cI, 41, .inl (cB2 z0 7))), (q_7, .inr (8, [.int 0, .int 1, .int 0, .int 0, .int 0, .ref q_8, .ref q_9, .ref q_10, .ref q_11, .ref q_12]))]) (rest := [.ref q_43]) (k_M_init q_43) okI_X10_init wd_623 hx hb hml hown hts hK hP hD hS hA hN hl.1 [40] [0, 1, 2, 3, 4, 5, 6, 7, 8, 9, 10, 11, 12, 13, 14, 15, 16, 17, 18, 19, 20, 21, 22, 23, 24, 25, 26, 27, 28, 29, 30, 31, 32, 33, 34, 35, 36, 37, 38, 39] rfl rfl rfl rfl (by decide) rfl (Nat.le_of_ble_eq_true rfl) (Nat.le_of_ble_eq_true rfl) (Nat.le_of_ble_eq_true rfl) (Nat.le_of_ble_eq_true rfl) (Nat.le_of_ble_eq_true rfl) dL_law_12 (fun u_44 H locs hw_u_44 hP hD hS => ?_)
  obtain ⟨q_46, q_47, q_48, q_49, q_50, q_51, q_52, q_53, q_54, q_55, q_56, q_57, q_58, q_59, q_60, q_61, q_62, q_63, q_64⟩ := u_44
  refine W.widen (k := 60) (n := 4269) (Nat.le_of_ble_eq_true rfl) (Nat.le_of_ble_eq_true rfl) ?_
  have hP : va_P D classes [(q_1, .inr (9, [.ref q_4, .int 0, .int (-1), .ref q_5, .ref q_7, .ref q_13, .ref q_19, .ref q_21, .ref q_24, .ref q_26, .int 0, .ref q_27, .int 0, .ref q_30, .ref q_31, .ref q_35, .ref q_42])), (q_4, .inl (cI, 240, .inl z0)), (q_5, .inr (5, [.int 0, .int (-1), .ref q_6, .int 0, .int 0, .int 0, .int 0])), (q_6, .inl (cI, 0, .inl z0)), (q_8, .inl (cI, 6, .inl z0)), (q_9, .inl (cI, 6, .inl z0)), (q_10, .inl (cI, 30, .inl z0)), (q_11, .inl (cI, 7, .inl z0)), (q_12, .inl (cI, 7, .inl z0)), (q_13, .inr (8, [.int 0, .int 1, .int 0, .int 0, .int 0, .ref q_14, .ref q_15, .ref q_16, .ref q_17, .ref q_18])), (q_14, .inl (cI, 6, .inl z0)), (q_15, .inl (cI, 6, .inl z0)), (q_16, .inl (cI, 30, .inl z0)), (q_17, .inl (cI, 7, .inl z0)), (q_18, .inl (cI, 7, .inl z0)), (q_21, .inr (2, [.ref q_22, .int 0, .int 0])), (q_22, .inr (6, [.int 20, .ref q_23])), (q_23, .inl (cI, 820, .inl z0)), (q_24, .inr (6, [.int 2, .ref q_25])), (q_25, .inl (cI, 82, .inl z0)), (q_26, .inl (cI, 2, .inl z0)), (q_27, .inr (0, [.int 0, .ref q_28, .ref q_29])), (q_28, .inl (cI, 15, .inl z0)), (q_29, .inl (cI, 15, .inl z0)), (q_30, .inr (4, [.int 0, .int 0, .int 0, .int 0, .int 0])), (q_31, .inr (3, [.ref q_32, .ref q_33, .ref q_34])), (q_32, .inl (cI, 36, .inl z0)), (q_33, .inl (cI, 64, .inl z0)), (q_34, .inl (cI, 64, .inl z0)), (q_35, .inr (1, [.int 0, .ref q_36, .ref q_37, .ref q_38, .ref q_39, .ref q_40, .ref q_41, .int 0, .int 0, .null])), (q_36, .inl (cI, 7, .inl z0)), (q_37, .inl (cI, 6, .inl z0)), (q_38, .inl (cI, 48, .inl z0)), (q_39, .inl (cI, 128, .inl z0)), (q_40, .inl (cI, 128, .inl z0)), (q_41, .inl (cI, 128, .inl z0)), (q_42, .inl (cI, 30, .inl z0)), (q_19, .inr (7, [.ref q_20])), (q_20, .inl (cI, 41, .inl (cB2 z0 7))), (q_7, .inr (8, [.int 0, .int 1, .int 0, .int 0, .int 0, .ref q_8, .ref q_9, .ref q_10, .ref q_11, .ref q_12])), (q_47, .inl (cZ, 2, .inl z0)), (q_48, .inl (cI, 6, .inl z0)), (q_49, .inl (cI, 6, .inl z0)), (q_50, .inl (cI, 30, .inl z0)), (q_51, .inl (cI, 7, .inl z0)), (q_52, .inl (cI, 7, .inl z0)), (q_53, .inl (cI, 240, .inl z0)), (q_54, .inl (cI, 6, .inl z0)), (q_55, .inl (cI, 6, .inl z0)), (q_56, .inl (cI, 30, .inl z0)), (q_57, .inl (cI, 7, .inl z0)), (q_58, .inl (cI, 7, .inl z0)), (q_59, .inl (cI, 448, .inl z0)), (q_60, .inl (cI, 36, .inl z0)), (q_61, .inl (cI, 8, .inl z0)), (q_62, .inl (cI, 7, .inl z0)), (q_63, .inl (cI, 15, .inl z0)), (q_64, .inl (cI, 15, .inl z0)), (q_43, .inr (10, [.ref q_46, .ref q_47, .int 0, .int 0, .int 1, .int 0, .int 0, .int 0, .ref q_48, .ref q_49, .ref q_50, .ref q_51, .ref q_52, .ref q_53, .int 0, .int 0, .int 0, .int 0, .int 0, .int (-1), .int 0, .int 0, .int 0, .int 0, .int 0, .int 0, .int 0, .ref q_54, .ref q_55, .ref q_56, .ref q_57, .ref q_58, .int 0, .int 0, .int 0, .int 0, .ref q_59, .ref q_60, .ref q_61, .ref q_62, .int 0, .int 0, .int 0, .ref q_63, .ref q_64])), (q_46, .inl (cI, 1302, .inl (upd (wC z0 7) (41 : Int32).toNatClampNeg (z0 (41 : Int32).toNatClampNeg))))] H := hP
  have hD : va_D (lw_A s) [(q_1, .inr (9, [.ref q_4, .int 0, .int (-1), .ref q_5, .ref q_7, .ref q_13, .ref q_19, .ref q_21, .ref q_24, .ref q_26, .int 0, .ref q_27, .int 0, .ref q_30, .ref q_31, .ref q_35, .ref q_42])), (q_4, .inl (cI, 240, .inl z0)), (q_5, .inr (5, [.int 0, .int (-1), .ref q_6, .int 0, .int 0, .int 0, .int 0])), (q_6, .inl (cI, 0, .inl z0)), (q_8, .inl (cI, 6, .inl z0)), (q_9, .inl (cI, 6, .inl z0)), (q_10, .inl (cI, 30, .inl z0)), (q_11, .inl (cI, 7, .inl z0)), (q_12, .inl (cI, 7, .inl z0)), (q_13, .inr (8, [.int 0, .int 1, .int 0, .int 0, .int 0, .ref q_14, .ref q_15, .ref q_16, .ref q_17, .ref q_18])), (q_14, .inl (cI, 6, .inl z0)), (q_15, .inl (cI, 6, .inl z0)), (q_16, .inl (cI, 30, .inl z0)), (q_17, .inl (cI, 7, .inl z0)), (q_18, .inl (cI, 7, .inl z0)), (q_21, .inr (2, [.ref q_22, .int 0, .int 0])), (q_22, .inr (6, [.int 20, .ref q_23])), (q_23, .inl (cI, 820, .inl z0)), (q_24, .inr (6, [.int 2, .ref q_25])), (q_25, .inl (cI, 82, .inl z0)), (q_26, .inl (cI, 2, .inl z0)), (q_27, .inr (0, [.int 0, .ref q_28, .ref q_29])), (q_28, .inl (cI, 15, .inl z0)), (q_29, .inl (cI, 15, .inl z0)), (q_30, .inr (4, [.int 0, .int 0, .int 0, .int 0, .int 0])), (q_31, .inr (3, [.ref q_32, .ref q_33, .ref q_34])), (q_32, .inl (cI, 36, .inl z0)), (q_33, .inl (cI, 64, .inl z0)), (q_34, .inl (cI, 64, .inl z0)), (q_35, .inr (1, [.int 0, .ref q_36, .ref q_37, .ref q_38, .ref q_39, .ref q_40, .ref q_41, .int 0, .int 0, .null])), (q_36, .inl (cI, 7, .inl z0)), (q_37, .inl (cI, 6, .inl z0)), (q_38, .inl (cI, 48, .inl z0)), (q_39, .inl (cI, 128, .inl z0)), (q_40, .inl (cI, 128, .inl z0)), (q_41, .inl (cI, 128, .inl z0)), (q_42, .inl (cI, 30, .inl z0)), (q_19, .inr (7, [.ref q_20])), (q_20, .inl (cI, 41, .inl (cB2 z0 7))), (q_7, .inr (8, [.int 0, .int 1, .int 0, .int 0, .int 0, .ref q_8, .ref q_9, .ref q_10, .ref q_11, .ref q_12])), (q_47, .inl (cZ, 2, .inl z0)), (q_48, .inl (cI, 6, .inl z0)), (q_49, .inl (cI, 6, .inl z0)), (q_50, .inl (cI, 30, .inl z0)), (q_51, .inl (cI, 7, .inl z0)), (q_52, .inl (cI, 7, .inl z0)), (q_53, .inl (cI, 240, .inl z0)), (q_54, .inl (cI, 6, .inl z0)), (q_55, .inl (cI, 6, .inl z0)), (q_56, .inl (cI, 30, .inl z0)), (q_57, .inl (cI, 7, .inl z0)), (q_58, .inl (cI, 7, .inl z0)), (q_59, .inl (cI, 448, .inl z0)), (q_60, .inl (cI, 36, .inl z0)), (q_61, .inl (cI, 8, .inl z0)), (q_62, .inl (cI, 7, .inl z0)), (q_63, .inl (cI, 15, .inl z0)), (q_64, .inl (cI, 15, .inl z0)), (q_43, .inr (10, [.ref q_46, .ref q_47, .int 0, .int 0, .int 1, .int 0, .int 0, .int 0, .ref q_48, .ref q_49, .ref q_50, .ref q_51, .ref q_52, .ref q_53, .int 0, .int 0, .int 0, .int 0, .int 0, .int (-1), .int 0, .int 0, .int 0, .int 0, .int 0, .int 0, .int 0, .ref q_54, .ref q_55, .ref q_56, .ref q_57, .ref q_58, .int 0, .int 0, .int 0, .int 0, .ref q_59, .ref q_60, .ref q_61, .ref q_62, .int 0, .int 0, .int 0, .ref q_63, .ref q_64])), (q_46, .inl (cI, 1302, .inl (upd (wC z0 7) (41 : Int32).toNatClampNeg (z0 (41 : Int32).toNatClampNeg))))] := hD
  refine lv_astore_n (lv' := [(2, .ref q_43), (1, .ref q_1), (0, .ref b)]) hx hb dL_law_15 rfl hl (by decide) rfl (fun ls hl => ?_)
  refine lv_iconst (v := 0) hx hb dL_law_16 (by decide) ?_
  refine lv_istore_n (lv' := [(3, .int 0), (2, .ref q_43), (1, .ref q_1), (0, .ref b)]) hx hb dL_law_17 rfl hl (by decide) rfl (fun ls hl => ?_)
  rcases (show L = 0 ∨ L = 1 ∨ L = 2 ∨ L = 3 ∨ L = 4 ∨ L = 5 by omega) with rfl | rfl | rfl | rfl | rfl | rfl
  · refine lv_iload_n hx hb dL_law_18 rfl (lv_at hl 0 rfl) ?_
    refine lv_aload_n hx hb dL_law_19 rfl (lv_at hl 3 rfl) ?_
    refine va_slen hx hb hX hbl hbA hS dL_law_20 ?_
    refine lv_topi (fun z_65 ez_65 => ?_)
    obtain rfl : z_65 = 0 := ez_65.trans (by decide +kernel)
    refine lv_iconst (v := 5) hx hb dL_law_21 (by decide) ?_
    refine lv_isub hx hb dL_law_22 ?_
    refine lv_topi (fun z_66 ez_66 => ?_)
    obtain rfl : z_66 = (-5) := ez_66.trans (by decide +kernel)
    refine lv_icmp_gt (tgt := 1021) hx hb dL_law_23 (by decide) (fun c_67 => ?_) (fun c_67 => absurd (by decide +kernel) c_67)
    exact law_end C1 hS
  · refine lv_iload_n hx hb dL_law_18 rfl (lv_at hl 0 rfl) ?_
    refine lv_aload_n hx hb dL_law_19 rfl (lv_at hl 3 rfl) ?_
    refine va_slen hx hb hX hbl hbA hS dL_law_20 ?_
    refine lv_topi (fun z_68 ez_68 => ?_)
    obtain rfl : z_68 = 1 := ez_68.trans (by decide +kernel)
    refine lv_iconst (v := 5) hx hb dL_law_21 (by decide) ?_
    refine lv_isub hx hb dL_law_22 ?_
    refine lv_topi (fun z_69 ez_69 => ?_)
    obtain rfl : z_69 = (-4) := ez_69.trans (by decide +kernel)
    refine lv_icmp_gt (tgt := 1021) hx hb dL_law_23 (by decide) (fun c_70 => ?_) (fun c_70 => absurd (by decide +kernel) c_70)
    exact law_end C1 hS
  · refine lv_iload_n hx hb dL_law_18 rfl (lv_at hl 0 rfl) ?_
    refine lv_aload_n hx hb dL_law_19 rfl (lv_at hl 3 rfl) ?_
    refine va_slen hx hb hX hbl hbA hS dL_law_20 ?_
    refine lv_topi (fun z_71 ez_71 => ?_)
    obtain rfl : z_71 = 2 := ez_71.trans (by decide +kernel)
    refine lv_iconst (v := 5) hx hb dL_law_21 (by decide) ?_
    refine lv_isub hx hb dL_law_22 ?_
    refine lv_topi (fun z_72 ez_72 => ?_)
    obtain rfl : z_72 = (-3) := ez_72.trans (by decide +kernel)
    refine lv_icmp_gt (tgt := 1021) hx hb dL_law_23 (by decide) (fun c_73 => ?_) (fun c_73 => absurd (by decide +kernel) c_73)
    exact law_end C1 hS
  · refine lv_iload_n hx hb dL_law_18 rfl (lv_at hl 0 rfl) ?_
    refine lv_aload_n hx hb dL_law_19 rfl (lv_at hl 3 rfl) ?_
    refine va_slen hx hb hX hbl hbA hS dL_law_20 ?_
    refine lv_topi (fun z_74 ez_74 => ?_)
    obtain rfl : z_74 = 3 := ez_74.trans (by decide +kernel)
    refine lv_iconst (v := 5) hx hb dL_law_21 (by decide) ?_
    refine lv_isub hx hb dL_law_22 ?_
    refine lv_topi (fun z_75 ez_75 => ?_)
    obtain rfl : z_75 = (-2) := ez_75.trans (by decide +kernel)
    refine lv_icmp_gt (tgt := 1021) hx hb dL_law_23 (by decide) (fun c_76 => ?_) (fun c_76 => absurd (by decide +kernel) c_76)
    exact law_end C1 hS
  · refine lv_iload_n hx hb dL_law_18 rfl (lv_at hl 0 rfl) ?_
    refine lv_aload_n hx hb dL_law_19 rfl (lv_at hl 3 rfl) ?_
    refine va_slen hx hb hX hbl hbA hS dL_law_20 ?_
    refine lv_topi (fun z_77 ez_77 => ?_)
    obtain rfl : z_77 = 4 := ez_77.trans (by decide +kernel)
    refine lv_iconst (v := 5) hx hb dL_law_21 (by decide) ?_
    refine lv_isub hx hb dL_law_22 ?_
    refine lv_topi (fun z_78 ez_78 => ?_)
    obtain rfl : z_78 = (-1) := ez_78.trans (by decide +kernel)
    refine lv_icmp_gt (tgt := 1021) hx hb dL_law_23 (by decide) (fun c_79 => ?_) (fun c_79 => absurd (by decide +kernel) c_79)
    exact law_end C1 hS
  · refine lv_iload_n hx hb dL_law_18 rfl (lv_at hl 0 rfl) ?_
    refine lv_aload_n hx hb dL_law_19 rfl (lv_at hl 3 rfl) ?_
    refine va_slen hx hb hX hbl hbA hS dL_law_20 ?_
    refine lv_topi (fun z_80 ez_80 => ?_)
    obtain rfl : z_80 = 5 := ez_80.trans (by decide +kernel)
    refine lv_iconst (v := 5) hx hb dL_law_21 (by decide) ?_
    refine lv_isub hx hb dL_law_22 ?_
    refine lv_topi (fun z_81 ez_81 => ?_)
    obtain rfl : z_81 = 0 := ez_81.trans (by decide +kernel)
    refine lv_icmp_gt (tgt := 1021) hx hb dL_law_23 (by decide) (fun c_82 => absurd c_82 (by decide +kernel)) (fun c_82 => ?_)
    refine lv_aload_n hx hb dL_law_26 rfl (lv_at hl 3 rfl) ?_
    refine lv_iload_n hx hb dL_law_27 rfl (lv_at hl 0 rfl) ?_
    refine va_sld hx hb hX hbl hbA hS (show ¬ ((0 : Int32) < 0 ∨ 5 ≤ (0 : Int32).toNatClampNeg) by decide +kernel) dL_law_28 ?_
    refine lv_bipush (v := 31) hx hb dL_law_29 (by decide) ?_
    refine lv_iand hx hb dL_law_31 ?_
    refine lv_topi (fun zz ezz => ?_)
    obtain ⟨kq, hkq, ekq⟩ := and31 (xs (0 : Int32).toNatClampNeg)
    obtain rfl : zz = nI kq := ezz.trans ekq
    rcases (show kq = 0 ∨ kq = 1 ∨ kq = 2 ∨ kq = 3 ∨ kq = 4 ∨ kq = 5 ∨ kq = 6 ∨ kq = 7 ∨ kq = 8 ∨ kq = 9 ∨ kq = 10 ∨ kq = 11 ∨ kq = 12 ∨ kq = 13 ∨ kq = 14 ∨ kq = 15 ∨ kq = 16 ∨ kq = 17 ∨ kq = 18 ∨ kq = 19 ∨ kq = 20 ∨ kq = 21 ∨ kq = 22 ∨ kq = 23 ∨ kq = 24 ∨ kq = 25 ∨ kq = 26 ∨ kq = 27 ∨ kq = 28 ∨ kq = 29 ∨ kq = 30 ∨ kq = 31 by omega) with rfl | rfl | rfl | rfl | rfl | rfl | rfl | rfl | rfl | rfl | rfl | rfl | rfl | rfl | rfl | rfl | rfl | rfl | rfl | rfl | rfl | rfl | rfl | rfl | rfl | rfl | rfl | rfl | rfl | rfl | rfl | rfl
    · refine lv_tableIn (off := 140) (tgt := 172) hx hb dL_law_32 (by decide +kernel) (by decide +kernel) (by decide +kernel) (by decide) ?_
      exact law_feed q_1 q_4 q_5 q_7 q_13 q_19 q_21 q_24 q_26 q_27 q_30 q_31 q_35 q_42 q_43 q_46 q_47 q_48 q_49 q_50 q_51 q_52 q_53 q_54 q_55 q_56 q_57 q_58 q_59 q_60 q_61 q_62 q_63 q_64 C1 hK (cutP (isC := [0, 1, 58, 46]) hP rfl) (cutD (isC := [0, 1, 58, 46]) hD rfl rfl) hS (lv_sub hl [3, 2, 1, 0] rfl)
    · refine lv_tableIn (off := 163) (tgt := 195) hx hb dL_law_32 (by decide +kernel) (by decide +kernel) (by decide +kernel) (by decide) ?_
      exact law_town q_1 q_4 q_5 q_7 q_13 q_19 q_21 q_24 q_26 q_27 q_30 q_31 q_35 q_42 q_6 q_14 q_15 q_16 q_17 q_18 q_20 q_22 q_28 q_29 q_43 q_46 q_47 q_48 q_49 q_50 q_51 q_52 q_53 q_54 q_55 q_56 q_57 q_58 q_59 q_60 q_61 q_62 q_63 q_64 C1 hK (cutP (isC := [0, 2, 1, 9, 37, 38, 15, 21, 58, 59, 40, 41, 42, 43, 44, 45, 47, 48, 49, 50, 51]) hP rfl) (cutD (isC := [0, 2, 1, 9, 37, 38, 15, 21, 58, 59, 40, 41, 42, 43, 44, 45, 47, 48, 49, 50, 51]) hD rfl rfl) hS (lv_sub hl [3, 2, 1, 0] rfl)
    · refine lv_tableIn (off := 176) (tgt := 208) hx hb dL_law_32 (by decide +kernel) (by decide +kernel) (by decide +kernel) (by decide) ?_
      exact law_fault q_1 q_4 q_5 q_7 q_13 q_19 q_21 q_24 q_26 q_27 q_30 q_31 q_35 q_42 q_43 q_46 q_47 q_48 q_49 q_50 q_51 q_52 q_53 q_54 q_55 q_56 q_57 q_58 q_59 q_60 q_61 q_62 q_63 q_64 C1 hK (cutP (isC := [0, 58]) hP rfl) (cutD (isC := [0, 58]) hD rfl rfl) hS (lv_sub hl [3, 2, 1, 0] rfl)
    · refine lv_tableIn (off := 189) (tgt := 221) hx hb dL_law_32 (by decide +kernel) (by decide +kernel) (by decide +kernel) (by decide) ?_
      exact law_told q_1 q_4 q_5 q_7 q_13 q_19 q_21 q_24 q_26 q_27 q_30 q_31 q_35 q_42 q_8 q_9 q_10 q_11 q_12 q_20 q_28 q_29 q_22 q_43 q_46 q_47 q_48 q_49 q_50 q_51 q_52 q_53 q_54 q_55 q_56 q_57 q_58 q_59 q_60 q_61 q_62 q_63 q_64 C1 hK (cutP (isC := [0, 39, 37, 38, 21, 15, 58, 59]) hP rfl) (cutD (isC := [0, 39, 37, 38, 21, 15, 58, 59]) hD rfl rfl) hS (lv_sub hl [3, 2, 1, 0] rfl)
    · refine lv_tableIn (off := 212) (tgt := 244) hx hb dL_law_32 (by decide +kernel) (by decide +kernel) (by decide +kernel) (by decide) ?_
      exact law_bridge q_1 q_4 q_5 q_7 q_13 q_19 q_21 q_24 q_26 q_27 q_30 q_31 q_35 q_42 q_8 q_9 q_10 q_11 q_12 q_43 q_46 q_47 q_48 q_49 q_50 q_51 q_52 q_53 q_54 q_55 q_56 q_57 q_58 q_59 q_60 q_61 q_62 q_63 q_64 C1 hK (cutP (isC := [0, 39, 58]) hP rfl) (cutD (isC := [0, 39, 58]) hD rfl rfl) hS (lv_sub hl [3, 2, 1, 0] rfl)
    · refine lv_tableIn (off := 245) (tgt := 277) hx hb dL_law_32 (by decide +kernel) (by decide +kernel) (by decide +kernel) (by decide) ?_
      exact law_couple q_1 q_4 q_5 q_7 q_13 q_19 q_21 q_24 q_26 q_27 q_30 q_31 q_35 q_42 q_8 q_9 q_10 q_11 q_12 q_43 q_46 q_47 q_48 q_49 q_50 q_51 q_52 q_53 q_54 q_55 q_56 q_57 q_58 q_59 q_60 q_61 q_62 q_63 q_64 C1 hK (cutP (isC := [0, 39, 58]) hP rfl) (cutD (isC := [0, 39, 58]) hD rfl rfl) hS (lv_sub hl [3, 2, 1, 0] rfl)
    · refine lv_tableIn (off := 278) (tgt := 310) hx hb dL_law_32 (by decide +kernel) (by decide +kernel) (by decide +kernel) (by decide) ?_
      exact law_force q_1 q_4 q_5 q_7 q_13 q_19 q_21 q_24 q_26 q_27 q_30 q_31 q_35 q_42 q_8 q_9 q_10 q_11 q_12 q_43 q_46 q_47 q_48 q_49 q_50 q_51 q_52 q_53 q_54 q_55 q_56 q_57 q_58 q_59 q_60 q_61 q_62 q_63 q_64 C1 hK (cutP (isC := [0, 39, 58]) hP rfl) (cutD (isC := [0, 39, 58]) hD rfl rfl) hS (lv_sub hl [3, 2, 1, 0] rfl)
    · refine lv_tableIn (off := 311) (tgt := 343) hx hb dL_law_32 (by decide +kernel) (by decide +kernel) (by decide +kernel) (by decide) ?_
      exact law_barge q_1 q_4 q_5 q_7 q_13 q_19 q_21 q_24 q_26 q_27 q_30 q_31 q_35 q_42 q_8 q_9 q_10 q_11 q_12 q_43 q_46 q_47 q_48 q_49 q_50 q_51 q_52 q_53 q_54 q_55 q_56 q_57 q_58 q_59 q_60 q_61 q_62 q_63 q_64 C1 hK (cutP (isC := [0, 39, 58]) hP rfl) (cutD (isC := [0, 39, 58]) hD rfl rfl) hS (lv_sub hl [3, 2, 1, 0] rfl)
    · refine lv_tableIn (off := 344) (tgt := 376) hx hb dL_law_32 (by decide +kernel) (by decide +kernel) (by decide +kernel) (by decide) ?_
      exact law_send q_1 q_4 q_5 q_7 q_13 q_19 q_21 q_24 q_26 q_27 q_30 q_31 q_35 q_42 q_8 q_9 q_10 q_11 q_12 q_43 q_46 q_47 q_48 q_49 q_50 q_51 q_52 q_53 q_54 q_55 q_56 q_57 q_58 q_59 q_60 q_61 q_62 q_63 q_64 C1 hK (cutP (isC := [0, 39, 58]) hP rfl) (cutD (isC := [0, 39, 58]) hD rfl rfl) hS (lv_sub hl [3, 2, 1, 0] rfl)
    · refine lv_tableIn (off := 387) (tgt := 419) hx hb dL_law_32 (by decide +kernel) (by decide +kernel) (by decide +kernel) (by decide) ?_
      exact law_home q_1 q_4 q_5 q_7 q_13 q_19 q_21 q_24 q_26 q_27 q_30 q_31 q_35 q_42 q_8 q_9 q_10 q_11 q_12 q_43 q_46 q_47 q_48 q_49 q_50 q_51 q_52 q_53 q_54 q_55 q_56 q_57 q_58 q_59 q_60 q_61 q_62 q_63 q_64 C1 hK (cutP (isC := [0, 39, 58]) hP rfl) (cutD (isC := [0, 39, 58]) hD rfl rfl) hS (lv_sub hl [3, 2, 1, 0] rfl)
    · refine lv_tableIn (off := 410) (tgt := 442) hx hb dL_law_32 (by decide +kernel) (by decide +kernel) (by decide +kernel) (by decide) ?_
      exact law_pass q_1 q_4 q_5 q_7 q_13 q_19 q_21 q_24 q_26 q_27 q_30 q_31 q_35 q_42 q_8 q_9 q_10 q_11 q_12 q_43 q_46 q_47 q_48 q_49 q_50 q_51 q_52 q_53 q_54 q_55 q_56 q_57 q_58 q_59 q_60 q_61 q_62 q_63 q_64 C1 hK (cutP (isC := [0, 39, 58]) hP rfl) (cutD (isC := [0, 39, 58]) hD rfl rfl) hS (lv_sub hl [3, 2, 1, 0] rfl)
    · refine lv_tableIn (off := 433) (tgt := 465) hx hb dL_law_32 (by decide +kernel) (by decide +kernel) (by decide +kernel) (by decide) ?_
      exact law_grieve q_1 q_4 q_5 q_7 q_13 q_19 q_21 q_24 q_26 q_27 q_30 q_31 q_35 q_42 q_8 q_9 q_10 q_11 q_12 q_43 q_46 q_47 q_48 q_49 q_50 q_51 q_52 q_53 q_54 q_55 q_56 q_57 q_58 q_59 q_60 q_61 q_62 q_63 q_64 C1 hK (cutP (isC := [0, 39, 58]) hP rfl) (cutD (isC := [0, 39, 58]) hD rfl rfl) hS (lv_sub hl [3, 2, 1, 0] rfl)
    · refine lv_tableIn (off := 466) (tgt := 498) hx hb dL_law_32 (by decide +kernel) (by decide +kernel) (by decide +kernel) (by decide) ?_
      exact law_drift q_1 q_4 q_5 q_7 q_13 q_19 q_21 q_24 q_26 q_27 q_30 q_31 q_35 q_42 q_8 q_9 q_10 q_11 q_12 q_43 q_46 q_47 q_48 q_49 q_50 q_51 q_52 q_53 q_54 q_55 q_56 q_57 q_58 q_59 q_60 q_61 q_62 q_63 q_64 C1 hK (cutP (isC := [0, 39, 58]) hP rfl) (cutD (isC := [0, 39, 58]) hD rfl rfl) hS (lv_sub hl [3, 2, 1, 0] rfl)
    · refine lv_tableIn (off := 489) (tgt := 521) hx hb dL_law_32 (by decide +kernel) (by decide +kernel) (by decide +kernel) (by decide) ?_
      exact law_undo q_1 q_4 q_5 q_7 q_13 q_19 q_21 q_24 q_26 q_27 q_30 q_31 q_35 q_42 q_22 q_43 q_46 q_47 q_48 q_49 q_50 q_51 q_52 q_53 q_54 q_55 q_56 q_57 q_58 q_59 q_60 q_61 q_62 q_63 q_64 C1 hK (cutP (isC := [0, 15, 58]) hP rfl) (cutD (isC := [0, 15, 58]) hD rfl rfl) hS (lv_sub hl [3, 2, 1, 0] rfl)
    · refine lv_tableIn (off := 502) (tgt := 534) hx hb dL_law_32 (by decide +kernel) (by decide +kernel) (by decide +kernel) (by decide) ?_
      exact law_could q_1 q_4 q_5 q_7 q_13 q_19 q_21 q_24 q_26 q_27 q_30 q_31 q_35 q_42 q_8 q_9 q_10 q_11 q_12 q_43 q_46 q_47 q_48 q_49 q_50 q_51 q_52 q_53 q_54 q_55 q_56 q_57 q_58 q_59 q_60 q_61 q_62 q_63 q_64 C1 hK (cutP (isC := [0, 39, 58]) hP rfl) (cutD (isC := [0, 39, 58]) hD rfl rfl) hS (lv_sub hl [3, 2, 1, 0] rfl)
    · refine lv_tableIn (off := 555) (tgt := 587) hx hb dL_law_32 (by decide +kernel) (by decide +kernel) (by decide +kernel) (by decide) ?_
      exact law_bestTheme q_1 q_4 q_5 q_7 q_13 q_19 q_21 q_24 q_26 q_27 q_30 q_31 q_35 q_42 q_8 q_9 q_10 q_11 q_12 q_43 q_46 q_47 q_48 q_49 q_50 q_51 q_52 q_53 q_54 q_55 q_56 q_57 q_58 q_59 q_60 q_61 q_62 q_63 q_64 C1 hK (cutP (isC := [0, 39, 58]) hP rfl) (cutD (isC := [0, 39, 58]) hD rfl rfl) hS (lv_sub hl [3, 2, 1, 0] rfl)
    · refine lv_tableIn (off := 588) (tgt := 620) hx hb dL_law_32 (by decide +kernel) (by decide +kernel) (by decide +kernel) (by decide) ?_
      exact law_who q_1 q_4 q_5 q_7 q_13 q_19 q_21 q_24 q_26 q_27 q_30 q_31 q_35 q_42 q_8 q_9 q_10 q_11 q_12 q_43 q_46 q_47 q_48 q_49 q_50 q_51 q_52 q_53 q_54 q_55 q_56 q_57 q_58 q_59 q_60 q_61 q_62 q_63 q_64 C1 hK (cutP (isC := [0, 39, 58]) hP rfl) (cutD (isC := [0, 39, 58]) hD rfl rfl) hS (lv_sub hl [3, 2, 1, 0] rfl)
    · refine lv_tableIn (off := 621) (tgt := 653) hx hb dL_law_32 (by decide +kernel) (by decide +kernel) (by decide +kernel) (by decide) ?_
      exact law_order q_1 q_4 q_5 q_7 q_13 q_19 q_21 q_24 q_26 q_27 q_30 q_31 q_35 q_42 q_36 q_37 q_38 q_39 q_40 q_41 q_8 q_9 q_10 q_11 q_12 q_20 q_43 q_46 q_47 q_48 q_49 q_50 q_51 q_52 q_53 q_54 q_55 q_56 q_57 q_58 q_59 q_60 q_61 q_62 q_63 q_64 C1 hK (cutP (isC := [0, 29, 31, 32, 33, 34, 35, 39, 37, 38, 58, 59, 54]) hP rfl) (cutD (isC := [0, 29, 31, 32, 33, 34, 35, 39, 37, 38, 58, 59, 54]) hD rfl rfl) hS (lv_sub hl [3, 2, 1, 0] rfl)
    · refine lv_tableIn (off := 644) (tgt := 676) hx hb dL_law_32 (by decide +kernel) (by decide +kernel) (by decide +kernel) (by decide) ?_
      exact law_toldHer q_1 q_4 q_5 q_7 q_13 q_19 q_21 q_24 q_26 q_27 q_30 q_31 q_35 q_42 q_8 q_9 q_10 q_11 q_12 q_43 q_46 q_47 q_48 q_49 q_50 q_51 q_52 q_53 q_54 q_55 q_56 q_57 q_58 q_59 q_60 q_61 q_62 q_63 q_64 C1 hK (cutP (isC := [0, 39, 58]) hP rfl) (cutD (isC := [0, 39, 58]) hD rfl rfl) hS (lv_sub hl [3, 2, 1, 0] rfl)
    · refine lv_tableIn (off := 687) (tgt := 719) hx hb dL_law_32 (by decide +kernel) (by decide +kernel) (by decide +kernel) (by decide) ?_
      exact law_lasts q_1 q_4 q_5 q_7 q_13 q_19 q_21 q_24 q_26 q_27 q_30 q_31 q_35 q_42 q_8 q_9 q_10 q_11 q_12 q_43 q_46 q_47 q_48 q_49 q_50 q_51 q_52 q_53 q_54 q_55 q_56 q_57 q_58 q_59 q_60 q_61 q_62 q_63 q_64 C1 hK (cutP (isC := [0, 39, 58]) hP rfl) (cutD (isC := [0, 39, 58]) hD rfl rfl) hS (lv_sub hl [3, 2, 1, 0] rfl)
    · refine lv_tableIn (off := 720) (tgt := 752) hx hb dL_law_32 (by decide +kernel) (by decide +kernel) (by decide +kernel) (by decide) ?_
      exact law_wornOut q_1 q_4 q_5 q_7 q_13 q_19 q_21 q_24 q_26 q_27 q_30 q_31 q_35 q_42 q_8 q_9 q_10 q_11 q_12 q_43 q_46 q_47 q_48 q_49 q_50 q_51 q_52 q_53 q_54 q_55 q_56 q_57 q_58 q_59 q_60 q_61 q_62 q_63 q_64 C1 hK (cutP (isC := [0, 39, 58]) hP rfl) (cutD (isC := [0, 39, 58]) hD rfl rfl) hS (lv_sub hl [3, 2, 1, 0] rfl)
    · refine lv_tableIn (off := 733) (tgt := 765) hx hb dL_law_32 (by decide +kernel) (by decide +kernel) (by decide +kernel) (by decide) ?_
      exact law_carried q_1 q_4 q_5 q_7 q_13 q_19 q_21 q_24 q_26 q_27 q_30 q_31 q_35 q_42 q_8 q_9 q_10 q_11 q_12 q_20 q_43 q_46 q_47 q_48 q_49 q_50 q_51 q_52 q_53 q_54 q_55 q_56 q_57 q_58 q_59 q_60 q_61 q_62 q_63 q_64 C1 hK (cutP (isC := [0, 39, 37, 38, 58]) hP rfl) (cutD (isC := [0, 39, 37, 38, 58]) hD rfl rfl) hS (lv_sub hl [3, 2, 1, 0] rfl)
    · refine lv_tableIn (off := 756) (tgt := 788) hx hb dL_law_32 (by decide +kernel) (by decide +kernel) (by decide +kernel) (by decide) ?_
      exact law_hire q_1 q_4 q_5 q_7 q_13 q_19 q_21 q_24 q_26 q_27 q_30 q_31 q_35 q_42 q_8 q_9 q_10 q_11 q_12 q_43 q_46 q_47 q_48 q_49 q_50 q_51 q_52 q_53 q_54 q_55 q_56 q_57 q_58 q_59 q_60 q_61 q_62 q_63 q_64 C1 hK (cutP (isC := [0, 39, 58]) hP rfl) (cutD (isC := [0, 39, 58]) hD rfl rfl) hS (lv_sub hl [3, 2, 1, 0] rfl)
    · refine lv_tableIn (off := 789) (tgt := 821) hx hb dL_law_32 (by decide +kernel) (by decide +kernel) (by decide +kernel) (by decide) ?_
      exact law_midstream q_1 q_4 q_5 q_7 q_13 q_19 q_21 q_24 q_26 q_27 q_30 q_31 q_35 q_42 q_8 q_9 q_10 q_11 q_12 q_43 q_46 q_47 q_48 q_49 q_50 q_51 q_52 q_53 q_54 q_55 q_56 q_57 q_58 q_59 q_60 q_61 q_62 q_63 q_64 C1 hK (cutP (isC := [0, 39, 58]) hP rfl) (cutD (isC := [0, 39, 58]) hD rfl rfl) hS (lv_sub hl [3, 2, 1, 0] rfl)
    · refine lv_tableIn (off := 832) (tgt := 864) hx hb dL_law_32 (by decide +kernel) (by decide +kernel) (by decide +kernel) (by decide) ?_
      exact law_fleet q_1 q_4 q_5 q_7 q_13 q_19 q_21 q_24 q_26 q_27 q_30 q_31 q_35 q_42 q_8 q_9 q_10 q_11 q_12 q_20 q_43 q_46 q_47 q_48 q_49 q_50 q_51 q_52 q_53 q_54 q_55 q_56 q_57 q_58 q_59 q_60 q_61 q_62 q_63 q_64 C1 hK (cutP (isC := [0, 39, 37, 38, 58, 59]) hP rfl) (cutD (isC := [0, 39, 37, 38, 58, 59]) hD rfl rfl) hS (lv_sub hl [3, 2, 1, 0] rfl)
    · refine lv_tableIn (off := 855) (tgt := 887) hx hb dL_law_32 (by decide +kernel) (by decide +kernel) (by decide +kernel) (by decide) ?_
      exact law_write q_1 q_4 q_5 q_7 q_13 q_19 q_21 q_24 q_26 q_27 q_30 q_31 q_35 q_42 q_8 q_9 q_10 q_11 q_12 q_43 q_46 q_47 q_48 q_49 q_50 q_51 q_52 q_53 q_54 q_55 q_56 q_57 q_58 q_59 q_60 q_61 q_62 q_63 q_64 C1 hK (cutP (isC := [0, 39, 58]) hP rfl) (cutD (isC := [0, 39, 58]) hD rfl rfl) hS (lv_sub hl [3, 2, 1, 0] rfl)
    · refine lv_tableIn (off := 888) (tgt := 920) hx hb dL_law_32 (by decide +kernel) (by decide +kernel) (by decide +kernel) (by decide) ?_
      exact law_tear q_1 q_4 q_5 q_7 q_13 q_19 q_21 q_24 q_26 q_27 q_30 q_31 q_35 q_42 q_28 q_29 q_43 q_46 q_47 q_48 q_49 q_50 q_51 q_52 q_53 q_54 q_55 q_56 q_57 q_58 q_59 q_60 q_61 q_62 q_63 q_64 C1 hK (cutP (isC := [0, 21, 58]) hP rfl) (cutD (isC := [0, 21, 58]) hD rfl rfl) hS (lv_sub hl [3, 2, 1, 0] rfl)
    · refine lv_tableIn (off := 901) (tgt := 933) hx hb dL_law_32 (by decide +kernel) (by decide +kernel) (by decide +kernel) (by decide) ?_
      exact law_judge q_1 q_4 q_5 q_7 q_13 q_19 q_21 q_24 q_26 q_27 q_30 q_31 q_35 q_42 q_28 q_29 q_43 q_46 q_47 q_48 q_49 q_50 q_51 q_52 q_53 q_54 q_55 q_56 q_57 q_58 q_59 q_60 q_61 q_62 q_63 q_64 C1 hK (cutP (isC := [0, 21, 58]) hP rfl) (cutD (isC := [0, 21, 58]) hD rfl rfl) hS (lv_sub hl [3, 2, 1, 0] rfl)
    · refine lv_tableIn (off := 914) (tgt := 946) hx hb dL_law_32 (by decide +kernel) (by decide +kernel) (by decide +kernel) (by decide) ?_
      exact law_seed q_1 q_4 q_5 q_7 q_13 q_19 q_21 q_24 q_26 q_27 q_30 q_31 q_35 q_42 q_43 q_46 q_47 q_48 q_49 q_50 q_51 q_52 q_53 q_54 q_55 q_56 q_57 q_58 q_59 q_60 q_61 q_62 q_63 q_64 C1 hK (cutP (isC := [0, 58, 59]) hP rfl) (cutD (isC := [0, 58, 59]) hD rfl rfl) hS (lv_sub hl [3, 2, 1, 0] rfl)
    · refine lv_tableIn (off := 937) (tgt := 969) hx hb dL_law_32 (by decide +kernel) (by decide +kernel) (by decide +kernel) (by decide) ?_
      exact law_keep q_1 q_4 q_5 q_7 q_13 q_19 q_21 q_24 q_26 q_27 q_30 q_31 q_35 q_42 q_25 q_20 q_22 q_43 q_46 q_47 q_48 q_49 q_50 q_51 q_52 q_53 q_54 q_55 q_56 q_57 q_58 q_59 q_60 q_61 q_62 q_63 q_64 C1 hK (cutP (isC := [0, 18, 19, 37, 38, 20, 15, 58, 59, 40]) hP rfl) (cutD (isC := [0, 18, 19, 37, 38, 20, 15, 58, 59, 40]) hD rfl rfl) hS (lv_sub hl [3, 2, 1, 0] rfl)
    · refine lv_tableIn (off := 960) (tgt := 992) hx hb dL_law_32 (by decide +kernel) (by decide +kernel) (by decide +kernel) (by decide) ?_
      exact law_goBack q_1 q_4 q_5 q_7 q_13 q_19 q_21 q_24 q_26 q_27 q_30 q_31 q_35 q_42 q_43 q_46 q_47 q_48 q_49 q_50 q_51 q_52 q_53 q_54 q_55 q_56 q_57 q_58 q_59 q_60 q_61 q_62 q_63 q_64 C1 hK (cutP (isC := [0, 58, 40]) hP rfl) (cutD (isC := [0, 58, 40]) hD rfl rfl) hS (lv_sub hl [3, 2, 1, 0] rfl)
    · refine lv_tableOut (tgt := 1015) hx hb dL_law_32 (by decide +kernel) (by decide) ?_
      exact law_tail C1 hS (lv_sub hl [3, 2, 1, 0] rfl)
