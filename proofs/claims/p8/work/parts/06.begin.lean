theorem dJ7_fill_53178_0 : decode cJ7_fill_53178 0 = .ok (.iconst 0, 1) := by decide +kernel
theorem dJ7_fill_53178_1 : decode cJ7_fill_53178 1 = .ok (.istore_n 2, 1) := by decide +kernel
theorem dJ7_fill_53178_2 : decode cJ7_fill_53178 2 = .ok (.aload_n 0, 1) := by decide +kernel
theorem dJ7_fill_53178_3 : decode cJ7_fill_53178 3 = .ok (.arraylength, 1) := by decide +kernel
theorem dJ7_fill_53178_4 : decode cJ7_fill_53178 4 = .ok (.istore_n 3, 1) := by decide +kernel
theorem dJ7_fill_53178_5 : decode cJ7_fill_53178 5 = .ok (.iload_n 2, 1) := by decide +kernel
theorem dJ7_fill_53178_6 : decode cJ7_fill_53178 6 = .ok (.iload_n 3, 1) := by decide +kernel
theorem dJ7_fill_53178_7 : decode cJ7_fill_53178 7 = .ok (.if_icmp .ge 13, 3) := by decide +kernel
theorem dJ7_fill_53178_20 : decode cJ7_fill_53178 20 = .ok (.return_, 1) := by decide +kernel
theorem dJ7_fill_53178_10 : decode cJ7_fill_53178 10 = .ok (.aload_n 0, 1) := by decide +kernel
theorem dJ7_fill_53178_11 : decode cJ7_fill_53178 11 = .ok (.iload_n 2, 1) := by decide +kernel
theorem dJ7_fill_53178_12 : decode cJ7_fill_53178 12 = .ok (.iload_n 1, 1) := by decide +kernel
theorem dJ7_fill_53178_13 : decode cJ7_fill_53178 13 = .ok (.iastore, 1) := by decide +kernel
theorem dJ7_fill_53178_14 : decode cJ7_fill_53178 14 = .ok (.iinc 2 1, 3) := by decide +kernel
theorem dJ7_fill_53178_17 : decode cJ7_fill_53178 17 = .ok (.goto (-12), 3) := by decide +kernel
theorem dX7_begin_0 : decode cX7_begin 0 = .ok (.aload_n 0, 1) := by decide +kernel
theorem dX7_begin_1 : decode cX7_begin 1 = .ok (.getfield 11, 3) := by decide +kernel
theorem dX7_begin_4 : decode cX7_begin 4 = .ok (.iconst 0, 1) := by decide +kernel
theorem dX7_begin_5 : decode cX7_begin 5 = .ok (.invokestatic 15, 3) := by decide +kernel
theorem wd_66 : Cond.methodLink RX7 15 yJ7_fill_53178 ∈ BG := BG_at 266 (by decide +kernel) rfl
theorem wd_67 : Cond.code yJ7_fill_53178 cJ7_fill_53178 4 none ∈ BG := BG_at 268 (by decide +kernel) rfl
theorem wd_68 : Cond.initialized RJ7 ∈ BG := BG_at 12 (by decide +kernel) rfl
theorem wd_69 : Cond.static yJ7_fill_53178 ∈ BG := BG_at 267 (by decide +kernel) rfl
theorem okS_J7_fill_53178 : okS yJ7_fill_53178 cJ7_fill_53178 4 none 2 := ⟨⟨wd_67, wd_68, by decide +kernel⟩, wd_69⟩
theorem dX7_begin_8 : decode cX7_begin 8 = .ok (.iconst 0, 1) := by decide +kernel
theorem dX7_begin_9 : decode cX7_begin 9 = .ok (.istore_n 2, 1) := by decide +kernel
theorem dX7_begin_10 : decode cX7_begin 10 = .ok (.iload_n 2, 1) := by decide +kernel
theorem dX7_begin_11 : decode cX7_begin 11 = .ok (.bipush 6, 2) := by decide +kernel
theorem dX7_begin_13 : decode cX7_begin 13 = .ok (.if_icmp .ge 51, 3) := by decide +kernel
theorem dX7_begin_64 : decode cX7_begin 64 = .ok (.iconst 0, 1) := by decide +kernel
theorem dX7_begin_65 : decode cX7_begin 65 = .ok (.istore_n 2, 1) := by decide +kernel
theorem dX7_begin_66 : decode cX7_begin 66 = .ok (.iload_n 2, 1) := by decide +kernel
theorem dX7_begin_67 : decode cX7_begin 67 = .ok (.bipush 7, 2) := by decide +kernel
theorem dX7_begin_69 : decode cX7_begin 69 = .ok (.if_icmp .ge 33, 3) := by decide +kernel
theorem dX7_begin_102 : decode cX7_begin 102 = .ok (.return_, 1) := by decide +kernel
theorem dX7_begin_72 : decode cX7_begin 72 = .ok (.aload_n 0, 1) := by decide +kernel
theorem dX7_begin_73 : decode cX7_begin 73 = .ok (.getfield 11, 3) := by decide +kernel
theorem dX7_begin_76 : decode cX7_begin 76 = .ok (.bipush 27, 2) := by decide +kernel
theorem dX7_begin_78 : decode cX7_begin 78 = .ok (.iload_n 2, 1) := by decide +kernel
theorem dX7_begin_79 : decode cX7_begin 79 = .ok (.iadd, 1) := by decide +kernel
theorem dX7_begin_80 : decode cX7_begin 80 = .ok (.iconst (-1), 1) := by decide +kernel
theorem dX7_begin_81 : decode cX7_begin 81 = .ok (.invokestatic 34, 3) := by decide +kernel
theorem wd_70 : Cond.code yX9_put cX9_put 3 none ∈ BG := BG_at 274 (by decide +kernel) rfl
theorem wd_71 : Cond.initialized RX9 ∈ BG := BG_at 1 (by decide +kernel) rfl
theorem wd_72 : Cond.static yX9_put ∈ BG := BG_at 273 (by decide +kernel) rfl
theorem okS_X9_put : okS yX9_put cX9_put 3 none 3 := ⟨⟨wd_70, wd_71, by decide +kernel⟩, wd_72⟩
theorem dX7_begin_84 : decode cX7_begin 84 = .ok (.aload_n 0, 1) := by decide +kernel
theorem dX7_begin_85 : decode cX7_begin 85 = .ok (.getfield 11, 3) := by decide +kernel
theorem dX7_begin_88 : decode cX7_begin 88 = .ok (.bipush 34, 2) := by decide +kernel
theorem dX7_begin_90 : decode cX7_begin 90 = .ok (.iload_n 2, 1) := by decide +kernel
theorem dX7_begin_91 : decode cX7_begin 91 = .ok (.iadd, 1) := by decide +kernel
theorem dX7_begin_92 : decode cX7_begin 92 = .ok (.iconst (-1), 1) := by decide +kernel
theorem dX7_begin_93 : decode cX7_begin 93 = .ok (.invokestatic 34, 3) := by decide +kernel
theorem dX7_begin_96 : decode cX7_begin 96 = .ok (.iinc 2 1, 3) := by decide +kernel
theorem dX7_begin_99 : decode cX7_begin 99 = .ok (.goto (-33), 3) := by decide +kernel
theorem dX7_begin_16 : decode cX7_begin 16 = .ok (.aload_n 0, 1) := by decide +kernel
theorem dX7_begin_17 : decode cX7_begin 17 = .ok (.getfield 11, 3) := by decide +kernel
theorem dX7_begin_20 : decode cX7_begin 20 = .ok (.iconst 2, 1) := by decide +kernel
theorem dX7_begin_21 : decode cX7_begin 21 = .ok (.iload_n 2, 1) := by decide +kernel
theorem dX7_begin_22 : decode cX7_begin 22 = .ok (.iadd, 1) := by decide +kernel
theorem dX7_begin_23 : decode cX7_begin 23 = .ok (.iload_n 2, 1) := by decide +kernel
theorem dX7_begin_24 : decode cX7_begin 24 = .ok (.aload_n 1, 1) := by decide +kernel
theorem wd_73 : Cond.fieldLink RX7 21 "QuarrelBridges$Town" "couples" "I" ∈ BG := BG_at 69 (by decide +kernel) rfl
theorem dX7_begin_25 : decode cX7_begin 25 = .ok (.getfield 21, 3) := by decide +kernel
theorem dX7_begin_28 : decode cX7_begin 28 = .ok (.if_icmp .ge 14, 3) := by decide +kernel
theorem dX7_begin_42 : decode cX7_begin 42 = .ok (.iconst 0, 1) := by decide +kernel
theorem dX7_begin_43 : decode cX7_begin 43 = .ok (.invokestatic 34, 3) := by decide +kernel
theorem dX7_begin_46 : decode cX7_begin 46 = .ok (.aload_n 0, 1) := by decide +kernel
theorem dX7_begin_47 : decode cX7_begin 47 = .ok (.getfield 11, 3) := by decide +kernel
theorem dX7_begin_50 : decode cX7_begin 50 = .ok (.bipush 8, 2) := by decide +kernel
theorem dX7_begin_52 : decode cX7_begin 52 = .ok (.iload_n 2, 1) := by decide +kernel
theorem dX7_begin_53 : decode cX7_begin 53 = .ok (.iadd, 1) := by decide +kernel
theorem dX7_begin_54 : decode cX7_begin 54 = .ok (.iconst (-1), 1) := by decide +kernel
theorem dX7_begin_55 : decode cX7_begin 55 = .ok (.invokestatic 34, 3) := by decide +kernel
theorem dX7_begin_58 : decode cX7_begin 58 = .ok (.iinc 2 1, 3) := by decide +kernel
theorem dX7_begin_61 : decode cX7_begin 61 = .ok (.goto (-51), 3) := by decide +kernel
def fillZ (f : Nat → Int32) : Nat → Nat → Int32
  | 0 => f
  | k + 1 => upd (fillZ f k) (nI k).toNatClampNeg 0
/-- begin(town) where the town has no couples -/
def cB1 (f : Nat → Int32) : Nat → Nat → Int32
  | 0 => fillZ f 41
  | k + 1 => putF 41 (putF 41 (cB1 f k) (2 + nI k) 0) (8 + nI k) (-1)
def cB2 (f : Nat → Int32) : Nat → Nat → Int32
  | 0 => cB1 f 6
  | k + 1 => putF 41 (putF 41 (cB2 f k) (27 + nI k) (-1)) (34 + nI k) (-1)
def rm_k_fill41 : Room := { frames := 0, cells := 0, slots := 0, locals := 0 }
set_option maxHeartbeats 4000000 in
set_option maxRecDepth 100000 in
theorem k_fill41 {l : Launch} {D : va_G} {cI cZ : ClassId} {sz : Nat} (a : Nat) (f : Nat → Int32) : KV l yJ7_fill_53178 cJ7_fill_53178 4 rm_k_fill41 D cI cZ [.ref a, .int 0] sz [(a, .inl (cI, 41, .inl f))] (fun (_ : Unit) => True) (fun (_ : Unit) => [(a, .inl (cI, 41, .inl (fillZ f 41)))]) := by
  refine KV.go rfl (Nat.le_of_ble_eq_true rfl) ?_
  intro p e s m args below meth c ls A Q hx hb hml hts hown hin hP hK hD hS hA hN hl hret
  have hl : lv_has ls 4 [(0, .ref a), (1, .int 0)] := hl
  refine lv_iconst (v := 0) hx hb dJ7_fill_53178_0 (by decide) ?_
  refine lv_istore_n (lv' := [(2, .int 0), (0, .ref a), (1, .int 0)]) hx hb dJ7_fill_53178_1 rfl hl (by decide) rfl (fun ls hl => ?_)
  refine lv_aload_n hx hb dJ7_fill_53178_2 rfl (lv_at hl 1 rfl) ?_
  refine va_alen (v := 41) hx hb hK hP 0 0 rfl rfl rfl dJ7_fill_53178_3 ?_
  refine lv_istore_n (lv' := [(3, .int 41), (2, .int 0), (0, .ref a), (1, .int 0)]) hx hb dJ7_fill_53178_4 rfl hl (by decide) rfl (fun ls hl => ?_)
  have lp_1 : ∀ (n k : Nat), k + n = 41 → ∀ (H : Heap) (locs : List Loc) (ls : Array Slot), va_P D classes [(a, .inl (cI, 41, .inl (fillZ f k)))] H → va_D A [(a, .inl (cI, 41, .inl (fillZ f k)))] → va_S A s.heap H locs → lv_has ls 4 [(3, .int 41), (2, .int (nI k)), (0, .ref a), (1, .int 0)] → W p l e rm_k_fill41 s m args below meth c H locs 0 0 Q (F0 m 5 ls []) := by
    intro n
    induction n with
    | zero =>
      intro k hk H locs ls hP hD hS hl
      obtain rfl : k = 41 := by omega
      refine lv_iload_n hx hb dJ7_fill_53178_5 rfl (lv_at hl 1 rfl) ?_
      refine lv_iload_n hx hb dJ7_fill_53178_6 rfl (lv_at hl 0 rfl) ?_
      refine lv_icmp_ge (tgt := 20) hx hb dJ7_fill_53178_7 (by decide) (fun c_2 => ?_) (fun c_2 => absurd (by decide +kernel) c_2)
      exact hret () _ _ _ _ dJ7_fill_53178_20 trivial hP hD hS
    | succ n ih_lp_1 =>
      intro k hk H locs ls hP hD hS hl
      have hkN_lp_1 : k < 41 := by omega
      refine lv_iload_n hx hb dJ7_fill_53178_5 rfl (lv_at hl 1 rfl) ?_
      refine lv_iload_n hx hb dJ7_fill_53178_6 rfl (lv_at hl 0 rfl) ?_
      refine lv_icmp_ge (tgt := 20) hx hb dJ7_fill_53178_7 (by decide) (fun c_3 => absurd c_3 (nI_ge hkN_lp_1 (by decide))) (fun c_3 => ?_)
      refine lv_aload_n hx hb dJ7_fill_53178_10 rfl (lv_at hl 2 rfl) ?_
      refine lv_iload_n hx hb dJ7_fill_53178_11 rfl (lv_at hl 1 rfl) ?_
      refine lv_iload_n hx hb dJ7_fill_53178_12 rfl (lv_at hl 3 rfl) ?_
      refine va_iast hx hb hK hP hD hS 0 0 rfl rfl (nI_in hkN_lp_1 (by decide)) dJ7_fill_53178_13 (fun H locs hP hD hS => ?_)
      have hP : va_P D classes [(a, .inl (cI, 41, .inl (upd (fillZ f k) ((nI k) : Int32).toNatClampNeg 0)))] H := hP
      have hD : va_D A [(a, .inl (cI, 41, .inl (upd (fillZ f k) ((nI k) : Int32).toNatClampNeg 0)))] := hD
      refine lv_iinc (v := (nI (k + 1))) (lv' := [(2, .int (nI (k + 1))), (3, .int 41), (0, .ref a), (1, .int 0)]) hx hb dJ7_fill_53178_14 hl (k := 1) rfl (nI_1 k) (by decide) rfl (fun ls hl => ?_)
      refine lv_goto (tgt := 5) hx hb dJ7_fill_53178_17 (by decide) ?_
      exact ih_lp_1 (k + 1) (by omega) _ _ ls hP hD hS (lv_sub hl [1, 0, 2, 3] rfl)
  exact lp_1 41 0 (by omega) _ _ ls hP hD hS hl
def rm_k_fill6 : Room := { frames := 0, cells := 0, slots := 0, locals := 0 }
set_option maxHeartbeats 4000000 in
set_option maxRecDepth 100000 in
theorem k_fill6 {l : Launch} {D : va_G} {cI cZ : ClassId} {sz : Nat} (a : Nat) (f : Nat → Int32) : KV l yJ7_fill_53178 cJ7_fill_53178 4 rm_k_fill6 D cI cZ [.ref a, .int 0] sz [(a, .inl (cI, 6, .inl f))] (fun (_ : Unit) => True) (fun (_ : Unit) => [(a, .inl (cI, 6, .inl (fillZ f 6)))]) := by
  refine KV.go rfl (Nat.le_of_ble_eq_true rfl) ?_
  intro p e s m args below meth c ls A Q hx hb hml hts hown hin hP hK hD hS hA hN hl hret
  have hl : lv_has ls 4 [(0, .ref a), (1, .int 0)] := hl
  refine lv_iconst (v := 0) hx hb dJ7_fill_53178_0 (by decide) ?_
  refine lv_istore_n (lv' := [(2, .int 0), (0, .ref a), (1, .int 0)]) hx hb dJ7_fill_53178_1 rfl hl (by decide) rfl (fun ls hl => ?_)
  refine lv_aload_n hx hb dJ7_fill_53178_2 rfl (lv_at hl 1 rfl) ?_
  refine va_alen (v := 6) hx hb hK hP 0 0 rfl rfl rfl dJ7_fill_53178_3 ?_
  refine lv_istore_n (lv' := [(3, .int 6), (2, .int 0), (0, .ref a), (1, .int 0)]) hx hb dJ7_fill_53178_4 rfl hl (by decide) rfl (fun ls hl => ?_)
  have lp_1 : ∀ (n k : Nat), k + n = 6 → ∀ (H : Heap) (locs : List Loc) (ls : Array Slot), va_P D classes [(a, .inl (cI, 6, .inl (fillZ f k)))] H → va_D A [(a, .inl (cI, 6, .inl (fillZ f k)))] → va_S A s.heap H locs → lv_has ls 4 [(3, .int 6), (2, .int (nI k)), (0, .ref a), (1, .int 0)] → W p l e rm_k_fill6 s m args below meth c H locs 0 0 Q (F0 m 5 ls []) := by
    intro n
    induction n with
    | zero =>
      intro k hk H locs ls hP hD hS hl
      obtain rfl : k = 6 := by omega
      refine lv_iload_n hx hb dJ7_fill_53178_5 rfl (lv_at hl 1 rfl) ?_
      refine lv_iload_n hx hb dJ7_fill_53178_6 rfl (lv_at hl 0 rfl) ?_
      refine lv_icmp_ge (tgt := 20) hx hb dJ7_fill_53178_7 (by decide) (fun c_2 => ?_) (fun c_2 => absurd (by decide +kernel) c_2)
      exact hret () _ _ _ _ dJ7_fill_53178_20 trivial hP hD hS
    | succ n ih_lp_1 =>
      intro k hk H locs ls hP hD hS hl
      have hkN_lp_1 : k < 6 := by omega
      refine lv_iload_n hx hb dJ7_fill_53178_5 rfl (lv_at hl 1 rfl) ?_
      refine lv_iload_n hx hb dJ7_fill_53178_6 rfl (lv_at hl 0 rfl) ?_
      refine lv_icmp_ge (tgt := 20) hx hb dJ7_fill_53178_7 (by decide) (fun c_3 => absurd c_3 (nI_ge hkN_lp_1 (by decide))) (fun c_3 => ?_)
      refine lv_aload_n hx hb dJ7_fill_53178_10 rfl (lv_at hl 2 rfl) ?_
      refine lv_iload_n hx hb dJ7_fill_53178_11 rfl (lv_at hl 1 rfl) ?_
      refine lv_iload_n hx hb dJ7_fill_53178_12 rfl (lv_at hl 3 rfl) ?_
      refine va_iast hx hb hK hP hD hS 0 0 rfl rfl (nI_in hkN_lp_1 (by decide)) dJ7_fill_53178_13 (fun H locs hP hD hS => ?_)
      have hP : va_P D classes [(a, .inl (cI, 6, .inl (upd (fillZ f k) ((nI k) : Int32).toNatClampNeg 0)))] H := hP
      have hD : va_D A [(a, .inl (cI, 6, .inl (upd (fillZ f k) ((nI k) : Int32).toNatClampNeg 0)))] := hD
      refine lv_iinc (v := (nI (k + 1))) (lv' := [(2, .int (nI (k + 1))), (3, .int 6), (0, .ref a), (1, .int 0)]) hx hb dJ7_fill_53178_14 hl (k := 1) rfl (nI_1 k) (by decide) rfl (fun ls hl => ?_)
      refine lv_goto (tgt := 5) hx hb dJ7_fill_53178_17 (by decide) ?_
      exact ih_lp_1 (k + 1) (by omega) _ _ ls hP hD hS (lv_sub hl [1, 0, 2, 3] rfl)
  exact lp_1 6 0 (by omega) _ _ ls hP hD hS hl
def rm_k_fill48 : Room := { frames := 0, cells := 0, slots := 0, locals := 0 }
set_option maxHeartbeats 4000000 in
set_option maxRecDepth 100000 in
theorem k_fill48 {l : Launch} {D : va_G} {cI cZ : ClassId} {sz : Nat} (a : Nat) (f : Nat → Int32) : KV l yJ7_fill_53178 cJ7_fill_53178 4 rm_k_fill48 D cI cZ [.ref a, .int 0] sz [(a, .inl (cI, 48, .inl f))] (fun (_ : Unit) => True) (fun (_ : Unit) => [(a, .inl (cI, 48, .inl (fillZ f 48)))]) := by
  refine KV.go rfl (Nat.le_of_ble_eq_true rfl) ?_
  intro p e s m args below meth c ls A Q hx hb hml hts hown hin hP hK hD hS hA hN hl hret
  have hl : lv_has ls 4 [(0, .ref a), (1, .int 0)] := hl
  refine lv_iconst (v := 0) hx hb dJ7_fill_53178_0 (by decide) ?_
  refine lv_istore_n (lv' := [(2, .int 0), (0, .ref a), (1, .int 0)]) hx hb dJ7_fill_53178_1 rfl hl (by decide) rfl (fun ls hl => ?_)
  refine lv_aload_n hx hb dJ7_fill_53178_2 rfl (lv_at hl 1 rfl) ?_
  refine va_alen (v := 48) hx hb hK hP 0 0 rfl rfl rfl dJ7_fill_53178_3 ?_
  refine lv_istore_n (lv' := [(3, .int 48), (2, .int 0), (0, .ref a), (1, .int 0)]) hx hb dJ7_fill_53178_4 rfl hl (by decide) rfl (fun ls hl => ?_)
  have lp_1 : ∀ (n k : Nat), k + n = 48 → ∀ (H : Heap) (locs : List Loc) (ls : Array Slot), va_P D classes [(a, .inl (cI, 48, .inl (fillZ f k)))] H → va_D A [(a, .inl (cI, 48, .inl (fillZ f k)))] → va_S A s.heap H locs → lv_has ls 4 [(3, .int 48), (2, .int (nI k)), (0, .ref a), (1, .int 0)] → W p l e rm_k_fill48 s m args below meth c H locs 0 0 Q (F0 m 5 ls []) := by
    intro n
    induction n with
    | zero =>
      intro k hk H locs ls hP hD hS hl
      obtain rfl : k = 48 := by omega
      refine lv_iload_n hx hb dJ7_fill_53178_5 rfl (lv_at hl 1 rfl) ?_
      refine lv_iload_n hx hb dJ7_fill_53178_6 rfl (lv_at hl 0 rfl) ?_
      refine lv_icmp_ge (tgt := 20) hx hb dJ7_fill_53178_7 (by decide) (fun c_2 => ?_) (fun c_2 => absurd (by decide +kernel) c_2)
      exact hret () _ _ _ _ dJ7_fill_53178_20 trivial hP hD hS
    | succ n ih_lp_1 =>
      intro k hk H locs ls hP hD hS hl
      have hkN_lp_1 : k < 48 := by omega
      refine lv_iload_n hx hb dJ7_fill_53178_5 rfl (lv_at hl 1 rfl) ?_
      refine lv_iload_n hx hb dJ7_fill_53178_6 rfl (lv_at hl 0 rfl) ?_
      refine lv_icmp_ge (tgt := 20) hx hb dJ7_fill_53178_7 (by decide) (fun c_3 => absurd c_3 (nI_ge hkN_lp_1 (by decide))) (fun c_3 => ?_)
      refine lv_aload_n hx hb dJ7_fill_53178_10 rfl (lv_at hl 2 rfl) ?_
      refine lv_iload_n hx hb dJ7_fill_53178_11 rfl (lv_at hl 1 rfl) ?_
      refine lv_iload_n hx hb dJ7_fill_53178_12 rfl (lv_at hl 3 rfl) ?_
      refine va_iast hx hb hK hP hD hS 0 0 rfl rfl (nI_in hkN_lp_1 (by decide)) dJ7_fill_53178_13 (fun H locs hP hD hS => ?_)
      have hP : va_P D classes [(a, .inl (cI, 48, .inl (upd (fillZ f k) ((nI k) : Int32).toNatClampNeg 0)))] H := hP
      have hD : va_D A [(a, .inl (cI, 48, .inl (upd (fillZ f k) ((nI k) : Int32).toNatClampNeg 0)))] := hD
      refine lv_iinc (v := (nI (k + 1))) (lv' := [(2, .int (nI (k + 1))), (3, .int 48), (0, .ref a), (1, .int 0)]) hx hb dJ7_fill_53178_14 hl (k := 1) rfl (nI_1 k) (by decide) rfl (fun ls hl => ?_)
      refine lv_goto (tgt := 5) hx hb dJ7_fill_53178_17 (by decide) ?_
      exact ih_lp_1 (k + 1) (by omega) _ _ ls hP hD hS (lv_sub hl [1, 0, 2, 3] rfl)
  exact lp_1 48 0 (by omega) _ _ ls hP hD hS hl
def rm_k_begin : Room := { frames := 1, cells := 0, slots := 0, locals := 23 }
set_option maxHeartbeats 4000000 in
set_option maxRecDepth 100000 in
theorem k_begin {l : Launch} {D : va_G} {cI cZ : ClassId} {sz : Nat} (h a : Nat) (f : Nat → Int32) (t : Nat) (t0 t1 t3 t4 : Int32) (ta tb tc td te : Nat) : KV l yX7_begin cX7_begin 3 rm_k_begin D cI cZ [.ref h, .ref t] sz [(h, .inr (7, [.ref a])), (a, .inl (cI, 41, .inl f)), (t, .inr (8, [.int t0, .int t1, .int 0, .int t3, .int t4, .ref ta, .ref tb, .ref tc, .ref td, .ref te]))] (fun (_ : Unit) => True) (fun (_ : Unit) => [(h, .inr (7, [.ref a])), (a, .inl (cI, 41, .inl (cB2 f 7))), (t, .inr (8, [.int t0, .int t1, .int 0, .int t3, .int t4, .ref ta, .ref tb, .ref tc, .ref td, .ref te]))]) := by
  refine KV.go rfl (Nat.le_of_ble_eq_true rfl) ?_
  intro p e s m args below meth c ls A Q hx hb hml hts hown hin hP hK hD hS hA hN hl hret
  have hl : lv_has ls 3 [(0, .ref h), (1, .ref t)] := hl
  refine lv_aload_n hx hb dX7_begin_0 rfl (lv_at hl 0 rfl) ?_
  refine va_get (D := D) (ci := 7) (v := .ref a) (C := RX7) (T := TX7) (N := 1) hx hb hts iX7 hown hK hP 0 rfl rfl 0 (by decide) (hts _ wd_15) (fun _ h9 => h9) rfl dX7_begin_1 ?_
  refine lv_iconst (v := 0) hx hb dX7_begin_4 (by decide) ?_
  refine cSv (wr := [(h, .inr (7, [.ref a])), (t, .inr (8, [.int t0, .int t1, .int 0, .int t3, .int t4, .ref ta, .ref tb, .ref tc, .ref td, .ref te]))]) (rest := []) (k_fill41 a f) okS_J7_fill_53178 wd_66 hx hb hml hown hts hK hP hD hS hA hN hl.1 [1] [0, 2] rfl rfl rfl rfl (by decide) rfl (Nat.le_of_ble_eq_true rfl) (Nat.le_of_ble_eq_true rfl) (Nat.le_of_ble_eq_true rfl) (Nat.le_of_ble_eq_true rfl) (Nat.le_of_ble_eq_true rfl) dX7_begin_5 (fun u_1 H locs hw_u_1 hP hD hS => ?_)
  have hP : va_P D classes [(h, .inr (7, [.ref a])), (t, .inr (8, [.int t0, .int t1, .int 0, .int t3, .int t4, .ref ta, .ref tb, .ref tc, .ref td, .ref te])), (a, .inl (cI, 41, .inl (fillZ f 41)))] H := hP
  have hD : va_D A [(h, .inr (7, [.ref a])), (t, .inr (8, [.int t0, .int t1, .int 0, .int t3, .int t4, .ref ta, .ref tb, .ref tc, .ref td, .ref te])), (a, .inl (cI, 41, .inl (fillZ f 41)))] := hD
  refine lv_iconst (v := 0) hx hb dX7_begin_8 (by decide) ?_
  refine lv_istore_n (lv' := [(2, .int 0), (0, .ref h), (1, .ref t)]) hx hb dX7_begin_9 rfl hl (by decide) rfl (fun ls hl => ?_)
  have lp_3 : ∀ (n k : Nat), k + n = 6 → ∀ (H : Heap) (locs : List Loc) (ls : Array Slot), va_P D classes [(h, .inr (7, [.ref a])), (t, .inr (8, [.int t0, .int t1, .int 0, .int t3, .int t4, .ref ta, .ref tb, .ref tc, .ref td, .ref te])), (a, .inl (cI, 41, .inl (cB1 f k)))] H → va_D A [(h, .inr (7, [.ref a])), (t, .inr (8, [.int t0, .int t1, .int 0, .int t3, .int t4, .ref ta, .ref tb, .ref tc, .ref td, .ref te])), (a, .inl (cI, 41, .inl (cB1 f k)))] → va_S A s.heap H locs → lv_has ls 3 [(2, .int (nI k)), (0, .ref h), (1, .ref t)] → W p l e rm_k_begin s m args below meth c H locs 0 0 Q (F0 m 10 ls []) := by
    intro n
    induction n with
    | zero =>
      intro k hk H locs ls hP hD hS hl
      obtain rfl : k = 6 := by omega
      refine lv_iload_n hx hb dX7_begin_10 rfl (lv_at hl 0 rfl) ?_
      refine lv_bipush (v := 6) hx hb dX7_begin_11 (by decide) ?_
      refine lv_icmp_ge (tgt := 64) hx hb dX7_begin_13 (by decide) (fun c_4 => ?_) (fun c_4 => absurd (by decide +kernel) c_4)
      refine lv_iconst (v := 0) hx hb dX7_begin_64 (by decide) ?_
      refine lv_istore_n (lv' := [(2, .int 0), (0, .ref h), (1, .ref t)]) hx hb dX7_begin_65 rfl hl (by decide) rfl (fun ls hl => ?_)
      have lp_5 : ∀ (n j : Nat), j + n = 7 → ∀ (H : Heap) (locs : List Loc) (ls : Array Slot), va_P D classes [(h, .inr (7, [.ref a])), (t, .inr (8, [.int t0, .int t1, .int 0, .int t3, .int t4, .ref ta, .ref tb, .ref tc, .ref td, .ref te])), (a, .inl (cI, 41, .inl (cB2 f j)))] H → va_D A [(h, .inr (7, [.ref a])), (t, .inr (8, [.int t0, .int t1, .int 0, .int t3, .int t4, .ref ta, .ref tb, .ref tc, .ref td, .ref te])), (a, .inl (cI, 41, .inl (cB2 f j)))] → va_S A s.heap H locs → lv_has ls 3 [(2, .int (nI j)), (0, .ref h), (1, .ref t)] → W p l e rm_k_begin s m args below meth c H locs 0 0 Q (F0 m 66 ls []) := by
        intro n
        induction n with
        | zero =>
          intro j hk H locs ls hP hD hS hl
          obtain rfl : j = 7 := by omega
          refine lv_iload_n hx hb dX7_begin_66 rfl (lv_at hl 0 rfl) ?_
          refine lv_bipush (v := 7) hx hb dX7_begin_67 (by decide) ?_
          refine lv_icmp_ge (tgt := 102) hx hb dX7_begin_69 (by decide) (fun c_6 => ?_) (fun c_6 => absurd (by decide +kernel) c_6)
          exact hret () _ _ _ _ dX7_begin_102 trivial (cutP (isC := [0, 2, 1]) hP rfl) (cutD (isC := [0, 2, 1]) hD rfl rfl) hS
        | succ n ih_lp_5 =>
          intro j hk H locs ls hP hD hS hl
          have hkN_lp_5 : j < 7 := by omega
          refine lv_iload_n hx hb dX7_begin_66 rfl (lv_at hl 0 rfl) ?_
          refine lv_bipush (v := 7) hx hb dX7_begin_67 (by decide) ?_
          refine lv_icmp_ge (tgt := 102) hx hb dX7_begin_69 (by decide) (fun c_7 => absurd c_7 (nI_ge hkN_lp_5 (by decide))) (fun c_7 => ?_)
          refine lv_aload_n hx hb dX7_begin_72 rfl (lv_at hl 1 rfl) ?_
          refine va_get (D := D) (ci := 7) (v := .ref a) (C := RX7) (T := TX7) (N := 1) hx hb hts iX7 hown hK hP 0 rfl rfl 0 (by decide) (hts _ wd_15) (fun _ h9 => h9) rfl dX7_begin_73 ?_
          refine lv_bipush (v := 27) hx hb dX7_begin_76 (by decide) ?_
          refine lv_iload_n hx hb dX7_begin_78 rfl (lv_at hl 0 rfl) ?_
          refine lv_iadd hx hb dX7_begin_79 ?_
          refine lv_iconst (v := (-1)) hx hb dX7_begin_80 (by decide) ?_
          refine cNv (wr := [(h, .inr (7, [.ref a])), (t, .inr (8, [.int t0, .int t1, .int 0, .int t3, .int t4, .ref ta, .ref tb, .ref tc, .ref td, .ref te]))]) (rest := []) (k_put a 41 (cB2 f j) (27 + (nI j)) (-1) (by decide)) okS_X9_put 17 rfl hx hb hml hown hts hK hP hD hS hA hN hl.1 [2] [0, 1] rfl rfl rfl rfl (by decide) rfl (Nat.le_of_ble_eq_true rfl) (Nat.le_of_ble_eq_true rfl) (Nat.le_of_ble_eq_true rfl) (Nat.le_of_ble_eq_true rfl) (Nat.le_of_ble_eq_true rfl) dX7_begin_81 (fun u_8 H locs hw_u_8 hP hD hS => ?_)
          have hP : va_P D classes [(h, .inr (7, [.ref a])), (t, .inr (8, [.int t0, .int t1, .int 0, .int t3, .int t4, .ref ta, .ref tb, .ref tc, .ref td, .ref te])), (a, .inl (cI, 41, .inl (putF 41 (cB2 f j) (27 + (nI j)) (-1))))] H := hP
          have hD : va_D A [(h, .inr (7, [.ref a])), (t, .inr (8, [.int t0, .int t1, .int 0, .int t3, .int t4, .ref ta, .ref tb, .ref tc, .ref td, .ref te])), (a, .inl (cI, 41, .inl (putF 41 (cB2 f j) (27 + (nI j)) (-1))))] := hD
          refine lv_aload_n hx hb dX7_begin_84 rfl (lv_at hl 1 rfl) ?_
          refine va_get (D := D) (ci := 7) (v := .ref a) (C := RX7) (T := TX7) (N := 1) hx hb hts iX7 hown hK hP 0 rfl rfl 0 (by decide) (hts _ wd_15) (fun _ h9 => h9) rfl dX7_begin_85 ?_
          refine lv_bipush (v := 34) hx hb dX7_begin_88 (by decide) ?_
          refine lv_iload_n hx hb dX7_begin_90 rfl (lv_at hl 0 rfl) ?_
          refine lv_iadd hx hb dX7_begin_91 ?_
          refine lv_iconst (v := (-1)) hx hb dX7_begin_92 (by decide) ?_
          refine cNv (wr := [(h, .inr (7, [.ref a])), (t, .inr (8, [.int t0, .int t1, .int 0, .int t3, .int t4, .ref ta, .ref tb, .ref tc, .ref td, .ref te]))]) (rest := []) (k_put a 41 (putF 41 (cB2 f j) (27 + (nI j)) (-1)) (34 + (nI j)) (-1) (by decide)) okS_X9_put 17 rfl hx hb hml hown hts hK hP hD hS hA hN hl.1 [2] [0, 1] rfl rfl rfl rfl (by decide) rfl (Nat.le_of_ble_eq_true rfl) (Nat.le_of_ble_eq_true rfl) (Nat.le_of_ble_eq_true rfl) (Nat.le_of_ble_eq_true rfl) (Nat.le_of_ble_eq_true rfl) dX7_begin_93 (fun u_10 H locs hw_u_10 hP hD hS => ?_)
          have hP : va_P D classes [(h, .inr (7, [.ref a])), (t, .inr (8, [.int t0, .int t1, .int 0, .int t3, .int t4, .ref ta, .ref tb, .ref tc, .ref td, .ref te])), (a, .inl (cI, 41, .inl (putF 41 (putF 41 (cB2 f j) (27 + (nI j)) (-1)) (34 + (nI j)) (-1))))] H := hP
          have hD : va_D A [(h, .inr (7, [.ref a])), (t, .inr (8, [.int t0, .int t1, .int 0, .int t3, .int t4, .ref ta, .ref tb, .ref tc, .ref td, .ref te])), (a, .inl (cI, 41, .inl (putF 41 (putF 41 (cB2 f j) (27 + (nI j)) (-1)) (34 + (nI j)) (-1))))] := hD
          refine lv_iinc (v := (nI (j + 1))) (lv' := [(2, .int (nI (j + 1))), (0, .ref h), (1, .ref t)]) hx hb dX7_begin_96 hl (k := 0) rfl (nI_1 j) (by decide) rfl (fun ls hl => ?_)
          refine lv_goto (tgt := 66) hx hb dX7_begin_99 (by decide) ?_
          exact ih_lp_5 (j + 1) (by omega) _ _ ls hP hD hS (lv_sub hl [0, 1, 2] rfl)
      exact lp_5 7 0 (by omega) _ _ ls hP hD hS hl
    | succ n ih_lp_3 =>
      intro k hk H locs ls hP hD hS hl
      have hkN_lp_3 : k < 6 := by omega
      refine lv_iload_n hx hb dX7_begin_10 rfl (lv_at hl 0 rfl) ?_
      refine lv_bipush (v := 6) hx hb dX7_begin_11 (by decide) ?_
      refine lv_icmp_ge (tgt := 64) hx hb dX7_begin_13 (by decide) (fun c_12 => absurd c_12 (nI_ge hkN_lp_3 (by decide))) (fun c_12 => ?_)
      refine lv_aload_n hx hb dX7_begin_16 rfl (lv_at hl 1 rfl) ?_
      refine va_get (D := D) (ci := 7) (v := .ref a) (C := RX7) (T := TX7) (N := 1) hx hb hts iX7 hown hK hP 0 rfl rfl 0 (by decide) (hts _ wd_15) (fun _ h9 => h9) rfl dX7_begin_17 ?_
      refine lv_iconst (v := 2) hx hb dX7_begin_20 (by decide) ?_
      refine lv_iload_n hx hb dX7_begin_21 rfl (lv_at hl 0 rfl) ?_
      refine lv_iadd hx hb dX7_begin_22 ?_
      refine lv_iload_n hx hb dX7_begin_23 rfl (lv_at hl 0 rfl) ?_
      refine lv_aload_n hx hb dX7_begin_24 rfl (lv_at hl 2 rfl) ?_
      refine va_get (D := D) (ci := 8) (v := .int 0) (C := RX8) (T := TX8) (N := 10) hx hb hts iX8 hown hK hP 1 rfl rfl 2 (by decide) (hts _ wd_73) (fun _ h9 => h9) rfl dX7_begin_25 ?_
      refine lv_icmp_ge (tgt := 42) hx hb dX7_begin_28 (by decide) (fun c_13 => ?_) (fun c_13 => absurd (nI_pos' (by omega)) c_13)
      refine lv_iconst (v := 0) hx hb dX7_begin_42 (by decide) ?_
      refine cNv (wr := [(h, .inr (7, [.ref a])), (t, .inr (8, [.int t0, .int t1, .int 0, .int t3, .int t4, .ref ta, .ref tb, .ref tc, .ref td, .ref te]))]) (rest := []) (k_put a 41 (cB1 f k) (2 + (nI k)) 0 (by decide)) okS_X9_put 17 rfl hx hb hml hown hts hK hP hD hS hA hN hl.1 [2] [0, 1] rfl rfl rfl rfl (by decide) rfl (Nat.le_of_ble_eq_true rfl) (Nat.le_of_ble_eq_true rfl) (Nat.le_of_ble_eq_true rfl) (Nat.le_of_ble_eq_true rfl) (Nat.le_of_ble_eq_true rfl) dX7_begin_43 (fun u_14 H locs hw_u_14 hP hD hS => ?_)
      have hP : va_P D classes [(h, .inr (7, [.ref a])), (t, .inr (8, [.int t0, .int t1, .int 0, .int t3, .int t4, .ref ta, .ref tb, .ref tc, .ref td, .ref te])), (a, .inl (cI, 41, .inl (putF 41 (cB1 f k) (2 + (nI k)) 0)))] H := hP
      have hD : va_D A [(h, .inr (7, [.ref a])), (t, .inr (8, [.int t0, .int t1, .int 0, .int t3, .int t4, .ref ta, .ref tb, .ref tc, .ref td, .ref te])), (a, .inl (cI, 41, .inl (putF 41 (cB1 f k) (2 + (nI k)) 0)))] := hD
      refine lv_aload_n hx hb dX7_begin_46 rfl (lv_at hl 1 rfl) ?_
      refine va_get (D := D) (ci := 7) (v := .ref a) (C := RX7) (T := TX7) (N := 1) hx hb hts iX7 hown hK hP 0 rfl rfl 0 (by decide) (hts _ wd_15) (fun _ h9 => h9) rfl dX7_begin_47 ?_
      refine lv_bipush (v := 8) hx hb dX7_begin_50 (by decide) ?_
      refine lv_iload_n hx hb dX7_begin_52 rfl (lv_at hl 0 rfl) ?_
      refine lv_iadd hx hb dX7_begin_53 ?_
      refine lv_iconst (v := (-1)) hx hb dX7_begin_54 (by decide) ?_
      refine cNv (wr := [(h, .inr (7, [.ref a])), (t, .inr (8, [.int t0, .int t1, .int 0, .int t3, .int t4, .ref ta, .ref tb, .ref tc, .ref td, .ref te]))]) (rest := []) (k_put a 41 (putF 41 (cB1 f k) (2 + (nI k)) 0) (8 + (nI k)) (-1) (by decide)) okS_X9_put 17 rfl hx hb hml hown hts hK hP hD hS hA hN hl.1 [2] [0, 1] rfl rfl rfl rfl (by decide) rfl (Nat.le_of_ble_eq_true rfl) (Nat.le_of_ble_eq_true rfl) (Nat.le_of_ble_eq_true rfl) (Nat.le_of_ble_eq_true rfl) (Nat.le_of_ble_eq_true rfl) dX7_begin_55 (fun u_16 H locs hw_u_16 hP hD hS => ?_)
      have hP : va_P D classes [(h, .inr (7, [.ref a])), (t, .inr (8, [.int t0, .int t1, .int 0, .int t3, .int t4, .ref ta, .ref tb, .ref tc, .ref td, .ref te])), (a, .inl (cI, 41, .inl (putF 41 (putF 41 (cB1 f k) (2 + (nI k)) 0) (8 + (nI k)) (-1))))] H := hP
      have hD : va_D A [(h, .inr (7, [.ref a])), (t, .inr (8, [.int t0, .int t1, .int 0, .int t3, .int t4, .ref ta, .ref tb, .ref tc, .ref td, .ref te])), (a, .inl (cI, 41, .inl (putF 41 (putF 41 (cB1 f k) (2 + (nI k)) 0) (8 + (nI k)) (-1))))] := hD
      refine lv_iinc (v := (nI (k + 1))) (lv' := [(2, .int (nI (k + 1))), (0, .ref h), (1, .ref t)]) hx hb dX7_begin_58 hl (k := 0) rfl (nI_1 k) (by decide) rfl (fun ls hl => ?_)
      refine lv_goto (tgt := 10) hx hb dX7_begin_61 (by decide) ?_
      exact ih_lp_3 (k + 1) (by omega) _ _ ls hP hD hS (lv_sub hl [0, 1, 2] rfl)
  exact lp_3 6 0 (by omega) _ _ ls hP hD hS hl
