theorem dX9_at_0 : decode cX9_at 0 = .ok (.iload_n 1, 1) := by decide +kernel
theorem dX9_at_1 : decode cX9_at 1 = .ok (.ifCond .lt 15, 3) := by decide +kernel
theorem dX9_at_16 : decode cX9_at 16 = .ok (.iconst 0, 1) := by decide +kernel
theorem dX9_at_17 : decode cX9_at 17 = .ok (.ireturn, 1) := by decide +kernel
theorem dX9_at_4 : decode cX9_at 4 = .ok (.iload_n 1, 1) := by decide +kernel
theorem dX9_at_5 : decode cX9_at 5 = .ok (.aload_n 0, 1) := by decide +kernel
theorem dX9_at_6 : decode cX9_at 6 = .ok (.arraylength, 1) := by decide +kernel
theorem dX9_at_7 : decode cX9_at 7 = .ok (.if_icmp .ge 9, 3) := by decide +kernel
theorem dX9_at_10 : decode cX9_at 10 = .ok (.aload_n 0, 1) := by decide +kernel
theorem dX9_at_11 : decode cX9_at 11 = .ok (.iload_n 1, 1) := by decide +kernel
theorem dX9_at_12 : decode cX9_at 12 = .ok (.iaload, 1) := by decide +kernel
theorem dX9_at_13 : decode cX9_at 13 = .ok (.goto 4, 3) := by decide +kernel
theorem dX9_put_0 : decode cX9_put 0 = .ok (.iload_n 1, 1) := by decide +kernel
theorem dX9_put_1 : decode cX9_put 1 = .ok (.ifCond .lt 13, 3) := by decide +kernel
theorem dX9_put_14 : decode cX9_put 14 = .ok (.return_, 1) := by decide +kernel
theorem dX9_put_4 : decode cX9_put 4 = .ok (.iload_n 1, 1) := by decide +kernel
theorem dX9_put_5 : decode cX9_put 5 = .ok (.aload_n 0, 1) := by decide +kernel
theorem dX9_put_6 : decode cX9_put 6 = .ok (.arraylength, 1) := by decide +kernel
theorem dX9_put_7 : decode cX9_put 7 = .ok (.if_icmp .ge 7, 3) := by decide +kernel
theorem dX9_put_10 : decode cX9_put 10 = .ok (.aload_n 0, 1) := by decide +kernel
theorem dX9_put_11 : decode cX9_put 11 = .ok (.iload_n 1, 1) := by decide +kernel
theorem dX9_put_12 : decode cX9_put 12 = .ok (.iload_n 2, 1) := by decide +kernel
theorem dX9_put_13 : decode cX9_put 13 = .ok (.iastore, 1) := by decide +kernel
theorem vin {i : Int32} {n : Nat} (hn : n < 2 ^ 31) (h1 : ¬ i < 0) (h2 : ¬ Int32.ofNat n ≤ i) : vp_in i n := by
  obtain ⟨j, hj, rfl⟩ := nI_of h1
  have h3 : ¬ n ≤ j := fun h => h2 ((nI_leI hn hj).mpr h)
  exact nI_in (by omega) hn
theorem vout {i : Int32} {n : Nat} (hn : n < 2 ^ 31) (h1 : ¬ i < 0) (h2 : Int32.ofNat n ≤ i) : n ≤ i.toNatClampNeg := by
  obtain ⟨j, hj, rfl⟩ := nI_of h1
  rw [nI_clamp hj]
  exact (nI_leI hn hj).mp h2
/-- at(row, i) -/
def atF (n : Nat) (f : Nat → Int32) (i : Int32) : Int32 := if i < 0 ∨ n ≤ i.toNatClampNeg then 0 else f i.toNatClampNeg
/-- put(row, i, x) -/
def putF (n : Nat) (f : Nat → Int32) (i x : Int32) : Nat → Int32 := if i < 0 ∨ n ≤ i.toNatClampNeg then f else upd f i.toNatClampNeg x
theorem atF_out {n : Nat} {f : Nat → Int32} {i : Int32} (h : i < 0 ∨ n ≤ i.toNatClampNeg) : 0 = atF n f i := (if_pos h).symm
theorem atF_in {n : Nat} {f : Nat → Int32} {i : Int32} (h : vp_in i n) : f i.toNatClampNeg = atF n f i := (if_neg h).symm
theorem putF_out {n : Nat} {f : Nat → Int32} {i x : Int32} (h : i < 0 ∨ n ≤ i.toNatClampNeg) : f = putF n f i x := (if_pos h).symm
theorem putF_in {n : Nat} {f : Nat → Int32} {i x : Int32} (h : vp_in i n) : upd f i.toNatClampNeg x = putF n f i x := (if_neg h).symm
def rm_k_at : Room := { frames := 0, cells := 0, slots := 0, locals := 0 }
set_option maxHeartbeats 4000000 in
set_option maxRecDepth 100000 in
theorem k_at {l : Launch} {D : va_G} {cI cZ : ClassId} {sz : Nat} (a n : Nat) (f : Nat → Int32) (i : Int32) (hn : n < 2 ^ 31) : KI l yX9_at cX9_at 2 (some .int) rm_k_at D cI cZ [.ref a, .int i] sz [(a, .inl (cI, n, .inl f))] (fun (r : Int32) (_ : Unit) => r = atF n f i) (fun (_ : Unit) => [(a, .inl (cI, n, .inl f))]) := by
  refine KI.go rfl (Nat.le_of_ble_eq_true rfl) ?_
  intro p e s m args below meth c ls A Q hx hb hml hts hown hin hP hK hD hS hA hN hl hret
  have hl : lv_has ls 2 [(0, .ref a), (1, .int i)] := hl
  refine lv_iload_n hx hb dX9_at_0 rfl (lv_at hl 1 rfl) ?_
  refine lv_if_lt (tgt := 16) hx hb dX9_at_1 (by decide) (fun c_1 => ?_) (fun c_1 => ?_)
  · refine lv_iconst (v := 0) hx hb dX9_at_16 (by decide) ?_
    exact hret 0 () _ _ _ _ dX9_at_17 rfl (atF_out (Or.inl c_1)) hP hD hS
  · refine lv_iload_n hx hb dX9_at_4 rfl (lv_at hl 1 rfl) ?_
    refine lv_aload_n hx hb dX9_at_5 rfl (lv_at hl 0 rfl) ?_
    refine va_alen (v := (Int32.ofNat n)) hx hb hK hP 0 0 rfl rfl rfl dX9_at_6 ?_
    refine lv_icmp_ge (tgt := 16) hx hb dX9_at_7 (by decide) (fun c_2 => ?_) (fun c_2 => ?_)
    · refine lv_iconst (v := 0) hx hb dX9_at_16 (by decide) ?_
      exact hret 0 () _ _ _ _ dX9_at_17 rfl (atF_out (Or.inr (vout hn c_1 c_2))) hP hD hS
    · refine lv_aload_n hx hb dX9_at_10 rfl (lv_at hl 0 rfl) ?_
      refine lv_iload_n hx hb dX9_at_11 rfl (lv_at hl 1 rfl) ?_
      refine va_iald hx hb hK hP 0 0 rfl rfl (vin hn c_1 c_2) dX9_at_12 ?_
      refine lv_goto (tgt := 17) hx hb dX9_at_13 (by decide) ?_
      exact hret (f (i : Int32).toNatClampNeg) () _ _ _ _ dX9_at_17 rfl (atF_in (vin hn c_1 c_2)) hP hD hS
def rm_k_put : Room := { frames := 0, cells := 0, slots := 0, locals := 0 }
set_option maxHeartbeats 4000000 in
set_option maxRecDepth 100000 in
theorem k_put {l : Launch} {D : va_G} {cI cZ : ClassId} {sz : Nat} (a n : Nat) (f : Nat → Int32) (i x : Int32) (hn : n < 2 ^ 31) : KV l yX9_put cX9_put 3 rm_k_put D cI cZ [.ref a, .int i, .int x] sz [(a, .inl (cI, n, .inl f))] (fun (_ : Unit) => True) (fun (_ : Unit) => [(a, .inl (cI, n, .inl (putF n f i x)))]) := by
  refine KV.go rfl (Nat.le_of_ble_eq_true rfl) ?_
  intro p e s m args below meth c ls A Q hx hb hml hts hown hin hP hK hD hS hA hN hl hret
  have hl : lv_has ls 3 [(0, .ref a), (1, .int i), (2, .int x)] := hl
  refine lv_iload_n hx hb dX9_put_0 rfl (lv_at hl 1 rfl) ?_
  refine lv_if_lt (tgt := 14) hx hb dX9_put_1 (by decide) (fun c_1 => ?_) (fun c_1 => ?_)
  · have hP : va_P D classes [(a, .inl (cI, n, .inl (putF n f i x)))] s.heap := by rw [← putF_out (x := x) (Or.inl c_1)]; exact hP
    have hD : va_D A [(a, .inl (cI, n, .inl (putF n f i x)))] := by rw [← putF_out (x := x) (Or.inl c_1)]; exact hD
    exact hret () _ _ _ _ dX9_put_14 trivial hP hD hS
  · refine lv_iload_n hx hb dX9_put_4 rfl (lv_at hl 1 rfl) ?_
    refine lv_aload_n hx hb dX9_put_5 rfl (lv_at hl 0 rfl) ?_
    refine va_alen (v := (Int32.ofNat n)) hx hb hK hP 0 0 rfl rfl rfl dX9_put_6 ?_
    refine lv_icmp_ge (tgt := 14) hx hb dX9_put_7 (by decide) (fun c_2 => ?_) (fun c_2 => ?_)
    · have hP : va_P D classes [(a, .inl (cI, n, .inl (putF n f i x)))] s.heap := by rw [← putF_out (x := x) (Or.inr (vout hn c_1 c_2))]; exact hP
      have hD : va_D A [(a, .inl (cI, n, .inl (putF n f i x)))] := by rw [← putF_out (x := x) (Or.inr (vout hn c_1 c_2))]; exact hD
      exact hret () _ _ _ _ dX9_put_14 trivial hP hD hS
    · refine lv_aload_n hx hb dX9_put_10 rfl (lv_at hl 0 rfl) ?_
      refine lv_iload_n hx hb dX9_put_11 rfl (lv_at hl 1 rfl) ?_
      refine lv_iload_n hx hb dX9_put_12 rfl (lv_at hl 2 rfl) ?_
      refine va_iast hx hb hK hP hD hS 0 0 rfl rfl (vin hn c_1 c_2) dX9_put_13 (fun H locs hP hD hS => ?_)
      have hP : va_P D classes [(a, .inl (cI, n, .inl (upd f (i : Int32).toNatClampNeg x)))] H := hP
      have hD : va_D A [(a, .inl (cI, n, .inl (upd f (i : Int32).toNatClampNeg x)))] := hD
      have hP : va_P D classes [(a, .inl (cI, n, .inl (putF n f i x)))] H := by rw [← putF_in (vin hn c_1 c_2)]; exact hP
      have hD : va_D A [(a, .inl (cI, n, .inl (putF n f i x)))] := by rw [← putF_in (vin hn c_1 c_2)]; exact hD
      exact hret () _ _ _ _ dX9_put_14 trivial hP hD hS
