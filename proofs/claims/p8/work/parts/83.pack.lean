section
theorem dX10_init_0 : decode cX10_init 0 = .ok (.aload_n 0, 1) := by decide +kernel
theorem dX10_init_1 : decode cX10_init 1 = .ok (.invokespecial 1, 3) := by decide +kernel
theorem wd_694 : Cond.methodLink RX10 1 objectInit ∈ BG := BG_in (by decide +kernel) rfl
theorem dX10_init_4 : decode cX10_init 4 = .ok (.aload_n 0, 1) := by decide +kernel
theorem dX10_init_5 : decode cX10_init 5 = .ok (.sipush 1302, 3) := by decide +kernel
theorem dX10_init_8 : decode cX10_init 8 = .ok (.newarray .int, 2) := by decide +kernel
theorem dX10_init_10 : decode cX10_init 10 = .ok (.putfield 7, 3) := by decide +kernel
theorem dX10_init_13 : decode cX10_init 13 = .ok (.aload_n 0, 1) := by decide +kernel
theorem dX10_init_14 : decode cX10_init 14 = .ok (.iconst 2, 1) := by decide +kernel
theorem wd_695 : Cond.arrayClass .boolean ∈ BG := BG_in (by decide +kernel) rfl
theorem dX10_init_15 : decode cX10_init 15 = .ok (.newarray .boolean, 2) := by decide +kernel
theorem dX10_init_17 : decode cX10_init 17 = .ok (.putfield 13, 3) := by decide +kernel
theorem dX10_init_20 : decode cX10_init 20 = .ok (.aload_n 0, 1) := by decide +kernel
theorem dX10_init_21 : decode cX10_init 21 = .ok (.iconst 1, 1) := by decide +kernel
theorem dX10_init_22 : decode cX10_init 22 = .ok (.putfield 17, 3) := by decide +kernel
theorem dX10_init_25 : decode cX10_init 25 = .ok (.aload_n 0, 1) := by decide +kernel
theorem dX10_init_26 : decode cX10_init 26 = .ok (.bipush 6, 2) := by decide +kernel
theorem dX10_init_28 : decode cX10_init 28 = .ok (.newarray .int, 2) := by decide +kernel
theorem dX10_init_30 : decode cX10_init 30 = .ok (.putfield 21, 3) := by decide +kernel
theorem dX10_init_33 : decode cX10_init 33 = .ok (.aload_n 0, 1) := by decide +kernel
theorem dX10_init_34 : decode cX10_init 34 = .ok (.bipush 6, 2) := by decide +kernel
theorem dX10_init_36 : decode cX10_init 36 = .ok (.newarray .int, 2) := by decide +kernel
theorem dX10_init_38 : decode cX10_init 38 = .ok (.putfield 24, 3) := by decide +kernel
theorem dX10_init_41 : decode cX10_init 41 = .ok (.aload_n 0, 1) := by decide +kernel
theorem dX10_init_42 : decode cX10_init 42 = .ok (.bipush 30, 2) := by decide +kernel
theorem dX10_init_44 : decode cX10_init 44 = .ok (.newarray .int, 2) := by decide +kernel
theorem dX10_init_46 : decode cX10_init 46 = .ok (.putfield 27, 3) := by decide +kernel
theorem dX10_init_49 : decode cX10_init 49 = .ok (.aload_n 0, 1) := by decide +kernel
theorem dX10_init_50 : decode cX10_init 50 = .ok (.bipush 7, 2) := by decide +kernel
theorem dX10_init_52 : decode cX10_init 52 = .ok (.newarray .int, 2) := by decide +kernel
theorem dX10_init_54 : decode cX10_init 54 = .ok (.putfield 30, 3) := by decide +kernel
theorem dX10_init_57 : decode cX10_init 57 = .ok (.aload_n 0, 1) := by decide +kernel
theorem dX10_init_58 : decode cX10_init 58 = .ok (.bipush 7, 2) := by decide +kernel
theorem dX10_init_60 : decode cX10_init 60 = .ok (.newarray .int, 2) := by decide +kernel
theorem dX10_init_62 : decode cX10_init 62 = .ok (.putfield 33, 3) := by decide +kernel
theorem dX10_init_65 : decode cX10_init 65 = .ok (.aload_n 0, 1) := by decide +kernel
theorem dX10_init_66 : decode cX10_init 66 = .ok (.sipush 240, 3) := by decide +kernel
theorem dX10_init_69 : decode cX10_init 69 = .ok (.newarray .int, 2) := by decide +kernel
theorem dX10_init_71 : decode cX10_init 71 = .ok (.putfield 36, 3) := by decide +kernel
theorem dX10_init_74 : decode cX10_init 74 = .ok (.aload_n 0, 1) := by decide +kernel
theorem dX10_init_75 : decode cX10_init 75 = .ok (.iconst (-1), 1) := by decide +kernel
theorem dX10_init_76 : decode cX10_init 76 = .ok (.putfield 39, 3) := by decide +kernel
theorem dX10_init_79 : decode cX10_init 79 = .ok (.aload_n 0, 1) := by decide +kernel
theorem dX10_init_80 : decode cX10_init 80 = .ok (.bipush 6, 2) := by decide +kernel
theorem dX10_init_82 : decode cX10_init 82 = .ok (.newarray .int, 2) := by decide +kernel
theorem dX10_init_84 : decode cX10_init 84 = .ok (.putfield 42, 3) := by decide +kernel
theorem dX10_init_87 : decode cX10_init 87 = .ok (.aload_n 0, 1) := by decide +kernel
theorem dX10_init_88 : decode cX10_init 88 = .ok (.bipush 6, 2) := by decide +kernel
theorem dX10_init_90 : decode cX10_init 90 = .ok (.newarray .int, 2) := by decide +kernel
theorem dX10_init_92 : decode cX10_init 92 = .ok (.putfield 45, 3) := by decide +kernel
theorem dX10_init_95 : decode cX10_init 95 = .ok (.aload_n 0, 1) := by decide +kernel
theorem dX10_init_96 : decode cX10_init 96 = .ok (.bipush 30, 2) := by decide +kernel
theorem dX10_init_98 : decode cX10_init 98 = .ok (.newarray .int, 2) := by decide +kernel
theorem dX10_init_100 : decode cX10_init 100 = .ok (.putfield 48, 3) := by decide +kernel
theorem dX10_init_103 : decode cX10_init 103 = .ok (.aload_n 0, 1) := by decide +kernel
theorem dX10_init_104 : decode cX10_init 104 = .ok (.bipush 7, 2) := by decide +kernel
theorem dX10_init_106 : decode cX10_init 106 = .ok (.newarray .int, 2) := by decide +kernel
theorem dX10_init_108 : decode cX10_init 108 = .ok (.putfield 51, 3) := by decide +kernel
theorem dX10_init_111 : decode cX10_init 111 = .ok (.aload_n 0, 1) := by decide +kernel
theorem dX10_init_112 : decode cX10_init 112 = .ok (.bipush 7, 2) := by decide +kernel
theorem dX10_init_114 : decode cX10_init 114 = .ok (.newarray .int, 2) := by decide +kernel
theorem dX10_init_116 : decode cX10_init 116 = .ok (.putfield 54, 3) := by decide +kernel
theorem dX10_init_119 : decode cX10_init 119 = .ok (.aload_n 0, 1) := by decide +kernel
theorem dX10_init_120 : decode cX10_init 120 = .ok (.sipush 448, 3) := by decide +kernel
theorem dX10_init_123 : decode cX10_init 123 = .ok (.newarray .int, 2) := by decide +kernel
theorem dX10_init_125 : decode cX10_init 125 = .ok (.putfield 57, 3) := by decide +kernel
theorem dX10_init_128 : decode cX10_init 128 = .ok (.aload_n 0, 1) := by decide +kernel
theorem dX10_init_129 : decode cX10_init 129 = .ok (.bipush 36, 2) := by decide +kernel
theorem dX10_init_131 : decode cX10_init 131 = .ok (.newarray .int, 2) := by decide +kernel
theorem dX10_init_133 : decode cX10_init 133 = .ok (.putfield 60, 3) := by decide +kernel
theorem dX10_init_136 : decode cX10_init 136 = .ok (.aload_n 0, 1) := by decide +kernel
theorem dX10_init_137 : decode cX10_init 137 = .ok (.bipush 8, 2) := by decide +kernel
theorem dX10_init_139 : decode cX10_init 139 = .ok (.newarray .int, 2) := by decide +kernel
theorem dX10_init_141 : decode cX10_init 141 = .ok (.putfield 63, 3) := by decide +kernel
theorem dX10_init_144 : decode cX10_init 144 = .ok (.aload_n 0, 1) := by decide +kernel
theorem dX10_init_145 : decode cX10_init 145 = .ok (.bipush 7, 2) := by decide +kernel
theorem dX10_init_147 : decode cX10_init 147 = .ok (.newarray .int, 2) := by decide +kernel
theorem dX10_init_149 : decode cX10_init 149 = .ok (.putfield 66, 3) := by decide +kernel
theorem dX10_init_152 : decode cX10_init 152 = .ok (.aload_n 0, 1) := by decide +kernel
theorem dX10_init_153 : decode cX10_init 153 = .ok (.bipush 15, 2) := by decide +kernel
theorem dX10_init_155 : decode cX10_init 155 = .ok (.newarray .int, 2) := by decide +kernel
theorem dX10_init_157 : decode cX10_init 157 = .ok (.putfield 69, 3) := by decide +kernel
theorem dX10_init_160 : decode cX10_init 160 = .ok (.aload_n 0, 1) := by decide +kernel
theorem dX10_init_161 : decode cX10_init 161 = .ok (.bipush 15, 2) := by decide +kernel
theorem dX10_init_163 : decode cX10_init 163 = .ok (.newarray .int, 2) := by decide +kernel
theorem dX10_init_165 : decode cX10_init 165 = .ok (.putfield 72, 3) := by decide +kernel
theorem dX10_init_168 : decode cX10_init 168 = .ok (.aload_n 0, 1) := by decide +kernel
theorem dX10_init_169 : decode cX10_init 169 = .ok (.invokevirtual 75, 3) := by decide +kernel
theorem dX10_init_172 : decode cX10_init 172 = .ok (.return_, 1) := by decide +kernel
/-- begins(), where there are no couples -/
def wB (f : Nat → Int32) : Nat → Nat → Int32
  | 0 => fillZ f 42
  | k + 1 => upd (upd (wB f k) (0 + nI k).toNatClampNeg 0) (6 + nI k).toNatClampNeg (-1)
def wC (f : Nat → Int32) : Nat → Nat → Int32
  | 0 => wB f 6
  | k + 1 => upd (upd (wC f k) (27 + nI k).toNatClampNeg (-1)) (34 + nI k).toNatClampNeg (-1)
theorem inadd (a : Nat) {k N : Nat} (h : a + k < N) (hN : N < 2 ^ 31) : vp_in (nI a + nI k) N := by
  rw [nI_add]
  exact nI_in h hN
def rm_k_begins : Room := { frames := 0, cells := 0, slots := 0, locals := 0 }
set_option maxHeartbeats 4000000 in
set_option maxRecDepth 100000 in
theorem k_begins {l : Launch} {D : va_G} {cI cZ : ClassId} {sz : Nat} (h : Nat) (a0 a1 a8 a9 a10 a11 a12 a13 a27 a28 a29 a30 a31 a36 a37 a38 a39 a43 a44 : Nat) (g2 g3 g4 g6 g7 g14 g15 g16 g17 g18 g19 g20 g21 g22 g23 g24 g25 g26 g32 g33 g34 g35 g40 g41 g42 : Int32) (f : Nat → Int32) : KV l yX10_begins cX10_begins 3 rm_k_begins D cI cZ [.ref h] sz [(h, .inr (10, [.ref a0, .ref a1, .int g2, .int g3, .int g4, .int 0, .int g6, .int g7, .ref a8, .ref a9, .ref a10, .ref a11, .ref a12, .ref a13, .int g14, .int g15, .int g16, .int g17, .int g18, .int g19, .int g20, .int g21, .int g22, .int g23, .int g24, .int g25, .int g26, .ref a27, .ref a28, .ref a29, .ref a30, .ref a31, .int g32, .int g33, .int g34, .int g35, .ref a36, .ref a37, .ref a38, .ref a39, .int g40, .int g41, .int g42, .ref a43, .ref a44])), (a0, .inl (cI, 1302, .inl f))] (fun (_ : Unit) => True) (fun (_ : Unit) => [(h, .inr (10, [.ref a0, .ref a1, .int g2, .int g3, .int g4, .int 0, .int g6, .int g7, .ref a8, .ref a9, .ref a10, .ref a11, .ref a12, .ref a13, .int g14, .int g15, .int g16, .int g17, .int g18, .int g19, .int g20, .int g21, .int g22, .int g23, .int g24, .int g25, .int g26, .ref a27, .ref a28, .ref a29, .ref a30, .ref a31, .int g32, .int g33, .int g34, .int g35, .ref a36, .ref a37, .ref a38, .ref a39, .int g40, .int g41, .int g42, .ref a43, .ref a44])), (a0, .inl (cI, 1302, .inl (upd (wC f 7) (41 : Int32).toNatClampNeg (f (41 : Int32).toNatClampNeg))))]) := by
  refine KV.go rfl (Nat.le_of_ble_eq_true rfl) ?_
  intro p e s m args below meth c ls A Q hx hb hml hts hown hin hP hK hD hS hA hN hl hret
  have hl : lv_has ls 3 [(0, .ref h)] := hl
  refine lv_aload_n hx hb dX10_begins_0 rfl (lv_at hl 0 rfl) ?_
  refine va_get (D := D) (ci := 10) (v := .ref a0) (C := RX10) (T := TX10) (N := 45) hx hb hts iX10 hown hK hP 0 rfl rfl 0 (by decide) (hts _ wd_491) (fun _ h9 => h9) rfl dX10_begins_1 ?_
  refine lv_bipush (v := 41) hx hb dX10_begins_4 (by decide) ?_
  refine va_iald hx hb hK hP 1 0 rfl rfl (show ¬ ((41 : Int32) < 0 ∨ 1302 ≤ (41 : Int32).toNatClampNeg) by decide +kernel) dX10_begins_6 ?_
  refine lv_istore_n (lv' := [(1, .int (f (41 : Int32).toNatClampNeg)), (0, .ref h)]) hx hb dX10_begins_7 rfl hl (by decide) rfl (fun ls hl => ?_)
  refine lv_iconst (v := 0) hx hb dX10_begins_8 (by decide) ?_
  refine lv_istore_n (lv' := [(2, .int 0), (1, .int (f (41 : Int32).toNatClampNeg)), (0, .ref h)]) hx hb dX10_begins_9 rfl hl (by decide) rfl (fun ls hl => ?_)
  have lp_1 : ∀ (n k : Nat), k + n = 42 → ∀ (H : Heap) (locs : List Loc) (ls : Array Slot), va_P D classes [(h, .inr (10, [.ref a0, .ref a1, .int g2, .int g3, .int g4, .int 0, .int g6, .int g7, .ref a8, .ref a9, .ref a10, .ref a11, .ref a12, .ref a13, .int g14, .int g15, .int g16, .int g17, .int g18, .int g19, .int g20, .int g21, .int g22, .int g23, .int g24, .int g25, .int g26, .ref a27, .ref a28, .ref a29, .ref a30, .ref a31, .int g32, .int g33, .int g34, .int g35, .ref a36, .ref a37, .ref a38, .ref a39, .int g40, .int g41, .int g42, .ref a43, .ref a44])), (a0, .inl (cI, 1302, .inl (fillZ f k)))] H → va_D A [(h, .inr (10, [.ref a0, .ref a1, .int g2, .int g3, .int g4, .int 0, .int g6, .int g7, .ref a8, .ref a9, .ref a10, .ref a11, .ref a12, .ref a13, .int g14, .int g15, .int g16, .int g17, .int g18, .int g19, .int g20, .int g21, .int g22, .int g23, .int g24, .int g25, .int g26, .ref a27, .ref a28, .ref a29, .ref a30, .ref a31, .int g32, .int g33, .int g34, .int g35, .ref a36, .ref a37, .ref a38, .ref a39, .int g40, .int g41, .int g42, .ref a43, .ref a44])), (a0, .inl (cI, 1302, .inl (fillZ f k)))] → va_S A s.heap H locs → lv_has ls 3 [(2, .int (nI k)), (1, .int (f (41 : Int32).toNatClampNeg)), (0, .ref h)] → W p l e rm_k_begins s m args below meth c H locs 0 0 Q (F0 m 10 ls []) := by
    intro n
    induction n with
    | zero =>
      intro k hk H locs ls hP hD hS hl
      obtain rfl : k = 42 := by omega
      refine lv_iload_n hx hb dX10_begins_10 rfl (lv_at hl 0 rfl) ?_
      refine lv_bipush (v := 42) hx hb dX10_begins_11 (by decide) ?_
      refine lv_icmp_ge (tgt := 29) hx hb dX10_begins_13 (by decide) (fun c_2 => ?_) (fun c_2 => absurd (by decide +kernel) c_2)
      refine lv_iconst (v := 0) hx hb dX10_begins_29 (by decide) ?_
      refine lv_istore_n (lv' := [(2, .int 0), (1, .int (f (41 : Int32).toNatClampNeg)), (0, .ref h)]) hx hb dX10_begins_30 rfl hl (by decide) rfl (fun ls hl => ?_)
      have lp_3 : ∀ (n j : Nat), j + n = 6 → ∀ (H : Heap) (locs : List Loc) (ls : Array Slot), va_P D classes [(h, .inr (10, [.ref a0, .ref a1, .int g2, .int g3, .int g4, .int 0, .int g6, .int g7, .ref a8, .ref a9, .ref a10, .ref a11, .ref a12, .ref a13, .int g14, .int g15, .int g16, .int g17, .int g18, .int g19, .int g20, .int g21, .int g22, .int g23, .int g24, .int g25, .int g26, .ref a27, .ref a28, .ref a29, .ref a30, .ref a31, .int g32, .int g33, .int g34, .int g35, .ref a36, .ref a37, .ref a38, .ref a39, .int g40, .int g41, .int g42, .ref a43, .ref a44])), (a0, .inl (cI, 1302, .inl (wB f j)))] H → va_D A [(h, .inr (10, [.ref a0, .ref a1, .int g2, .int g3, .int g4, .int 0, .int g6, .int g7, .ref a8, .ref a9, .ref a10, .ref a11, .ref a12, .ref a13, .int g14, .int g15, .int g16, .int g17, .int g18, .int g19, .int g20, .int g21, .int g22, .int g23, .int g24, .int g25, .int g26, .ref a27, .ref a28, .ref a29, .ref a30, .ref a31, .int g32, .int g33, .int g34, .int g35, .ref a36, .ref a37, .ref a38, .ref a39, .int g40, .int g41, .int g42, .ref a43, .ref a44])), (a0, .inl (cI, 1302, .inl (wB f j)))] → va_S A s.heap H locs → lv_has ls 3 [(2, .int (nI j)), (1, .int (f (41 : Int32).toNatClampNeg)), (0, .ref h)] → W p l e rm_k_begins s m args below meth c H locs 0 0 Q (F0 m 31 ls []) := by
        intro n
        induction n with
        | zero =>
          intro j hk H locs ls hP hD hS hl
          obtain rfl : j = 6 := by omega
          refine lv_iload_n hx hb dX10_begins_31 rfl (lv_at hl 0 rfl) ?_
          refine lv_bipush (v := 6) hx hb dX10_begins_32 (by decide) ?_
          refine lv_icmp_ge (tgt := 79) hx hb dX10_begins_34 (by decide) (fun c_4 => ?_) (fun c_4 => absurd (by decide +kernel) c_4)
          refine lv_iconst (v := 0) hx hb dX10_begins_79 (by decide) ?_
          refine lv_istore_n (lv' := [(2, .int 0), (1, .int (f (41 : Int32).toNatClampNeg)), (0, .ref h)]) hx hb dX10_begins_80 rfl hl (by decide) rfl (fun ls hl => ?_)
          have lp_5 : ∀ (n i : Nat), i + n = 7 → ∀ (H : Heap) (locs : List Loc) (ls : Array Slot), va_P D classes [(h, .inr (10, [.ref a0, .ref a1, .int g2, .int g3, .int g4, .int 0, .int g6, .int g7, .ref a8, .ref a9, .ref a10, .ref a11, .ref a12, .ref a13, .int g14, .int g15, .int g16, .int g17, .int g18, .int g19, .int g20, .int g21, .int g22, .int g23, .int g24, .int g25, .int g26, .ref a27, .ref a28, .ref a29, .ref a30, .ref a31, .int g32, .int g33, .int g34, .int g35, .ref a36, .ref a37, .ref a38, .ref a39, .int g40, .int g41, .int g42, .ref a43, .ref a44])), (a0, .inl (cI, 1302, .inl (wC f i)))] H → va_D A [(h, .inr (10, [.ref a0, .ref a1, .int g2, .int g3, .int g4, .int 0, .int g6, .int g7, .ref a8, .ref a9, .ref a10, .ref a11, .ref a12, .ref a13, .int g14, .int g15, .int g16, .int g17, .int g18, .int g19, .int g20, .int g21, .int g22, .int g23, .int g24, .int g25, .int g26, .ref a27, .ref a28, .ref a29, .ref a30, .ref a31, .int g32, .int g33, .int g34, .int g35, .ref a36, .ref a37, .ref a38, .ref a39, .int g40, .int g41, .int g42, .ref a43, .ref a44])), (a0, .inl (cI, 1302, .inl (wC f i)))] → va_S A s.heap H locs → lv_has ls 3 [(2, .int (nI i)), (1, .int (f (41 : Int32).toNatClampNeg)), (0, .ref h)] → W p l e rm_k_begins s m args below meth c H locs 0 0 Q (F0 m 81 ls []) := by
            intro n
            induction n with
            | zero =>
              intro i hk H locs ls hP hD hS hl
              obtain rfl : i = 7 := by omega
              refine lv_iload_n hx hb dX10_begins_81 rfl (lv_at hl 0 rfl) ?_
              refine lv_bipush (v := 7) hx hb dX10_begins_82 (by decide) ?_
              refine lv_icmp_ge (tgt := 113) hx hb dX10_begins_84 (by decide) (fun c_6 => ?_) (fun c_6 => absurd (by decide +kernel) c_6)
              refine lv_aload_n hx hb dX10_begins_113 rfl (lv_at hl 2 rfl) ?_
              refine va_get (D := D) (ci := 10) (v := .ref a0) (C := RX10) (T := TX10) (N := 45) hx hb hts iX10 hown hK hP 0 rfl rfl 0 (by decide) (hts _ wd_491) (fun _ h9 => h9) rfl dX10_begins_114 ?_
              refine lv_bipush (v := 41) hx hb dX10_begins_117 (by decide) ?_
              refine lv_iload_n hx hb dX10_begins_119 rfl (lv_at hl 1 rfl) ?_
              refine va_iast hx hb hK hP hD hS 1 0 rfl rfl (show ¬ ((41 : Int32) < 0 ∨ 1302 ≤ (41 : Int32).toNatClampNeg) by decide +kernel) dX10_begins_120 (fun H locs hP hD hS => ?_)
              have hP : va_P D classes [(h, .inr (10, [.ref a0, .ref a1, .int g2, .int g3, .int g4, .int 0, .int g6, .int g7, .ref a8, .ref a9, .ref a10, .ref a11, .ref a12, .ref a13, .int g14, .int g15, .int g16, .int g17, .int g18, .int g19, .int g20, .int g21, .int g22, .int g23, .int g24, .int g25, .int g26, .ref a27, .ref a28, .ref a29, .ref a30, .ref a31, .int g32, .int g33, .int g34, .int g35, .ref a36, .ref a37, .ref a38, .ref a39, .int g40, .int g41, .int g42, .ref a43, .ref a44])), (a0, .inl (cI, 1302, .inl (upd (wC f 7) (41 : Int32).toNatClampNeg (f (41 : Int32).toNatClampNeg))))] H := hP
              have hD : va_D A [(h, .inr (10, [.ref a0, .ref a1, .int g2, .int g3, .int g4, .int 0, .int g6, .int g7, .ref a8, .ref a9, .ref a10, .ref a11, .ref a12, .ref a13, .int g14, .int g15, .int g16, .int g17, .int g18, .int g19, .int g20, .int g21, .int g22, .int g23, .int g24, .int g25, .int g26, .ref a27, .ref a28, .ref a29, .ref a30, .ref a31, .int g32, .int g33, .int g34, .int g35, .ref a36, .ref a37, .ref a38, .ref a39, .int g40, .int g41, .int g42, .ref a43, .ref a44])), (a0, .inl (cI, 1302, .inl (upd (wC f 7) (41 : Int32).toNatClampNeg (f (41 : Int32).toNatClampNeg))))] := hD
              exact hret () _ _ _ _ dX10_begins_121 trivial (cutP (isC := [0, 1]) hP rfl) (cutD (isC := [0, 1]) hD rfl rfl) hS
            | succ n ih_lp_5 =>
              intro i hk H locs ls hP hD hS hl
              have hkN_lp_5 : i < 7 := by omega
              refine lv_iload_n hx hb dX10_begins_81 rfl (lv_at hl 0 rfl) ?_
              refine lv_bipush (v := 7) hx hb dX10_begins_82 (by decide) ?_
              refine lv_icmp_ge (tgt := 113) hx hb dX10_begins_84 (by decide) (fun c_7 => absurd c_7 (nI_ge hkN_lp_5 (by decide))) (fun c_7 => ?_)
              refine lv_aload_n hx hb dX10_begins_87 rfl (lv_at hl 2 rfl) ?_
              refine va_get (D := D) (ci := 10) (v := .ref a0) (C := RX10) (T := TX10) (N := 45) hx hb hts iX10 hown hK hP 0 rfl rfl 0 (by decide) (hts _ wd_491) (fun _ h9 => h9) rfl dX10_begins_88 ?_
              refine lv_bipush (v := 27) hx hb dX10_begins_91 (by decide) ?_
              refine lv_iload_n hx hb dX10_begins_93 rfl (lv_at hl 0 rfl) ?_
              refine lv_iadd hx hb dX10_begins_94 ?_
              refine lv_iconst (v := (-1)) hx hb dX10_begins_95 (by decide) ?_
              refine va_iast hx hb hK hP hD hS 1 0 rfl rfl (inadd 27 (show 27 + i < 1302 by omega) (by decide)) dX10_begins_96 (fun H locs hP hD hS => ?_)
              have hP : va_P D classes [(h, .inr (10, [.ref a0, .ref a1, .int g2, .int g3, .int g4, .int 0, .int g6, .int g7, .ref a8, .ref a9, .ref a10, .ref a11, .ref a12, .ref a13, .int g14, .int g15, .int g16, .int g17, .int g18, .int g19, .int g20, .int g21, .int g22, .int g23, .int g24, .int g25, .int g26, .ref a27, .ref a28, .ref a29, .ref a30, .ref a31, .int g32, .int g33, .int g34, .int g35, .ref a36, .ref a37, .ref a38, .ref a39, .int g40, .int g41, .int g42, .ref a43, .ref a44])), (a0, .inl (cI, 1302, .inl (upd (wC f i) ((27 + (nI i)) : Int32).toNatClampNeg (-1))))] H := hP
              have hD : va_D A [(h, .inr (10, [.ref a0, .ref a1, .int g2, .int g3, .int g4, .int 0, .int g6, .int g7, .ref a8, .ref a9, .ref a10, .ref a11, .ref a12, .ref a13, .int g14, .int g15, .int g16, .int g17, .int g18, .int g19, .int g20, .int g21, .int g22, .int g23, .int g24, .int g25, .int g26, .ref a27, .ref a28, .ref a29, .ref a30, .ref a31, .int g32, .int g33, .int g34, .int g35, .ref a36, .ref a37, .ref a38, .ref a39, .int g40, .int g41, .int g42, .ref a43, .ref a44])), (a0, .inl (cI, 1302, .inl (upd (wC f i) ((27 + (nI i)) : Int32).toNatClampNeg (-1))))] := hD
              refine lv_aload_n hx hb dX10_begins_97 rfl (lv_at hl 2 rfl) ?_
              refine va_get (D := D) (ci := 10) (v := .ref a0) (C := RX10) (T := TX10) (N := 45) hx hb hts iX10 hown hK hP 0 rfl rfl 0 (by decide) (hts _ wd_491) (fun _ h9 => h9) rfl dX10_begins_98 ?_
              refine lv_bipush (v := 34) hx hb dX10_begins_101 (by decide) ?_
              refine lv_iload_n hx hb dX10_begins_103 rfl (lv_at hl 0 rfl) ?_
              refine lv_iadd hx hb dX10_begins_104 ?_
              refine lv_iconst (v := (-1)) hx hb dX10_begins_105 (by decide) ?_
              refine va_iast hx hb hK hP hD hS 1 0 rfl rfl (inadd 34 (show 34 + i < 1302 by omega) (by decide)) dX10_begins_106 (fun H locs hP hD hS => ?_)
              have hP : va_P D classes [(h, .inr (10, [.ref a0, .ref a1, .int g2, .int g3, .int g4, .int 0, .int g6, .int g7, .ref a8, .ref a9, .ref a10, .ref a11, .ref a12, .ref a13, .int g14, .int g15, .int g16, .int g17, .int g18, .int g19, .int g20, .int g21, .int g22, .int g23, .int g24, .int g25, .int g26, .ref a27, .ref a28, .ref a29, .ref a30, .ref a31, .int g32, .int g33, .int g34, .int g35, .ref a36, .ref a37, .ref a38, .ref a39, .int g40, .int g41, .int g42, .ref a43, .ref a44])), (a0, .inl (cI, 1302, .inl (upd (upd (wC f i) ((27 + (nI i)) : Int32).toNatClampNeg (-1)) ((34 + (nI i)) : Int32).toNatClampNeg (-1))))] H := hP
              have hD : va_D A [(h, .inr (10, [.ref a0, .ref a1, .int g2, .int g3, .int g4, .int 0, .int g6, .int g7, .ref a8, .ref a9, .ref a10, .ref a11, .ref a12, .ref a13, .int g14, .int g15, .int g16, .int g17, .int g18, .int g19, .int g20, .int g21, .int g22, .int g23, .int g24, .int g25, .int g26, .ref a27, .ref a28, .ref a29, .ref a30, .ref a31, .int g32, .int g33, .int g34, .int g35, .ref a36, .ref a37, .ref a38, .ref a39, .int g40, .int g41, .int g42, .ref a43, .ref a44])), (a0, .inl (cI, 1302, .inl (upd (upd (wC f i) ((27 + (nI i)) : Int32).toNatClampNeg (-1)) ((34 + (nI i)) : Int32).toNatClampNeg (-1))))] := hD
              refine lv_iinc (v := (nI (i + 1))) (lv' := [(2, .int (nI (i + 1))), (1, .int (f (41 : Int32).toNatClampNeg)), (0, .ref h)]) hx hb dX10_begins_107 hl (k := 0) rfl (nI_1 i) (by decide) rfl (fun ls hl => ?_)
              refine lv_goto (tgt := 81) hx hb dX10_begins_110 (by decide) ?_
              exact ih_lp_5 (i + 1) (by omega) _ _ ls hP hD hS (lv_sub hl [0, 1, 2] rfl)
          exact lp_5 7 0 (by omega) _ _ ls hP hD hS hl
        | succ n ih_lp_3 =>
          intro j hk H locs ls hP hD hS hl
          have hkN_lp_3 : j < 6 := by omega
          refine lv_iload_n hx hb dX10_begins_31 rfl (lv_at hl 0 rfl) ?_
          refine lv_bipush (v := 6) hx hb dX10_begins_32 (by decide) ?_
          refine lv_icmp_ge (tgt := 79) hx hb dX10_begins_34 (by decide) (fun c_8 => absurd c_8 (nI_ge hkN_lp_3 (by decide))) (fun c_8 => ?_)
          refine lv_aload_n hx hb dX10_begins_37 rfl (lv_at hl 2 rfl) ?_
          refine va_get (D := D) (ci := 10) (v := .ref a0) (C := RX10) (T := TX10) (N := 45) hx hb hts iX10 hown hK hP 0 rfl rfl 0 (by decide) (hts _ wd_491) (fun _ h9 => h9) rfl dX10_begins_38 ?_
          refine lv_iconst (v := 0) hx hb dX10_begins_41 (by decide) ?_
          refine lv_iload_n hx hb dX10_begins_42 rfl (lv_at hl 0 rfl) ?_
          refine lv_iadd hx hb dX10_begins_43 ?_
          refine lv_iload_n hx hb dX10_begins_44 rfl (lv_at hl 0 rfl) ?_
          refine lv_aload_n hx hb dX10_begins_45 rfl (lv_at hl 2 rfl) ?_
          refine va_get (D := D) (ci := 10) (v := .int 0) (C := RX10) (T := TX10) (N := 45) hx hb hts iX10 hown hK hP 0 rfl rfl 5 (by decide) (hts _ wd_499) (fun _ h9 => h9) rfl dX10_begins_46 ?_
          refine lv_icmp_ge (tgt := 61) hx hb dX10_begins_49 (by decide) (fun c_9 => ?_) (fun c_9 => absurd (nI_pos' (by omega)) c_9)
          refine lv_iconst (v := 0) hx hb dX10_begins_61 (by decide) ?_
          refine va_iast hx hb hK hP hD hS 1 0 rfl rfl (inadd 0 (show 0 + j < 1302 by omega) (by decide)) dX10_begins_62 (fun H locs hP hD hS => ?_)
          have hP : va_P D classes [(h, .inr (10, [.ref a0, .ref a1, .int g2, .int g3, .int g4, .int 0, .int g6, .int g7, .ref a8, .ref a9, .ref a10, .ref a11, .ref a12, .ref a13, .int g14, .int g15, .int g16, .int g17, .int g18, .int g19, .int g20, .int g21, .int g22, .int g23, .int g24, .int g25, .int g26, .ref a27, .ref a28, .ref a29, .ref a30, .ref a31, .int g32, .int g33, .int g34, .int g35, .ref a36, .ref a37, .ref a38, .ref a39, .int g40, .int g41, .int g42, .ref a43, .ref a44])), (a0, .inl (cI, 1302, .inl (upd (wB f j) ((0 + (nI j)) : Int32).toNatClampNeg 0)))] H := hP
          have hD : va_D A [(h, .inr (10, [.ref a0, .ref a1, .int g2, .int g3, .int g4, .int 0, .int g6, .int g7, .ref a8, .ref a9, .ref a10, .ref a11, .ref a12, .ref a13, .int g14, .int g15, .int g16, .int g17, .int g18, .int g19, .int g20, .int g21, .int g22, .int g23, .int g24, .int g25, .int g26, .ref a27, .ref a28, .ref a29, .ref a30, .ref a31, .int g32, .int g33, .int g34, .int g35, .ref a36, .ref a37, .ref a38, .ref a39, .int g40, .int g41, .int g42, .ref a43, .ref a44])), (a0, .inl (cI, 1302, .inl (upd (wB f j) ((0 + (nI j)) : Int32).toNatClampNeg 0)))] := hD
          refine lv_aload_n hx hb dX10_begins_63 rfl (lv_at hl 2 rfl) ?_
          refine va_get (D := D) (ci := 10) (v := .ref a0) (C := RX10) (T := TX10) (N := 45) hx hb hts iX10 hown hK hP 0 rfl rfl 0 (by decide) (hts _ wd_491) (fun _ h9 => h9) rfl dX10_begins_64 ?_
          refine lv_bipush (v := 6) hx hb dX10_begins_67 (by decide) ?_
          refine lv_iload_n hx hb dX10_begins_69 rfl (lv_at hl 0 rfl) ?_
          refine lv_iadd hx hb dX10_begins_70 ?_
          refine lv_iconst (v := (-1)) hx hb dX10_begins_71 (by decide) ?_
          refine va_iast hx hb hK hP hD hS 1 0 rfl rfl (inadd 6 (show 6 + j < 1302 by omega) (by decide)) dX10_begins_72 (fun H locs hP hD hS => ?_)
          have hP : va_P D classes [(h, .inr (10, [.ref a0, .ref a1, .int g2, .int g3, .int g4, .int 0, .int g6, .int g7, .ref a8, .ref a9, .ref a10, .ref a11, .ref a12, .ref a13, .int g14, .int g15, .int g16, .int g17, .int g18, .int g19, .int g20, .int g21, .int g22, .int g23, .int g24, .int g25, .int g26, .ref a27, .ref a28, .ref a29, .ref a30, .ref a31, .int g32, .int g33, .int g34, .int g35, .ref a36, .ref a37, .ref a38, .ref a39, .int g40, .int g41, .int g42, .ref a43, .ref a44])), (a0, .inl (cI, 1302, .inl (upd (upd (wB f j) ((0 + (nI j)) : Int32).toNatClampNeg 0) ((6 + (nI j)) : Int32).toNatClampNeg (-1))))] H := hP
          have hD : va_D A [(h, .inr (10, [.ref a0, .ref a1, .int g2, .int g3, .int g4, .int 0, .int g6, .int g7, .ref a8, .ref a9, .ref a10, .ref a11, .ref a12, .ref a13, .int g14, .int g15, .int g16, .int g17, .int g18, .int g19, .int g20, .int g21, .int g22, .int g23, .int g24, .int g25, .int g26, .ref a27, .ref a28, .ref a29, .ref a30, .ref a31, .int g32, .int g33, .int g34, .int g35, .ref a36, .ref a37, .ref a38, .ref a39, .int g40, .int g41, .int g42, .ref a43, .ref a44])), (a0, .inl (cI, 1302, .inl (upd (upd (wB f j) ((0 + (nI j)) : Int32).toNatClampNeg 0) ((6 + (nI j)) : Int32).toNatClampNeg (-1))))] := hD
          refine lv_iinc (v := (nI (j + 1))) (lv' := [(2, .int (nI (j + 1))), (1, .int (f (41 : Int32).toNatClampNeg)), (0, .ref h)]) hx hb dX10_begins_73 hl (k := 0) rfl (nI_1 j) (by decide) rfl (fun ls hl => ?_)
          refine lv_goto (tgt := 31) hx hb dX10_begins_76 (by decide) ?_
          exact ih_lp_3 (j + 1) (by omega) _ _ ls hP hD hS (lv_sub hl [0, 1, 2] rfl)
      exact lp_3 6 0 (by omega) _ _ ls hP hD hS hl
    | succ n ih_lp_1 =>
      intro k hk H locs ls hP hD hS hl
      have hkN_lp_1 : k < 42 := by omega
      refine lv_iload_n hx hb dX10_begins_10 rfl (lv_at hl 0 rfl) ?_
      refine lv_bipush (v := 42) hx hb dX10_begins_11 (by decide) ?_
      refine lv_icmp_ge (tgt := 29) hx hb dX10_begins_13 (by decide) (fun c_10 => absurd c_10 (nI_ge hkN_lp_1 (by decide))) (fun c_10 => ?_)
      refine lv_aload_n hx hb dX10_begins_16 rfl (lv_at hl 2 rfl) ?_
      refine va_get (D := D) (ci := 10) (v := .ref a0) (C := RX10) (T := TX10) (N := 45) hx hb hts iX10 hown hK hP 0 rfl rfl 0 (by decide) (hts _ wd_491) (fun _ h9 => h9) rfl dX10_begins_17 ?_
      refine lv_iload_n hx hb dX10_begins_20 rfl (lv_at hl 0 rfl) ?_
      refine lv_iconst (v := 0) hx hb dX10_begins_21 (by decide) ?_
      refine va_iast hx hb hK hP hD hS 1 0 rfl rfl (nI_in (show k < 1302 by omega) (by decide)) dX10_begins_22 (fun H locs hP hD hS => ?_)
      have hP : va_P D classes [(h, .inr (10, [.ref a0, .ref a1, .int g2, .int g3, .int g4, .int 0, .int g6, .int g7, .ref a8, .ref a9, .ref a10, .ref a11, .ref a12, .ref a13, .int g14, .int g15, .int g16, .int g17, .int g18, .int g19, .int g20, .int g21, .int g22, .int g23, .int g24, .int g25, .int g26, .ref a27, .ref a28, .ref a29, .ref a30, .ref a31, .int g32, .int g33, .int g34, .int g35, .ref a36, .ref a37, .ref a38, .ref a39, .int g40, .int g41, .int g42, .ref a43, .ref a44])), (a0, .inl (cI, 1302, .inl (upd (fillZ f k) ((nI k) : Int32).toNatClampNeg 0)))] H := hP
      have hD : va_D A [(h, .inr (10, [.ref a0, .ref a1, .int g2, .int g3, .int g4, .int 0, .int g6, .int g7, .ref a8, .ref a9, .ref a10, .ref a11, .ref a12, .ref a13, .int g14, .int g15, .int g16, .int g17, .int g18, .int g19, .int g20, .int g21, .int g22, .int g23, .int g24, .int g25, .int g26, .ref a27, .ref a28, .ref a29, .ref a30, .ref a31, .int g32, .int g33, .int g34, .int g35, .ref a36, .ref a37, .ref a38, .ref a39, .int g40, .int g41, .int g42, .ref a43, .ref a44])), (a0, .inl (cI, 1302, .inl (upd (fillZ f k) ((nI k) : Int32).toNatClampNeg 0)))] := hD
      refine lv_iinc (v := (nI (k + 1))) (lv' := [(2, .int (nI (k + 1))), (1, .int (f (41 : Int32).toNatClampNeg)), (0, .ref h)]) hx hb dX10_begins_23 hl (k := 0) rfl (nI_1 k) (by decide) rfl (fun ls hl => ?_)
      refine lv_goto (tgt := 10) hx hb dX10_begins_26 (by decide) ?_
      exact ih_lp_1 (k + 1) (by omega) _ _ ls hP hD hS (lv_sub hl [0, 1, 2] rfl)
  exact lp_1 42 0 (by omega) _ _ ls hP hD hS hl
def rm_k_M_init : Room := { frames := 1, cells := 19, slots := 2185, locals := 22 }
set_option maxHeartbeats 4000000 in
set_option maxRecDepth 100000 in
theorem k_M_init {l : Launch} {D : va_G} {cI cZ : ClassId} {sz : Nat} (h : Nat) : KV l yX10_init cX10_init 1 rm_k_M_init D cI cZ [.ref h] sz [(h, .inr (10, [.null, .null, .int 0, .int 0, .int 0, .int 0, .int 0, .int 0, .null, .null, .null, .null, .null, .null, .int 0, .int 0, .int 0, .int 0, .int 0, .int 0, .int 0, .int 0, .int 0, .int 0, .int 0, .int 0, .int 0, .null, .null, .null, .null, .null, .int 0, .int 0, .int 0, .int 0, .null, .null, .null, .null, .int 0, .int 0, .int 0, .null, .null]))] (fun (_ : Nat × Nat × Nat × Nat × Nat × Nat × Nat × Nat × Nat × Nat × Nat × Nat × Nat × Nat × Nat × Nat × Nat × Nat × Nat) => True) (fun (u : Nat × Nat × Nat × Nat × Nat × Nat × Nat × Nat × Nat × Nat × Nat × Nat × Nat × Nat × Nat × Nat × Nat × Nat × Nat) => [(u.2.1, .inl (cZ, 2, .inl z0)), (u.2.2.1, .inl (cI, 6, .inl z0)), (u.2.2.2.1, .inl (cI, 6, .inl z0)), (u.2.2.2.2.1, .inl (cI, 30, .inl z0)), (u.2.2.2.2.2.1, .inl (cI, 7, .inl z0)), (u.2.2.2.2.2.2.1, .inl (cI, 7, .inl z0)), (u.2.2.2.2.2.2.2.1, .inl (cI, 240, .inl z0)), (u.2.2.2.2.2.2.2.2.1, .inl (cI, 6, .inl z0)), (u.2.2.2.2.2.2.2.2.2.1, .inl (cI, 6, .inl z0)), (u.2.2.2.2.2.2.2.2.2.2.1, .inl (cI, 30, .inl z0)), (u.2.2.2.2.2.2.2.2.2.2.2.1, .inl (cI, 7, .inl z0)), (u.2.2.2.2.2.2.2.2.2.2.2.2.1, .inl (cI, 7, .inl z0)), (u.2.2.2.2.2.2.2.2.2.2.2.2.2.1, .inl (cI, 448, .inl z0)), (u.2.2.2.2.2.2.2.2.2.2.2.2.2.2.1, .inl (cI, 36, .inl z0)), (u.2.2.2.2.2.2.2.2.2.2.2.2.2.2.2.1, .inl (cI, 8, .inl z0)), (u.2.2.2.2.2.2.2.2.2.2.2.2.2.2.2.2.1, .inl (cI, 7, .inl z0)), (u.2.2.2.2.2.2.2.2.2.2.2.2.2.2.2.2.2.1, .inl (cI, 15, .inl z0)), (u.2.2.2.2.2.2.2.2.2.2.2.2.2.2.2.2.2.2, .inl (cI, 15, .inl z0)), (h, .inr (10, [.ref u.1, .ref u.2.1, .int 0, .int 0, .int 1, .int 0, .int 0, .int 0, .ref u.2.2.1, .ref u.2.2.2.1, .ref u.2.2.2.2.1, .ref u.2.2.2.2.2.1, .ref u.2.2.2.2.2.2.1, .ref u.2.2.2.2.2.2.2.1, .int 0, .int 0, .int 0, .int 0, .int 0, .int (-1), .int 0, .int 0, .int 0, .int 0, .int 0, .int 0, .int 0, .ref u.2.2.2.2.2.2.2.2.1, .ref u.2.2.2.2.2.2.2.2.2.1, .ref u.2.2.2.2.2.2.2.2.2.2.1, .ref u.2.2.2.2.2.2.2.2.2.2.2.1, .ref u.2.2.2.2.2.2.2.2.2.2.2.2.1, .int 0, .int 0, .int 0, .int 0, .ref u.2.2.2.2.2.2.2.2.2.2.2.2.2.1, .ref u.2.2.2.2.2.2.2.2.2.2.2.2.2.2.1, .ref u.2.2.2.2.2.2.2.2.2.2.2.2.2.2.2.1, .ref u.2.2.2.2.2.2.2.2.2.2.2.2.2.2.2.2.1, .int 0, .int 0, .int 0, .ref u.2.2.2.2.2.2.2.2.2.2.2.2.2.2.2.2.2.1, .ref u.2.2.2.2.2.2.2.2.2.2.2.2.2.2.2.2.2.2])), (u.1, .inl (cI, 1302, .inl (upd (wC z0 7) (41 : Int32).toNatClampNeg (z0 (41 : Int32).toNatClampNeg))))]) := by
  refine KV.go rfl (Nat.le_of_ble_eq_true rfl) ?_
  intro p e s m args below meth c ls A Q hx hb hml hts hown hin hP hK hD hS hA hN hl hret
  have hl : lv_has ls 1 [(0, .ref h)] := hl
  refine lv_aload_n hx hb dX10_init_0 rfl (lv_at hl 0 rfl) ?_
  refine W.objInit hx hb hown (hts _ wd_694) (hts _ wd_1) (hts _ wd_2) rfl (by rw [hml]; exact hl.1) rfl dX10_init_1 (Nat.le_of_ble_eq_true rfl) (Nat.le_of_ble_eq_true rfl) ?_
  refine W.eq (g2 := F0 m 4 ls []) rfl ?_
  refine lv_aload_n hx hb dX10_init_4 rfl (lv_at hl 0 rfl) ?_
  refine lv_sipush (v := 1302) hx hb dX10_init_5 (by decide) ?_
  refine va_newa (atype := .int) (a0 := (1302, .inl z0)) (N' := 1302) (ty := .int) hx hb (hts _ wd_8) rfl hK hP hD hS hA (fun cA => z0_int 1302 cA) (by decide +kernel) (by decide +kernel) (by decide +kernel) (Nat.le_of_ble_eq_true rfl) (Nat.le_of_ble_eq_true rfl) dX10_init_8 (fun q_1 cA_q_1 H hKn hP hD hS => ?_)
  obtain rfl := (K_int hKn).symm
  have hP : va_P D classes [(h, .inr (10, [.null, .null, .int 0, .int 0, .int 0, .int 0, .int 0, .int 0, .null, .null, .null, .null, .null, .null, .int 0, .int 0, .int 0, .int 0, .int 0, .int 0, .int 0, .int 0, .int 0, .int 0, .int 0, .int 0, .int 0, .null, .null, .null, .null, .null, .int 0, .int 0, .int 0, .int 0, .null, .null, .null, .null, .int 0, .int 0, .int 0, .null, .null])), (q_1, .inl (cI, 1302, .inl z0))] H := hP
  have hD : va_D A [(h, .inr (10, [.null, .null, .int 0, .int 0, .int 0, .int 0, .int 0, .int 0, .null, .null, .null, .null, .null, .null, .int 0, .int 0, .int 0, .int 0, .int 0, .int 0, .int 0, .int 0, .int 0, .int 0, .int 0, .int 0, .int 0, .null, .null, .null, .null, .null, .int 0, .int 0, .int 0, .int 0, .null, .null, .null, .null, .int 0, .int 0, .int 0, .null, .null])), (q_1, .inl (cI, 1302, .inl z0))] := hD
  refine W.widen (k := 1) (n := 1302) (Nat.le_of_ble_eq_true rfl) (Nat.le_of_ble_eq_true rfl) ?_
  refine va_putF (D := D) (ci := 10) (v := .ref q_1) (ty := (.array .int)) (C := RX10) (T := TX10) (N := 45) hx hb hts iX10 tyX10 tyX10_ok nmX10 hown hK hP hD hS 0 rfl rfl 0 (by decide) (hts _ wd_491) (fun _ h9 => h9) rfl hin rfl (by decide +kernel) rfl rfl (Nat.le_of_ble_eq_true rfl) dX10_init_10 (fun H locs hP hD hS => ?_)
  have hP : va_P D classes [(h, .inr (10, [.ref q_1, .null, .int 0, .int 0, .int 0, .int 0, .int 0, .int 0, .null, .null, .null, .null, .null, .null, .int 0, .int 0, .int 0, .int 0, .int 0, .int 0, .int 0, .int 0, .int 0, .int 0, .int 0, .int 0, .int 0, .null, .null, .null, .null, .null, .int 0, .int 0, .int 0, .int 0, .null, .null, .null, .null, .int 0, .int 0, .int 0, .null, .null])), (q_1, .inl (cI, 1302, .inl z0))] H := hP
  have hD : va_D A [(h, .inr (10, [.ref q_1, .null, .int 0, .int 0, .int 0, .int 0, .int 0, .int 0, .null, .null, .null, .null, .null, .null, .int 0, .int 0, .int 0, .int 0, .int 0, .int 0, .int 0, .int 0, .int 0, .int 0, .int 0, .int 0, .int 0, .null, .null, .null, .null, .null, .int 0, .int 0, .int 0, .int 0, .null, .null, .null, .null, .int 0, .int 0, .int 0, .null, .null])), (q_1, .inl (cI, 1302, .inl z0))] := hD
  refine lv_aload_n hx hb dX10_init_13 rfl (lv_at hl 0 rfl) ?_
  refine lv_iconst (v := 2) hx hb dX10_init_14 (by decide) ?_
  refine va_newa (atype := .boolean) (a0 := (2, .inl z0)) (N' := 2) (ty := .boolean) hx hb (hts _ wd_695) rfl hK hP hD hS hA (fun cA => z0_bool 2 cA) (by decide +kernel) (by decide +kernel) (by decide +kernel) (Nat.le_of_ble_eq_true rfl) (Nat.le_of_ble_eq_true rfl) dX10_init_15 (fun q_2 cA_q_2 H hKn hP hD hS => ?_)
  obtain rfl := (K_bool hKn).symm
  have hP : va_P D classes [(h, .inr (10, [.ref q_1, .null, .int 0, .int 0, .int 0, .int 0, .int 0, .int 0, .null, .null, .null, .null, .null, .null, .int 0, .int 0, .int 0, .int 0, .int 0, .int 0, .int 0, .int 0, .int 0, .int 0, .int 0, .int 0, .int 0, .null, .null, .null, .null, .null, .int 0, .int 0, .int 0, .int 0, .null, .null, .null, .null, .int 0, .int 0, .int 0, .null, .null])), (q_1, .inl (cI, 1302, .inl z0)), (q_2, .inl (cZ, 2, .inl z0))] H := hP
  have hD : va_D A [(h, .inr (10, [.ref q_1, .null, .int 0, .int 0, .int 0, .int 0, .int 0, .int 0, .null, .null, .null, .null, .null, .null, .int 0, .int 0, .int 0, .int 0, .int 0, .int 0, .int 0, .int 0, .int 0, .int 0, .int 0, .int 0, .int 0, .null, .null, .null, .null, .null, .int 0, .int 0, .int 0, .int 0, .null, .null, .null, .null, .int 0, .int 0, .int 0, .null, .null])), (q_1, .inl (cI, 1302, .inl z0)), (q_2, .inl (cZ, 2, .inl z0))] := hD
  refine W.widen (k := 2) (n := 1304) (Nat.le_of_ble_eq_true rfl) (Nat.le_of_ble_eq_true rfl) ?_
  refine va_putF (D := D) (ci := 10) (v := .ref q_2) (ty := (.array .boolean)) (C := RX10) (T := TX10) (N := 45) hx hb hts iX10 tyX10 tyX10_ok nmX10 hown hK hP hD hS 0 rfl rfl 1 (by decide) (hts _ wd_612) (fun _ h9 => h9) rfl hin rfl (by decide +kernel) rfl rfl (Nat.le_of_ble_eq_true rfl) dX10_init_17 (fun H locs hP hD hS => ?_)
  have hP : va_P D classes [(h, .inr (10, [.ref q_1, .ref q_2, .int 0, .int 0, .int 0, .int 0, .int 0, .int 0, .null, .null, .null, .null, .null, .null, .int 0, .int 0, .int 0, .int 0, .int 0, .int 0, .int 0, .int 0, .int 0, .int 0, .int 0, .int 0, .int 0, .null, .null, .null, .null, .null, .int 0, .int 0, .int 0, .int 0, .null, .null, .null, .null, .int 0, .int 0, .int 0, .null, .null])), (q_1, .inl (cI, 1302, .inl z0)), (q_2, .inl (cZ, 2, .inl z0))] H := hP
  have hD : va_D A [(h, .inr (10, [.ref q_1, .ref q_2, .int 0, .int 0, .int 0, .int 0, .int 0, .int 0, .null, .null, .null, .null, .null, .null, .int 0, .int 0, .int 0, .int 0, .int 0, .int 0, .int 0, .int 0, .int 0, .int 0, .int 0, .int 0, .int 0, .null, .null, .null, .null, .null, .int 0, .int 0, .int 0, .int 0, .null, .null, .null, .null, .int 0, .int 0, .int 0, .null, .null])), (q_1, .inl (cI, 1302, .inl z0)), (q_2, .inl (cZ, 2, .inl z0))] := hD
  refine lv_aload_n hx hb dX10_init_20 rfl (lv_at hl 0 rfl) ?_
  refine lv_iconst (v := 1) hx hb dX10_init_21 (by decide) ?_
  refine va_put (D := D) (ci := 10) (v := .int 1) (ty := .int) (C := RX10) (T := TX10) (N := 45) hx hb hts iX10 tyX10 tyX10_ok nmX10 hown hK hP hD hS 0 rfl rfl 4 (by decide) (hts _ wd_500) (fun _ h9 => h9) rfl (by decide +kernel) rfl rfl (Nat.le_of_ble_eq_true rfl) dX10_init_22 (fun H locs hP hD hS => ?_)
  have hP : va_P D classes [(h, .inr (10, [.ref q_1, .ref q_2, .int 0, .int 0, .int 1, .int 0, .int 0, .int 0, .null, .null, .null, .null, .null, .null, .int 0, .int 0, .int 0, .int 0, .int 0, .int 0, .int 0, .int 0, .int 0, .int 0, .int 0, .int 0, .int 0, .null, .null, .null, .null, .null, .int 0, .int 0, .int 0, .int 0, .null, .null, .null, .null, .int 0, .int 0, .int 0, .null, .null])), (q_1, .inl (cI, 1302, .inl z0)), (q_2, .inl (cZ, 2, .inl z0))] H := hP
  have hD : va_D A [(h, .inr (10, [.ref q_1, .ref q_2, .int 0, .int 0, .int 1, .int 0, .int 0, .int 0, .null, .null, .null, .null, .null, .null, .int 0, .int 0, .int 0, .int 0, .int 0, .int 0, .int 0, .int 0, .int 0, .int 0, .int 0, .int 0, .int 0, .null, .null, .null, .null, .null, .int 0, .int 0, .int 0, .int 0, .null, .null, .null, .null, .int 0, .int 0, .int 0, .null, .null])), (q_1, .inl (cI, 1302, .inl z0)), (q_2, .inl (cZ, 2, .inl z0))] := hD
  refine lv_aload_n hx hb dX10_init_25 rfl (lv_at hl 0 rfl) ?_
  refine lv_bipush (v := 6) hx hb dX10_init_26 (by decide) ?_
  refine va_newa (atype := .int) (a0 := (6, .inl z0)) (N' := 6) (ty := .int) hx hb (hts _ wd_8) rfl hK hP hD hS hA (fun cA => z0_int 6 cA) (by decide +kernel) (by decide +kernel) (by decide +kernel) (Nat.le_of_ble_eq_true rfl) (Nat.le_of_ble_eq_true rfl) dX10_init_28 (fun q_3 cA_q_3 H hKn hP hD hS => ?_)
  obtain rfl := (K_int hKn).symm
  have hP : va_P D classes [(h, .inr (10, [.ref q_1, .ref q_2, .int 0, .int 0, .int 1, .int 0, .int 0, .int 0, .null, .null, .null, .null, .null, .null, .int 0, .int 0, .int 0, .int 0, .int 0, .int 0, .int 0, .int 0, .int 0, .int 0, .int 0, .int 0, .int 0, .null, .null, .null, .null, .null, .int 0, .int 0, .int 0, .int 0, .null, .null, .null, .null, .int 0, .int 0, .int 0, .null, .null])), (q_1, .inl (cI, 1302, .inl z0)), (q_2, .inl (cZ, 2, .inl z0)), (q_3, .inl (cI, 6, .inl z0))] H := hP
  have hD : va_D A [(h, .inr (10, [.ref q_1, .ref q_2, .int 0, .int 0, .int 1, .int 0, .int 0, .int 0, .null, .null, .null, .null, .null, .null, .int 0, .int 0, .int 0, .int 0, .int 0, .int 0, .int 0, .int 0, .int 0, .int 0, .int 0, .int 0, .int 0, .null, .null, .null, .null, .null, .int 0, .int 0, .int 0, .int 0, .null, .null, .null, .null, .int 0, .int 0, .int 0, .null, .null])), (q_1, .inl (cI, 1302, .inl z0)), (q_2, .inl (cZ, 2, .inl z0)), (q_3, .inl (cI, 6, .inl z0))] := hD
  refine W.widen (k := 3) (n := 1310) (Nat.le_of_ble_eq_true rfl) (Nat.le_of_ble_eq_true rfl) ?_
  refine va_putF (D := D) (ci := 10) (v := .ref q_3) (ty := (.array .int)) (C := RX10) (T := TX10) (N := 45) hx hb hts iX10 tyX10 tyX10_ok nmX10 hown hK hP hD hS 0 rfl rfl 8 (by decide) (hts _ wd_579) (fun _ h9 => h9) rfl hin rfl (by decide +kernel) rfl rfl (Nat.le_of_ble_eq_true rfl) dX10_init_30 (fun H locs hP hD hS => ?_)
  have hP : va_P D classes [(h, .inr (10, [.ref q_1, .ref q_2, .int 0, .int 0, .int 1, .int 0, .int 0, .int 0, .ref q_3, .null, .null, .null, .null, .null, .int 0, .int 0, .int 0, .int 0, .int 0, .int 0, .int 0, .int 0, .int 0, .int 0, .int 0, .int 0, .int 0, .null, .null, .null, .null, .null, .int 0, .int 0, .int 0, .int 0, .null, .null, .null, .null, .int 0, .int 0, .int 0, .null, .null])), (q_1, .inl (cI, 1302, .inl z0)), (q_2, .inl (cZ, 2, .inl z0)), (q_3, .inl (cI, 6, .inl z0))] H := hP
  have hD : va_D A [(h, .inr (10, [.ref q_1, .ref q_2, .int 0, .int 0, .int 1, .int 0, .int 0, .int 0, .ref q_3, .null, .null, .null, .null, .null, .int 0, .int 0, .int 0, .int 0, .int 0, .int 0, .int 0, .int 0, .int 0, .int 0, .int 0, .int 0, .int 0, .null, .null, .null, .null, .null, .int 0, .int 0, .int 0, .int 0, .null, .null, .null, .null, .int 0, .int 0, .int 0, .null, .null])), (q_1, .inl (cI, 1302, .inl z0)), (q_2, .inl (cZ, 2, .inl z0)), (q_3, .inl (cI, 6, .inl z0))] := hD
  refine lv_aload_n hx hb dX10_init_33 rfl (lv_at hl 0 rfl) ?_
  refine lv_bipush (v := 6) hx hb dX10_init_34 (by decide) ?_
  refine va_newa (atype := .int) (a0 := (6, .inl z0)) (N' := 6) (ty := .int) hx hb (hts _ wd_8) rfl hK hP hD hS hA (fun cA => z0_int 6 cA) (by decide +kernel) (by decide +kernel) (by decide +kernel) (Nat.le_of_ble_eq_true rfl) (Nat.le_of_ble_eq_true rfl) dX10_init_36 (fun q_4 cA_q_4 H hKn hP hD hS => ?_)
  obtain rfl := (K_int hKn).symm
  have hP : va_P D classes [(h, .inr (10, [.ref q_1, .ref q_2, .int 0, .int 0, .int 1, .int 0, .int 0, .int 0, .ref q_3, .null, .null, .null, .null, .null, .int 0, .int 0, .int 0, .int 0, .int 0, .int 0, .int 0, .int 0, .int 0, .int 0, .int 0, .int 0, .int 0, .null, .null, .null, .null, .null, .int 0, .int 0, .int 0, .int 0, .null, .null, .null, .null, .int 0, .int 0, .int 0, .null, .null])), (q_1, .inl (cI, 1302, .inl z0)), (q_2, .inl (cZ, 2, .inl z0)), (q_3, .inl (cI, 6, .inl z0)), (q_4, .inl (cI, 6, .inl z0))] H := hP
  have hD : va_D A [(h, .inr (10, [.ref q_1, .ref q_2, .int 0, .int 0, .int 1, .int 0, .int 0, .int 0, .ref q_3, .null, .null, .null, .null, .null, .int 0, .int 0, .int 0, .int 0, .int 0, .int 0, .int 0, .int 0, .int 0, .int 0, .int 0, .int 0, .int 0, .null, .null, .null, .null, .null, .int 0, .int 0, .int 0, .int 0, .null, .null, .null, .null, .int 0, .int 0, .int 0, .null, .null])), (q_1, .inl (cI, 1302, .inl z0)), (q_2, .inl (cZ, 2, .inl z0)), (q_3, .inl (cI, 6, .inl z0)), (q_4, .inl (cI, 6, .inl z0))] := hD
  refine W.widen (k := 4) (n := 1316) (Nat.le_of_ble_eq_true rfl) (Nat.le_of_ble_eq_true rfl) ?_
  refine va_putF (D := D) (ci := 10) (v := .ref q_4) (ty := (.array .int)) (C := RX10) (T := TX10) (N := 45) hx hb hts iX10 tyX10 tyX10_ok nmX10 hown hK hP hD hS 0 rfl rfl 9 (by decide) (hts _ wd_561) (fun _ h9 => h9) rfl hin rfl (by decide +kernel) rfl rfl (Nat.le_of_ble_eq_true rfl) dX10_init_38 (fun H locs hP hD hS => ?_)
  have hP : va_P D classes [(h, .inr (10, [.ref q_1, .ref q_2, .int 0, .int 0, .int 1, .int 0, .int 0, .int 0, .ref q_3, .ref q_4, .null, .null, .null, .null, .int 0, .int 0, .int 0, .int 0, .int 0, .int 0, .int 0, .int 0, .int 0, .int 0, .int 0, .int 0, .int 0, .null, .null, .null, .null, .null, .int 0, .int 0, .int 0, .int 0, .null, .null, .null, .null, .int 0, .int 0, .int 0, .null, .null])), (q_1, .inl (cI, 1302, .inl z0)), (q_2, .inl (cZ, 2, .inl z0)), (q_3, .inl (cI, 6, .inl z0)), (q_4, .inl (cI, 6, .inl z0))] H := hP
  have hD : va_D A [(h, .inr (10, [.ref q_1, .ref q_2, .int 0, .int 0, .int 1, .int 0, .int 0, .int 0, .ref q_3, .ref q_4, .null, .null, .null, .null, .int 0, .int 0, .int 0, .int 0, .int 0, .int 0, .int 0, .int 0, .int 0, .int 0, .int 0, .int 0, .int 0, .null, .null, .null, .null, .null, .int 0, .int 0, .int 0, .int 0, .null, .null, .null, .null, .int 0, .int 0, .int 0, .null, .null])), (q_1, .inl (cI, 1302, .inl z0)), (q_2, .inl (cZ, 2, .inl z0)), (q_3, .inl (cI, 6, .inl z0)), (q_4, .inl (cI, 6, .inl z0))] := hD
  refine lv_aload_n hx hb dX10_init_41 rfl (lv_at hl 0 rfl) ?_
  refine lv_bipush (v := 30) hx hb dX10_init_42 (by decide) ?_
  refine va_newa (atype := .int) (a0 := (30, .inl z0)) (N' := 30) (ty := .int) hx hb (hts _ wd_8) rfl hK hP hD hS hA (fun cA => z0_int 30 cA) (by decide +kernel) (by decide +kernel) (by decide +kernel) (Nat.le_of_ble_eq_true rfl) (Nat.le_of_ble_eq_true rfl) dX10_init_44 (fun q_5 cA_q_5 H hKn hP hD hS => ?_)
  obtain rfl := (K_int hKn).symm
  have hP : va_P D classes [(h, .inr (10, [.ref q_1, .ref q_2, .int 0, .int 0, .int 1, .int 0, .int 0, .int 0, .ref q_3, .ref q_4, .null, .null, .null, .null, .int 0, .int 0, .int 0, .int 0, .int 0, .int 0, .int 0, .int 0, .int 0, .int 0, .int 0, .int 0, .int 0, .null, .null, .null, .null, .null, .int 0, .int 0, .int 0, .int 0, .null, .null, .null, .null, .int 0, .int 0, .int 0, .null, .null])), (q_1, .inl (cI, 1302, .inl z0)), (q_2, .inl (cZ, 2, .inl z0)), (q_3, .inl (cI, 6, .inl z0)), (q_4, .inl (cI, 6, .inl z0)), (q_5, .inl (cI, 30, .inl z0))] H := hP
  have hD : va_D A [(h, .inr (10, [.ref q_1, .ref q_2, .int 0, .int 0, .int 1, .int 0, .int 0, .int 0, .ref q_3, .ref q_4, .null, .null, .null, .null, .int 0, .int 0, .int 0, .int 0, .int 0, .int 0, .int 0, .int 0, .int 0, .int 0, .int 0, .int 0, .int 0, .null, .null, .null, .null, .null, .int 0, .int 0, .int 0, .int 0, .null, .null, .null, .null, .int 0, .int 0, .int 0, .null, .null])), (q_1, .inl (cI, 1302, .inl z0)), (q_2, .inl (cZ, 2, .inl z0)), (q_3, .inl (cI, 6, .inl z0)), (q_4, .inl (cI, 6, .inl z0)), (q_5, .inl (cI, 30, .inl z0))] := hD
  refine W.widen (k := 5) (n := 1346) (Nat.le_of_ble_eq_true rfl) (Nat.le_of_ble_eq_true rfl) ?_
  refine va_putF (D := D) (ci := 10) (v := .ref q_5) (ty := (.array .int)) (C := RX10) (T := TX10) (N := 45) hx hb hts iX10 tyX10 tyX10_ok nmX10 hown hK hP hD hS 0 rfl rfl 10 (by decide) (hts _ wd_547) (fun _ h9 => h9) rfl hin rfl (by decide +kernel) rfl rfl (Nat.le_of_ble_eq_true rfl) dX10_init_46 (fun H locs hP hD hS => ?_)
  have hP : va_P D classes [(h, .inr (10, [.ref q_1, .ref q_2, .int 0, .int 0, .int 1, .int 0, .int 0, .int 0, .ref q_3, .ref q_4, .ref q_5, .null, .null, .null, .int 0, .int 0, .int 0, .int 0, .int 0, .int 0, .int 0, .int 0, .int 0, .int 0, .int 0, .int 0, .int 0, .null, .null, .null, .null, .null, .int 0, .int 0, .int 0, .int 0, .null, .null, .null, .null, .int 0, .int 0, .int 0, .null, .null])), (q_1, .inl (cI, 1302, .inl z0)), (q_2, .inl (cZ, 2, .inl z0)), (q_3, .inl (cI, 6, .inl z0)), (q_4, .inl (cI, 6, .inl z0)), (q_5, .inl (cI, 30, .inl z0))] H := hP
  have hD : va_D A [(h, .inr (10, [.ref q_1, .ref q_2, .int 0, .int 0, .int 1, .int 0, .int 0, .int 0, .ref q_3, .ref q_4, .ref q_5, .null, .null, .null, .int 0, .int 0, .int 0, .int 0, .int 0, .int 0, .int 0, .int 0, .int 0, .int 0, .int 0, .int 0, .int 0, .null, .null, .null, .null, .null, .int 0, .int 0, .int 0, .int 0, .null, .null, .null, .null, .int 0, .int 0, .int 0, .null, .null])), (q_1, .inl (cI, 1302, .inl z0)), (q_2, .inl (cZ, 2, .inl z0)), (q_3, .inl (cI, 6, .inl z0)), (q_4, .inl (cI, 6, .inl z0)), (q_5, .inl (cI, 30, .inl z0))] := hD
  refine lv_aload_n hx hb dX10_init_49 rfl (lv_at hl 0 rfl) ?_
  refine lv_bipush (v := 7) hx hb dX10_init_50 (by decide) ?_
  refine va_newa (atype := .int) (a0 := (7, .inl z0)) (N' := 7) (ty := .int) hx hb (hts _ wd_8) rfl hK hP hD hS hA (fun cA => z0_int 7 cA) (by decide +kernel) (by decide +kernel) (by decide +kernel) (Nat.le_of_ble_eq_true rfl) (Nat.le_of_ble_eq_true rfl) dX10_init_52 (fun q_6 cA_q_6 H hKn hP hD hS => ?_)
  obtain rfl := (K_int hKn).symm
  have hP : va_P D classes [(h, .inr (10, [.ref q_1, .ref q_2, .int 0, .int 0, .int 1, .int 0, .int 0, .int 0, .ref q_3, .ref q_4, .ref q_5, .null, .null, .null, .int 0, .int 0, .int 0, .int 0, .int 0, .int 0, .int 0, .int 0, .int 0, .int 0, .int 0, .int 0, .int 0, .null, .null, .null, .null, .null, .int 0, .int 0, .int 0, .int 0, .null, .null, .null, .null, .int 0, .int 0, .int 0, .null, .null])), (q_1, .inl (cI, 1302, .inl z0)), (q_2, .inl (cZ, 2, .inl z0)), (q_3, .inl (cI, 6, .inl z0)), (q_4, .inl (cI, 6, .inl z0)), (q_5, .inl (cI, 30, .inl z0)), (q_6, .inl (cI, 7, .inl z0))] H := hP
  have hD : va_D A [(h, .inr (10, [.ref q_1, .ref q_2, .int 0, .int 0, .int 1, .int 0, .int 0, .int 0, .ref q_3, .ref q_4, .ref q_5, .null, .null, .null, .int 0, .int 0, .int 0, .int 0, .int 0, .int 0, .int 0, .int 0, .int 0, .int 0, .int 0, .int 0, .int 0, .null, .null, .null, .null, .null, .int 0, .int 0, .int 0, .int 0, .null, .null, .null, .null, .int 0, .int 0, .int 0, .null, .null])), (q_1, .inl (cI, 1302, .inl z0)), (q_2, .inl (cZ, 2, .inl z0)), (q_3, .inl (cI, 6, .inl z0)), (q_4, .inl (cI, 6, .inl z0)), (q_5, .inl (cI, 30, .inl z0)), (q_6, .inl (cI, 7, .inl z0))] := hD
  refine W.widen (k := 6) (n := 1353) (Nat.le_of_ble_eq_true rfl) (Nat.le_of_ble_eq_true rfl) ?_
  refine va_putF (D := D) (ci := 10) (v := .ref q_6) (ty := (.array .int)) (C := RX10) (T := TX10) (N := 45) hx hb hts iX10 tyX10 tyX10_ok nmX10 hown hK hP hD hS 0 rfl rfl 11 (by decide) (hts _ wd_593) (fun _ h9 => h9) rfl hin rfl (by decide +kernel) rfl rfl (Nat.le_of_ble_eq_true rfl) dX10_init_54 (fun H locs hP hD hS => ?_)
  have hP : va_P D classes [(h, .inr (10, [.ref q_1, .ref q_2, .int 0, .int 0, .int 1, .int 0, .int 0, .int 0, .ref q_3, .ref q_4, .ref q_5, .ref q_6, .null, .null, .int 0, .int 0, .int 0, .int 0, .int 0, .int 0, .int 0, .int 0, .int 0, .int 0, .int 0, .int 0, .int 0, .null, .null, .null, .null, .null, .int 0, .int 0, .int 0, .int 0, .null, .null, .null, .null, .int 0, .int 0, .int 0, .null, .null])), (q_1, .inl (cI, 1302, .inl z0)), (q_2, .inl (cZ, 2, .inl z0)), (q_3, .inl (cI, 6, .inl z0)), (q_4, .inl (cI, 6, .inl z0)), (q_5, .inl (cI, 30, .inl z0)), (q_6, .inl (cI, 7, .inl z0))] H := hP
  have hD : va_D A [(h, .inr (10, [.ref q_1, .ref q_2, .int 0, .int 0, .int 1, .int 0, .int 0, .int 0, .ref q_3, .ref q_4, .ref q_5, .ref q_6, .null, .null, .int 0, .int 0, .int 0, .int 0, .int 0, .int 0, .int 0, .int 0, .int 0, .int 0, .int 0, .int 0, .int 0, .null, .null, .null, .null, .null, .int 0, .int 0, .int 0, .int 0, .null, .null, .null, .null, .int 0, .int 0, .int 0, .null, .null])), (q_1, .inl (cI, 1302, .inl z0)), (q_2, .inl (cZ, 2, .inl z0)), (q_3, .inl (cI, 6, .inl z0)), (q_4, .inl (cI, 6, .inl z0)), (q_5, .inl (cI, 30, .inl z0)), (q_6, .inl (cI, 7, .inl z0))] := hD
  refine lv_aload_n hx hb dX10_init_57 rfl (lv_at hl 0 rfl) ?_
  refine lv_bipush (v := 7) hx hb dX10_init_58 (by decide) ?_
  refine va_newa (atype := .int) (a0 := (7, .inl z0)) (N' := 7) (ty := .int) hx hb (hts _ wd_8) rfl hK hP hD hS hA (fun cA => z0_int 7 cA) (by decide +kernel) (by decide +kernel) (by decide +kernel) (Nat.le_of_ble_eq_true rfl) (Nat.le_of_ble_eq_true rfl) dX10_init_60 (fun q_7 cA_q_7 H hKn hP hD hS => ?_)
  obtain rfl := (K_int hKn).symm
  have hP : va_P D classes [(h, .inr (10, [.ref q_1, .ref q_2, .int 0, .int 0, .int 1, .int 0, .int 0, .int 0, .ref q_3, .ref q_4, .ref q_5, .ref q_6, .null, .null, .int 0, .int 0, .int 0, .int 0, .int 0, .int 0, .int 0, .int 0, .int 0, .int 0, .int 0, .int 0, .int 0, .null, .null, .null, .null, .null, .int 0, .int 0, .int 0, .int 0, .null, .null, .null, .null, .int 0, .int 0, .int 0, .null, .null])), (q_1, .inl (cI, 1302, .inl z0)), (q_2, .inl (cZ, 2, .inl z0)), (q_3, .inl (cI, 6, .inl z0)), (q_4, .inl (cI, 6, .inl z0)), (q_5, .inl (cI, 30, .inl z0)), (q_6, .inl (cI, 7, .inl z0)), (q_7, .inl (cI, 7, .inl z0))] H := hP
  have hD : va_D A [(h, .inr (10, [.ref q_1, .ref q_2, .int 0, .int 0, .int 1, .int 0, .int 0, .int 0, .ref q_3, .ref q_4, .ref q_5, .ref q_6, .null, .null, .int 0, .int 0, .int 0, .int 0, .int 0, .int 0, .int 0, .int 0, .int 0, .int 0, .int 0, .int 0, .int 0, .null, .null, .null, .null, .null, .int 0, .int 0, .int 0, .int 0, .null, .null, .null, .null, .int 0, .int 0, .int 0, .null, .null])), (q_1, .inl (cI, 1302, .inl z0)), (q_2, .inl (cZ, 2, .inl z0)), (q_3, .inl (cI, 6, .inl z0)), (q_4, .inl (cI, 6, .inl z0)), (q_5, .inl (cI, 30, .inl z0)), (q_6, .inl (cI, 7, .inl z0)), (q_7, .inl (cI, 7, .inl z0))] := hD
  refine W.widen (k := 7) (n := 1360) (Nat.le_of_ble_eq_true rfl) (Nat.le_of_ble_eq_true rfl) ?_
  refine va_putF (D := D) (ci := 10) (v := .ref q_7) (ty := (.array .int)) (C := RX10) (T := TX10) (N := 45) hx hb hts iX10 tyX10 tyX10_ok nmX10 hown hK hP hD hS 0 rfl rfl 12 (by decide) (hts _ wd_594) (fun _ h9 => h9) rfl hin rfl (by decide +kernel) rfl rfl (Nat.le_of_ble_eq_true rfl) dX10_init_62 (fun H locs hP hD hS => ?_)
  have hP : va_P D classes [(h, .inr (10, [.ref q_1, .ref q_2, .int 0, .int 0, .int 1, .int 0, .int 0, .int 0, .ref q_3, .ref q_4, .ref q_5, .ref q_6, .ref q_7, .null, .int 0, .int 0, .int 0, .int 0, .int 0, .int 0, .int 0, .int 0, .int 0, .int 0, .int 0, .int 0, .int 0, .null, .null, .null, .null, .null, .int 0, .int 0, .int 0, .int 0, .null, .null, .null, .null, .int 0, .int 0, .int 0, .null, .null])), (q_1, .inl (cI, 1302, .inl z0)), (q_2, .inl (cZ, 2, .inl z0)), (q_3, .inl (cI, 6, .inl z0)), (q_4, .inl (cI, 6, .inl z0)), (q_5, .inl (cI, 30, .inl z0)), (q_6, .inl (cI, 7, .inl z0)), (q_7, .inl (cI, 7, .inl z0))] H := hP
  have hD : va_D A [(h, .inr (10, [.ref q_1, .ref q_2, .int 0, .int 0, .int 1, .int 0, .int 0, .int 0, .ref q_3, .ref q_4, .ref q_5, .ref q_6, .ref q_7, .null, .int 0, .int 0, .int 0, .int 0, .int 0, .int 0, .int 0, .int 0, .int 0, .int 0, .int 0, .int 0, .int 0, .null, .null, .null, .null, .null, .int 0, .int 0, .int 0, .int 0, .null, .null, .null, .null, .int 0, .int 0, .int 0, .null, .null])), (q_1, .inl (cI, 1302, .inl z0)), (q_2, .inl (cZ, 2, .inl z0)), (q_3, .inl (cI, 6, .inl z0)), (q_4, .inl (cI, 6, .inl z0)), (q_5, .inl (cI, 30, .inl z0)), (q_6, .inl (cI, 7, .inl z0)), (q_7, .inl (cI, 7, .inl z0))] := hD
  refine lv_aload_n hx hb dX10_init_65 rfl (lv_at hl 0 rfl) ?_
  refine lv_sipush (v := 240) hx hb dX10_init_66 (by decide) ?_
  refine va_newa (atype := .int) (a0 := (240, .inl z0)) (N' := 240) (ty := .int) hx hb (hts _ wd_8) rfl hK hP hD hS hA (fun cA => z0_int 240 cA) (by decide +kernel) (by decide +kernel) (by decide +kernel) (Nat.le_of_ble_eq_true rfl) (Nat.le_of_ble_eq_true rfl) dX10_init_69 (fun q_8 cA_q_8 H hKn hP hD hS => ?_)
  obtain rfl := (K_int hKn).symm
  have hP : va_P D classes [(h, .inr (10, [.ref q_1, .ref q_2, .int 0, .int 0, .int 1, .int 0, .int 0, .int 0, .ref q_3, .ref q_4, .ref q_5, .ref q_6, .ref q_7, .null, .int 0, .int 0, .int 0, .int 0, .int 0, .int 0, .int 0, .int 0, .int 0, .int 0, .int 0, .int 0, .int 0, .null, .null, .null, .null, .null, .int 0, .int 0, .int 0, .int 0, .null, .null, .null, .null, .int 0, .int 0, .int 0, .null, .null])), (q_1, .inl (cI, 1302, .inl z0)), (q_2, .inl (cZ, 2, .inl z0)), (q_3, .inl (cI, 6, .inl z0)), (q_4, .inl (cI, 6, .inl z0)), (q_5, .inl (cI, 30, .inl z0)), (q_6, .inl (cI, 7, .inl z0)), (q_7, .inl (cI, 7, .inl z0)), (q_8, .inl (cI, 240, .inl z0))] H := hP
  have hD : va_D A [(h, .inr (10, [.ref q_1, .ref q_2, .int 0, .int 0, .int 1, .int 0, .int 0, .int 0, .ref q_3, .ref q_4, .ref q_5, .ref q_6, .ref q_7, .null, .int 0, .int 0, .int 0, .int 0, .int 0, .int 0, .int 0, .int 0, .int 0, .int 0, .int 0, .int 0, .int 0, .null, .null, .null, .null, .null, .int 0, .int 0, .int 0, .int 0, .null, .null, .null, .null, .int 0, .int 0, .int 0, .null, .null])), (q_1, .inl (cI, 1302, .inl z0)), (q_2, .inl (cZ, 2, .inl z0)), (q_3, .inl (cI, 6, .inl z0)), (q_4, .inl (cI, 6, .inl z0)), (q_5, .inl (cI, 30, .inl z0)), (q_6, .inl (cI, 7, .inl z0)), (q_7, .inl (cI, 7, .inl z0)), (q_8, .inl (cI, 240, .inl z0))] := hD
  refine W.widen (k := 8) (n := 1600) (Nat.le_of_ble_eq_true rfl) (Nat.le_of_ble_eq_true rfl) ?_
  refine va_putF (D := D) (ci := 10) (v := .ref q_8) (ty := (.array .int)) (C := RX10) (T := TX10) (N := 45) hx hb hts iX10 tyX10 tyX10_ok nmX10 hown hK hP hD hS 0 rfl rfl 13 (by decide) (hts _ wd_493) (fun _ h9 => h9) rfl hin rfl (by decide +kernel) rfl rfl (Nat.le_of_ble_eq_true rfl) dX10_init_71 (fun H locs hP hD hS => ?_)
  have hP : va_P D classes [(h, .inr (10, [.ref q_1, .ref q_2, .int 0, .int 0, .int 1, .int 0, .int 0, .int 0, .ref q_3, .ref q_4, .ref q_5, .ref q_6, .ref q_7, .ref q_8, .int 0, .int 0, .int 0, .int 0, .int 0, .int 0, .int 0, .int 0, .int 0, .int 0, .int 0, .int 0, .int 0, .null, .null, .null, .null, .null, .int 0, .int 0, .int 0, .int 0, .null, .null, .null, .null, .int 0, .int 0, .int 0, .null, .null])), (q_1, .inl (cI, 1302, .inl z0)), (q_2, .inl (cZ, 2, .inl z0)), (q_3, .inl (cI, 6, .inl z0)), (q_4, .inl (cI, 6, .inl z0)), (q_5, .inl (cI, 30, .inl z0)), (q_6, .inl (cI, 7, .inl z0)), (q_7, .inl (cI, 7, .inl z0)), (q_8, .inl (cI, 240, .inl z0))] H := hP
  have hD : va_D A [(h, .inr (10, [.ref q_1, .ref q_2, .int 0, .int 0, .int 1, .int 0, .int 0, .int 0, .ref q_3, .ref q_4, .ref q_5, .ref q_6, .ref q_7, .ref q_8, .int 0, .int 0, .int 0, .int 0, .int 0, .int 0, .int 0, .int 0, .int 0, .int 0, .int 0, .int 0, .int 0, .null, .null, .null, .null, .null, .int 0, .int 0, .int 0, .int 0, .null, .null, .null, .null, .int 0, .int 0, .int 0, .null, .null])), (q_1, .inl (cI, 1302, .inl z0)), (q_2, .inl (cZ, 2, .inl z0)), (q_3, .inl (cI, 6, .inl z0)), (q_4, .inl (cI, 6, .inl z0)), (q_5, .inl (cI, 30, .inl z0)), (q_6, .inl (cI, 7, .inl z0)), (q_7, .inl (cI, 7, .inl z0)), (q_8, .inl (cI, 240, .inl z0))] := hD
  refine lv_aload_n hx hb dX10_init_74 rfl (lv_at hl 0 rfl) ?_
  refine lv_iconst (v := (-1)) hx hb dX10_init_75 (by decide) ?_
  refine va_put (D := D) (ci := 10) (v := .int (-1)) (ty := .int) (C := RX10) (T := TX10) (N := 45) hx hb hts iX10 tyX10 tyX10_ok nmX10 hown hK hP hD hS 0 rfl rfl 19 (by decide) (hts _ wd_515) (fun _ h9 => h9) rfl (by decide +kernel) rfl rfl (Nat.le_of_ble_eq_true rfl) dX10_init_76 (fun H locs hP hD hS => ?_)
  have hP : va_P D classes [(h, .inr (10, [.ref q_1, .ref q_2, .int 0, .int 0, .int 1, .int 0, .int 0, .int 0, .ref q_3, .ref q_4, .ref q_5, .ref q_6, .ref q_7, .ref q_8, .int 0, .int 0, .int 0, .int 0, .int 0, .int (-1), .int 0, .int 0, .int 0, .int 0, .int 0, .int 0, .int 0, .null, .null, .null, .null, .null, .int 0, .int 0, .int 0, .int 0, .null, .null, .null, .null, .int 0, .int 0, .int 0, .null, .null])), (q_1, .inl (cI, 1302, .inl z0)), (q_2, .inl (cZ, 2, .inl z0)), (q_3, .inl (cI, 6, .inl z0)), (q_4, .inl (cI, 6, .inl z0)), (q_5, .inl (cI, 30, .inl z0)), (q_6, .inl (cI, 7, .inl z0)), (q_7, .inl (cI, 7, .inl z0)), (q_8, .inl (cI, 240, .inl z0))] H := hP
  have hD : va_D A [(h, .inr (10, [.ref q_1, .ref q_2, .int 0, .int 0, .int 1, .int 0, .int 0, .int 0, .ref q_3, .ref q_4, .ref q_5, .ref q_6, .ref q_7, .ref q_8, .int 0, .int 0, .int 0, .int 0, .int 0, .int (-1), .int 0, .int 0, .int 0, .int 0, .int 0, .int 0, .int 0, .null, .null, .null, .null, .null, .int 0, .int 0, .int 0, .int 0, .null, .null, .null, .null, .int 0, .int 0, .int 0, .null, .null])), (q_1, .inl (cI, 1302, .inl z0)), (q_2, .inl (cZ, 2, .inl z0)), (q_3, .inl (cI, 6, .inl z0)), (q_4, .inl (cI, 6, .inl z0)), (q_5, .inl (cI, 30, .inl z0)), (q_6, .inl (cI, 7, .inl z0)), (q_7, .inl (cI, 7, .inl z0)), (q_8, .inl (cI, 240, .inl z0))] := hD
  refine lv_aload_n hx hb dX10_init_79 rfl (lv_at hl 0 rfl) ?_
  refine lv_bipush (v := 6) hx hb dX10_init_80 (by decide) ?_
  refine va_newa (atype := .int) (a0 := (6, .inl z0)) (N' := 6) (ty := .int) hx hb (hts _ wd_8) rfl hK hP hD hS hA (fun cA => z0_int 6 cA) (by decide +kernel) (by decide +kernel) (by decide +kernel) (Nat.le_of_ble_eq_true rfl) (Nat.le_of_ble_eq_true rfl) dX10_init_82 (fun q_9 cA_q_9 H hKn hP hD hS => ?_)
  obtain rfl := (K_int hKn).symm
  have hP : va_P D classes [(h, .inr (10, [.ref q_1, .ref q_2, .int 0, .int 0, .int 1, .int 0, .int 0, .int 0, .ref q_3, .ref q_4, .ref q_5, .ref q_6, .ref q_7, .ref q_8, .int 0, .int 0, .int 0, .int 0, .int 0, .int (-1), .int 0, .int 0, .int 0, .int 0, .int 0, .int 0, .int 0, .null, .null, .null, .null, .null, .int 0, .int 0, .int 0, .int 0, .null, .null, .null, .null, .int 0, .int 0, .int 0, .null, .null])), (q_1, .inl (cI, 1302, .inl z0)), (q_2, .inl (cZ, 2, .inl z0)), (q_3, .inl (cI, 6, .inl z0)), (q_4, .inl (cI, 6, .inl z0)), (q_5, .inl (cI, 30, .inl z0)), (q_6, .inl (cI, 7, .inl z0)), (q_7, .inl (cI, 7, .inl z0)), (q_8, .inl (cI, 240, .inl z0)), (q_9, .inl (cI, 6, .inl z0))] H := hP
  have hD : va_D A [(h, .inr (10, [.ref q_1, .ref q_2, .int 0, .int 0, .int 1, .int 0, .int 0, .int 0, .ref q_3, .ref q_4, .ref q_5, .ref q_6, .ref q_7, .ref q_8, .int 0, .int 0, .int 0, .int 0, .int 0, .int (-1), .int 0, .int 0, .int 0, .int 0, .int 0, .int 0, .int 0, .null, .null, .null, .null, .null, .int 0, .int 0, .int 0, .int 0, .null, .null, .null, .null, .int 0, .int 0, .int 0, .null, .null])), (q_1, .inl (cI, 1302, .inl z0)), (q_2, .inl (cZ, 2, .inl z0)), (q_3, .inl (cI, 6, .inl z0)), (q_4, .inl (cI, 6, .inl z0)), (q_5, .inl (cI, 30, .inl z0)), (q_6, .inl (cI, 7, .inl z0)), (q_7, .inl (cI, 7, .inl z0)), (q_8, .inl (cI, 240, .inl z0)), (q_9, .inl (cI, 6, .inl z0))] := hD
  refine W.widen (k := 9) (n := 1606) (Nat.le_of_ble_eq_true rfl) (Nat.le_of_ble_eq_true rfl) ?_
  refine va_putF (D := D) (ci := 10) (v := .ref q_9) (ty := (.array .int)) (C := RX10) (T := TX10) (N := 45) hx hb hts iX10 tyX10 tyX10_ok nmX10 hown hK hP hD hS 0 rfl rfl 27 (by decide) (hts _ wd_532) (fun _ h9 => h9) rfl hin rfl (by decide +kernel) rfl rfl (Nat.le_of_ble_eq_true rfl) dX10_init_84 (fun H locs hP hD hS => ?_)
  have hP : va_P D classes [(h, .inr (10, [.ref q_1, .ref q_2, .int 0, .int 0, .int 1, .int 0, .int 0, .int 0, .ref q_3, .ref q_4, .ref q_5, .ref q_6, .ref q_7, .ref q_8, .int 0, .int 0, .int 0, .int 0, .int 0, .int (-1), .int 0, .int 0, .int 0, .int 0, .int 0, .int 0, .int 0, .ref q_9, .null, .null, .null, .null, .int 0, .int 0, .int 0, .int 0, .null, .null, .null, .null, .int 0, .int 0, .int 0, .null, .null])), (q_1, .inl (cI, 1302, .inl z0)), (q_2, .inl (cZ, 2, .inl z0)), (q_3, .inl (cI, 6, .inl z0)), (q_4, .inl (cI, 6, .inl z0)), (q_5, .inl (cI, 30, .inl z0)), (q_6, .inl (cI, 7, .inl z0)), (q_7, .inl (cI, 7, .inl z0)), (q_8, .inl (cI, 240, .inl z0)), (q_9, .inl (cI, 6, .inl z0))] H := hP
  have hD : va_D A [(h, .inr (10, [.ref q_1, .ref q_2, .int 0, .int 0, .int 1, .int 0, .int 0, .int 0, .ref q_3, .ref q_4, .ref q_5, .ref q_6, .ref q_7, .ref q_8, .int 0, .int 0, .int 0, .int 0, .int 0, .int (-1), .int 0, .int 0, .int 0, .int 0, .int 0, .int 0, .int 0, .ref q_9, .null, .null, .null, .null, .int 0, .int 0, .int 0, .int 0, .null, .null, .null, .null, .int 0, .int 0, .int 0, .null, .null])), (q_1, .inl (cI, 1302, .inl z0)), (q_2, .inl (cZ, 2, .inl z0)), (q_3, .inl (cI, 6, .inl z0)), (q_4, .inl (cI, 6, .inl z0)), (q_5, .inl (cI, 30, .inl z0)), (q_6, .inl (cI, 7, .inl z0)), (q_7, .inl (cI, 7, .inl z0)), (q_8, .inl (cI, 240, .inl z0)), (q_9, .inl (cI, 6, .inl z0))] := hD
  refine lv_aload_n hx hb dX10_init_87 rfl (lv_at hl 0 rfl) ?_
  refine lv_bipush (v := 6) hx hb dX10_init_88 (by decide) ?_
  refine va_newa (atype := .int) (a0 := (6, .inl z0)) (N' := 6) (ty := .int) hx hb (hts _ wd_8) rfl hK hP hD hS hA (fun cA => z0_int 6 cA) (by decide +kernel) (by decide +kernel) (by decide +kernel) (Nat.le_of_ble_eq_true rfl) (Nat.le_of_ble_eq_true rfl) dX10_init_90 (fun q_10 cA_q_10 H hKn hP hD hS => ?_)
  obtain rfl := (K_int hKn).symm
  have hP : va_P D classes [(h, .inr (10, [.ref q_1, .ref q_2, .int 0, .int 0, .int 1, .int 0, .int 0, .int 0, .ref q_3, .ref q_4, .ref q_5, .ref q_6, .ref q_7, .ref q_8, .int 0, .int 0, .int 0, .int 0, .int 0, .int (-1), .int 0, .int 0, .int 0, .int 0, .int 0, .int 0, .int 0, .ref q_9, .null, .null, .null, .null, .int 0, .int 0, .int 0, .int 0, .null, .null, .null, .null, .int 0, .int 0, .int 0, .null, .null])), (q_1, .inl (cI, 1302, .inl z0)), (q_2, .inl (cZ, 2, .inl z0)), (q_3, .inl (cI, 6, .inl z0)), (q_4, .inl (cI, 6, .inl z0)), (q_5, .inl (cI, 30, .inl z0)), (q_6, .inl (cI, 7, .inl z0)), (q_7, .inl (cI, 7, .inl z0)), (q_8, .inl (cI, 240, .inl z0)), (q_9, .inl (cI, 6, .inl z0)), (q_10, .inl (cI, 6, .inl z0))] H := hP
  have hD : va_D A [(h, .inr (10, [.ref q_1, .ref q_2, .int 0, .int 0, .int 1, .int 0, .int 0, .int 0, .ref q_3, .ref q_4, .ref q_5, .ref q_6, .ref q_7, .ref q_8, .int 0, .int 0, .int 0, .int 0, .int 0, .int (-1), .int 0, .int 0, .int 0, .int 0, .int 0, .int 0, .int 0, .ref q_9, .null, .null, .null, .null, .int 0, .int 0, .int 0, .int 0, .null, .null, .null, .null, .int 0, .int 0, .int 0, .null, .null])), (q_1, .inl (cI, 1302, .inl z0)), (q_2, .inl (cZ, 2, .inl z0)), (q_3, .inl (cI, 6, .inl z0)), (q_4, .inl (cI, 6, .inl z0)), (q_5, .inl (cI, 30, .inl z0)), (q_6, .inl (cI, 7, .inl z0)), (q_7, .inl (cI, 7, .inl z0)), (q_8, .inl (cI, 240, .inl z0)), (q_9, .inl (cI, 6, .inl z0)), (q_10, .inl (cI, 6, .inl z0))] := hD
  refine W.widen (k := 10) (n := 1612) (Nat.le_of_ble_eq_true rfl) (Nat.le_of_ble_eq_true rfl) ?_
  refine va_putF (D := D) (ci := 10) (v := .ref q_10) (ty := (.array .int)) (C := RX10) (T := TX10) (N := 45) hx hb hts iX10 tyX10 tyX10_ok nmX10 hown hK hP hD hS 0 rfl rfl 28 (by decide) (hts _ wd_535) (fun _ h9 => h9) rfl hin rfl (by decide +kernel) rfl rfl (Nat.le_of_ble_eq_true rfl) dX10_init_92 (fun H locs hP hD hS => ?_)
  have hP : va_P D classes [(h, .inr (10, [.ref q_1, .ref q_2, .int 0, .int 0, .int 1, .int 0, .int 0, .int 0, .ref q_3, .ref q_4, .ref q_5, .ref q_6, .ref q_7, .ref q_8, .int 0, .int 0, .int 0, .int 0, .int 0, .int (-1), .int 0, .int 0, .int 0, .int 0, .int 0, .int 0, .int 0, .ref q_9, .ref q_10, .null, .null, .null, .int 0, .int 0, .int 0, .int 0, .null, .null, .null, .null, .int 0, .int 0, .int 0, .null, .null])), (q_1, .inl (cI, 1302, .inl z0)), (q_2, .inl (cZ, 2, .inl z0)), (q_3, .inl (cI, 6, .inl z0)), (q_4, .inl (cI, 6, .inl z0)), (q_5, .inl (cI, 30, .inl z0)), (q_6, .inl (cI, 7, .inl z0)), (q_7, .inl (cI, 7, .inl z0)), (q_8, .inl (cI, 240, .inl z0)), (q_9, .inl (cI, 6, .inl z0)), (q_10, .inl (cI, 6, .inl z0))] H := hP
  have hD : va_D A [(h, .inr (10, [.ref q_1, .ref q_2, .int 0, .int 0, .int 1, .int 0, .int 0, .int 0, .ref q_3, .ref q_4, .ref q_5, .ref q_6, .ref q_7, .ref q_8, .int 0, .int 0, .int 0, .int 0, .int 0, .int (-1), .int 0, .int 0, .int 0, .int 0, .int 0, .int 0, .int 0, .ref q_9, .ref q_10, .null, .null, .null, .int 0, .int 0, .int 0, .int 0, .null, .null, .null, .null, .int 0, .int 0, .int 0, .null, .null])), (q_1, .inl (cI, 1302, .inl z0)), (q_2, .inl (cZ, 2, .inl z0)), (q_3, .inl (cI, 6, .inl z0)), (q_4, .inl (cI, 6, .inl z0)), (q_5, .inl (cI, 30, .inl z0)), (q_6, .inl (cI, 7, .inl z0)), (q_7, .inl (cI, 7, .inl z0)), (q_8, .inl (cI, 240, .inl z0)), (q_9, .inl (cI, 6, .inl z0)), (q_10, .inl (cI, 6, .inl z0))] := hD
  refine lv_aload_n hx hb dX10_init_95 rfl (lv_at hl 0 rfl) ?_
  refine lv_bipush (v := 30) hx hb dX10_init_96 (by decide) ?_
  refine va_newa (atype := .int) (a0 := (30, .inl z0)) (N' := 30) (ty := .int) hx hb (hts _ wd_8) rfl hK hP hD hS hA (fun cA => z0_int 30 cA) (by decide +kernel) (by decide +kernel) (by decide +kernel) (Nat.le_of_ble_eq_true rfl) (Nat.le_of_ble_eq_true rfl) dX10_init_98 (fun q_11 cA_q_11 H hKn hP hD hS => ?_)
  obtain rfl := (K_int hKn).symm
  have hP : va_P D classes [(h, .inr (10, [.ref q_1, .ref q_2, .int 0, .int 0, .int 1, .int 0, .int 0, .int 0, .ref q_3, .ref q_4, .ref q_5, .ref q_6, .ref q_7, .ref q_8, .int 0, .int 0, .int 0, .int 0, .int 0, .int (-1), .int 0, .int 0, .int 0, .int 0, .int 0, .int 0, .int 0, .ref q_9, .ref q_10, .null, .null, .null, .int 0, .int 0, .int 0, .int 0, .null, .null, .null, .null, .int 0, .int 0, .int 0, .null, .null])), (q_1, .inl (cI, 1302, .inl z0)), (q_2, .inl (cZ, 2, .inl z0)), (q_3, .inl (cI, 6, .inl z0)), (q_4, .inl (cI, 6, .inl z0)), (q_5, .inl (cI, 30, .inl z0)), (q_6, .inl (cI, 7, .inl z0)), (q_7, .inl (cI, 7, .inl z0)), (q_8, .inl (cI, 240, .inl z0)), (q_9, .inl (cI, 6, .inl z0)), (q_10, .inl (cI, 6, .inl z0)), (q_11, .inl (cI, 30, .inl z0))] H := hP
  have hD : va_D A [(h, .inr (10, [.ref q_1, .ref q_2, .int 0, .int 0, .int 1, .int 0, .int 0, .int 0, .ref q_3, .ref q_4, .ref q_5, .ref q_6, .ref q_7, .ref q_8, .int 0, .int 0, .int 0, .int 0, .int 0, .int (-1), .int 0, .int 0, .int 0, .int 0, .int 0, .int 0, .int 0, .ref q_9, .ref q_10, .null, .null, .null, .int 0, .int 0, .int 0, .int 0, .null, .null, .null, .null, .int 0, .int 0, .int 0, .null, .null])), (q_1, .inl (cI, 1302, .inl z0)), (q_2, .inl (cZ, 2, .inl z0)), (q_3, .inl (cI, 6, .inl z0)), (q_4, .inl (cI, 6, .inl z0)), (q_5, .inl (cI, 30, .inl z0)), (q_6, .inl (cI, 7, .inl z0)), (q_7, .inl (cI, 7, .inl z0)), (q_8, .inl (cI, 240, .inl z0)), (q_9, .inl (cI, 6, .inl z0)), (q_10, .inl (cI, 6, .inl z0)), (q_11, .inl (cI, 30, .inl z0))] := hD
  refine W.widen (k := 11) (n := 1642) (Nat.le_of_ble_eq_true rfl) (Nat.le_of_ble_eq_true rfl) ?_
  refine va_putF (D := D) (ci := 10) (v := .ref q_11) (ty := (.array .int)) (C := RX10) (T := TX10) (N := 45) hx hb hts iX10 tyX10 tyX10_ok nmX10 hown hK hP hD hS 0 rfl rfl 29 (by decide) (hts _ wd_537) (fun _ h9 => h9) rfl hin rfl (by decide +kernel) rfl rfl (Nat.le_of_ble_eq_true rfl) dX10_init_100 (fun H locs hP hD hS => ?_)
  have hP : va_P D classes [(h, .inr (10, [.ref q_1, .ref q_2, .int 0, .int 0, .int 1, .int 0, .int 0, .int 0, .ref q_3, .ref q_4, .ref q_5, .ref q_6, .ref q_7, .ref q_8, .int 0, .int 0, .int 0, .int 0, .int 0, .int (-1), .int 0, .int 0, .int 0, .int 0, .int 0, .int 0, .int 0, .ref q_9, .ref q_10, .ref q_11, .null, .null, .int 0, .int 0, .int 0, .int 0, .null, .null, .null, .null, .int 0, .int 0, .int 0, .null, .null])), (q_1, .inl (cI, 1302, .inl z0)), (q_2, .inl (cZ, 2, .inl z0)), (q_3, .inl (cI, 6, .inl z0)), (q_4, .inl (cI, 6, .inl z0)), (q_5, .inl (cI, 30, .inl z0)), (q_6, .inl (cI, 7, .inl z0)), (q_7, .inl (cI, 7, .inl z0)), (q_8, .inl (cI, 240, .inl z0)), (q_9, .inl (cI, 6, .inl z0)), (q_10, .inl (cI, 6, .inl z0)), (q_11, .inl (cI, 30, .inl z0))] H := hP
  have hD : va_D A [(h, .inr (10, [.ref q_1, .ref q_2, .int 0, .int 0, .int 1, .int 0, .int 0, .int 0, .ref q_3, .ref q_4, .ref q_5, .ref q_6, .ref q_7, .ref q_8, .int 0, .int 0, .int 0, .int 0, .int 0, .int (-1), .int 0, .int 0, .int 0, .int 0, .int 0, .int 0, .int 0, .ref q_9, .ref q_10, .ref q_11, .null, .null, .int 0, .int 0, .int 0, .int 0, .null, .null, .null, .null, .int 0, .int 0, .int 0, .null, .null])), (q_1, .inl (cI, 1302, .inl z0)), (q_2, .inl (cZ, 2, .inl z0)), (q_3, .inl (cI, 6, .inl z0)), (q_4, .inl (cI, 6, .inl z0)), (q_5, .inl (cI, 30, .inl z0)), (q_6, .inl (cI, 7, .inl z0)), (q_7, .inl (cI, 7, .inl z0)), (q_8, .inl (cI, 240, .inl z0)), (q_9, .inl (cI, 6, .inl z0)), (q_10, .inl (cI, 6, .inl z0)), (q_11, .inl (cI, 30, .inl z0))] := hD
  refine lv_aload_n hx hb dX10_init_103 rfl (lv_at hl 0 rfl) ?_
  refine lv_bipush (v := 7) hx hb dX10_init_104 (by decide) ?_
  refine va_newa (atype := .int) (a0 := (7, .inl z0)) (N' := 7) (ty := .int) hx hb (hts _ wd_8) rfl hK hP hD hS hA (fun cA => z0_int 7 cA) (by decide +kernel) (by decide +kernel) (by decide +kernel) (Nat.le_of_ble_eq_true rfl) (Nat.le_of_ble_eq_true rfl) dX10_init_106 (fun q_12 cA_q_12 H hKn hP hD hS => ?_)
  obtain rfl := (K_int hKn).symm
  have hP : va_P D classes [(h, .inr (10, [.ref q_1, .ref q_2, .int 0, .int 0, .int 1, .int 0, .int 0, .int 0, .ref q_3, .ref q_4, .ref q_5, .ref q_6, .ref q_7, .ref q_8, .int 0, .int 0, .int 0, .int 0, .int 0, .int (-1), .int 0, .int 0, .int 0, .int 0, .int 0, .int 0, .int 0, .ref q_9, .ref q_10, .ref q_11, .null, .null, .int 0, .int 0, .int 0, .int 0, .null, .null, .null, .null, .int 0, .int 0, .int 0, .null, .null])), (q_1, .inl (cI, 1302, .inl z0)), (q_2, .inl (cZ, 2, .inl z0)), (q_3, .inl (cI, 6, .inl z0)), (q_4, .inl (cI, 6, .inl z0)), (q_5, .inl (cI, 30, .inl z0)), (q_6, .inl (cI, 7, .inl z0)), (q_7, .inl (cI, 7, .inl z0)), (q_8, .inl (cI, 240, .inl z0)), (q_9, .inl (cI, 6, .inl z0)), (q_10, .inl (cI, 6, .inl z0)), (q_11, .inl (cI, 30, .inl z0)), (q_12, .inl (cI, 7, .inl z0))] H := hP
  have hD : va_D A [(h, .inr (10, [.ref q_1, .ref q_2, .int 0, .int 0, .int 1, .int 0, .int 0, .int 0, .ref q_3, .ref q_4, .ref q_5, .ref q_6, .ref q_7, .ref q_8, .int 0, .int 0, .int 0, .int 0, .int 0, .int (-1), .int 0, .int 0, .int 0, .int 0, .int 0, .int 0, .int 0, .ref q_9, .ref q_10, .ref q_11, .null, .null, .int 0, .int 0, .int 0, .int 0, .null, .null, .null, .null, .int 0, .int 0, .int 0, .null, .null])), (q_1, .inl (cI, 1302, .inl z0)), (q_2, .inl (cZ, 2, .inl z0)), (q_3, .inl (cI, 6, .inl z0)), (q_4, .inl (cI, 6, .inl z0)), (q_5, .inl (cI, 30, .inl z0)), (q_6, .inl (cI, 7, .inl z0)), (q_7, .inl (cI, 7, .inl z0)), (q_8, .inl (cI, 240, .inl z0)), (q_9, .inl (cI, 6, .inl z0)), (q_10, .inl (cI, 6, .inl z0)), (q_11, .inl (cI, 30, .inl z0)), (q_12, .inl (cI, 7, .inl z0))] := hD
  refine W.widen (k := 12) (n := 1649) (Nat.le_of_ble_eq_true rfl) (Nat.le_of_ble_eq_true rfl) ?_
  refine va_putF (D := D) (ci := 10) (v := .ref q_12) (ty := (.array .int)) (C := RX10) (T := TX10) (N := 45) hx hb hts iX10 tyX10 tyX10_ok nmX10 hown hK hP hD hS 0 rfl rfl 30 (by decide) (hts _ wd_542) (fun _ h9 => h9) rfl hin rfl (by decide +kernel) rfl rfl (Nat.le_of_ble_eq_true rfl) dX10_init_108 (fun H locs hP hD hS => ?_)
  have hP : va_P D classes [(h, .inr (10, [.ref q_1, .ref q_2, .int 0, .int 0, .int 1, .int 0, .int 0, .int 0, .ref q_3, .ref q_4, .ref q_5, .ref q_6, .ref q_7, .ref q_8, .int 0, .int 0, .int 0, .int 0, .int 0, .int (-1), .int 0, .int 0, .int 0, .int 0, .int 0, .int 0, .int 0, .ref q_9, .ref q_10, .ref q_11, .ref q_12, .null, .int 0, .int 0, .int 0, .int 0, .null, .null, .null, .null, .int 0, .int 0, .int 0, .null, .null])), (q_1, .inl (cI, 1302, .inl z0)), (q_2, .inl (cZ, 2, .inl z0)), (q_3, .inl (cI, 6, .inl z0)), (q_4, .inl (cI, 6, .inl z0)), (q_5, .inl (cI, 30, .inl z0)), (q_6, .inl (cI, 7, .inl z0)), (q_7, .inl (cI, 7, .inl z0)), (q_8, .inl (cI, 240, .inl z0)), (q_9, .inl (cI, 6, .inl z0)), (q_10, .inl (cI, 6, .inl z0)), (q_11, .inl (cI, 30, .inl z0)), (q_12, .inl (cI, 7, .inl z0))] H := hP
  have hD : va_D A [(h, .inr (10, [.ref q_1, .ref q_2, .int 0, .int 0, .int 1, .int 0, .int 0, .int 0, .ref q_3, .ref q_4, .ref q_5, .ref q_6, .ref q_7, .ref q_8, .int 0, .int 0, .int 0, .int 0, .int 0, .int (-1), .int 0, .int 0, .int 0, .int 0, .int 0, .int 0, .int 0, .ref q_9, .ref q_10, .ref q_11, .ref q_12, .null, .int 0, .int 0, .int 0, .int 0, .null, .null, .null, .null, .int 0, .int 0, .int 0, .null, .null])), (q_1, .inl (cI, 1302, .inl z0)), (q_2, .inl (cZ, 2, .inl z0)), (q_3, .inl (cI, 6, .inl z0)), (q_4, .inl (cI, 6, .inl z0)), (q_5, .inl (cI, 30, .inl z0)), (q_6, .inl (cI, 7, .inl z0)), (q_7, .inl (cI, 7, .inl z0)), (q_8, .inl (cI, 240, .inl z0)), (q_9, .inl (cI, 6, .inl z0)), (q_10, .inl (cI, 6, .inl z0)), (q_11, .inl (cI, 30, .inl z0)), (q_12, .inl (cI, 7, .inl z0))] := hD
  refine lv_aload_n hx hb dX10_init_111 rfl (lv_at hl 0 rfl) ?_
  refine lv_bipush (v := 7) hx hb dX10_init_112 (by decide) ?_
  refine va_newa (atype := .int) (a0 := (7, .inl z0)) (N' := 7) (ty := .int) hx hb (hts _ wd_8) rfl hK hP hD hS hA (fun cA => z0_int 7 cA) (by decide +kernel) (by decide +kernel) (by decide +kernel) (Nat.le_of_ble_eq_true rfl) (Nat.le_of_ble_eq_true rfl) dX10_init_114 (fun q_13 cA_q_13 H hKn hP hD hS => ?_)
  obtain rfl := (K_int hKn).symm
  have hP : va_P D classes [(h, .inr (10, [.ref q_1, .ref q_2, .int 0, .int 0, .int 1, .int 0, .int 0, .int 0, .ref q_3, .ref q_4, .ref q_5, .ref q_6, .ref q_7, .ref q_8, .int 0, .int 0, .int 0, .int 0, .int 0, .int (-1), .int 0, .int 0, .int 0, .int 0, .int 0, .int 0, .int 0, .ref q_9, .ref q_10, .ref q_11, .ref q_12, .null, .int 0, .int 0, .int 0, .int 0, .null, .null, .null, .null, .int 0, .int 0, .int 0, .null, .null])), (q_1, .inl (cI, 1302, .inl z0)), (q_2, .inl (cZ, 2, .inl z0)), (q_3, .inl (cI, 6, .inl z0)), (q_4, .inl (cI, 6, .inl z0)), (q_5, .inl (cI, 30, .inl z0)), (q_6, .inl (cI, 7, .inl z0)), (q_7, .inl (cI, 7, .inl z0)), (q_8, .inl (cI, 240, .inl z0)), (q_9, .inl (cI, 6, .inl z0)), (q_10, .inl (cI, 6, .inl z0)), (q_11, .inl (cI, 30, .inl z0)), (q_12, .inl (cI, 7, .inl z0)), (q_13, .inl (cI, 7, .inl z0))] H := hP
  have hD : va_D A [(h, .inr (10, [.ref q_1, .ref q_2, .int 0, .int 0, .int 1, .int 0, .int 0, .int 0, .ref q_3, .ref q_4, .ref q_5, .ref q_6, .ref q_7, .ref q_8, .int 0, .int 0, .int 0, .int 0, .int 0, .int (-1), .int 0, .int 0, .int 0, .int 0, .int 0, .int 0, .int 0, .ref q_9, .ref q_10, .ref q_11, .ref q_12, .null, .int 0, .int 0, .int 0, .int 0, .null, .null, .null, .null, .int 0, .int 0, .int 0, .null, .null])), (q_1, .inl (cI, 1302, .inl z0)), (q_2, .inl (cZ, 2, .inl z0)), (q_3, .inl (cI, 6, .inl z0)), (q_4, .inl (cI, 6, .inl z0)), (q_5, .inl (cI, 30, .inl z0)), (q_6, .inl (cI, 7, .inl z0)), (q_7, .inl (cI, 7, .inl z0)), (q_8, .inl (cI, 240, .inl z0)), (q_9, .inl (cI, 6, .inl z0)), (q_10, .inl (cI, 6, .inl z0)), (q_11, .inl (cI, 30, .inl z0)), (q_12, .inl (cI, 7, .inl z0)), (q_13, .inl (cI, 7, .inl z0))] := hD
  refine W.widen (k := 13) (n := 1656) (Nat.le_of_ble_eq_true rfl) (Nat.le_of_ble_eq_true rfl) ?_
  refine va_putF (D := D) (ci := 10) (v := .ref q_13) (ty := (.array .int)) (C := RX10) (T := TX10) (N := 45) hx hb hts iX10 tyX10 tyX10_ok nmX10 hown hK hP hD hS 0 rfl rfl 31 (by decide) (hts _ wd_544) (fun _ h9 => h9) rfl hin rfl (by decide +kernel) rfl rfl (Nat.le_of_ble_eq_true rfl) dX10_init_116 (fun H locs hP hD hS => ?_)
  have hP : va_P D classes [(h, .inr (10, [.ref q_1, .ref q_2, .int 0, .int 0, .int 1, .int 0, .int 0, .int 0, .ref q_3, .ref q_4, .ref q_5, .ref q_6, .ref q_7, .ref q_8, .int 0, .int 0, .int 0, .int 0, .int 0, .int (-1), .int 0, .int 0, .int 0, .int 0, .int 0, .int 0, .int 0, .ref q_9, .ref q_10, .ref q_11, .ref q_12, .ref q_13, .int 0, .int 0, .int 0, .int 0, .null, .null, .null, .null, .int 0, .int 0, .int 0, .null, .null])), (q_1, .inl (cI, 1302, .inl z0)), (q_2, .inl (cZ, 2, .inl z0)), (q_3, .inl (cI, 6, .inl z0)), (q_4, .inl (cI, 6, .inl z0)), (q_5, .inl (cI, 30, .inl z0)), (q_6, .inl (cI, 7, .inl z0)), (q_7, .inl (cI, 7, .inl z0)), (q_8, .inl (cI, 240, .inl z0)), (q_9, .inl (cI, 6, .inl z0)), (q_10, .inl (cI, 6, .inl z0)), (q_11, .inl (cI, 30, .inl z0)), (q_12, .inl (cI, 7, .inl z0)), (q_13, .inl (cI, 7, .inl z0))] H := hP
  have hD : va_D A [(h, .inr (10, [.ref q_1, .ref q_2, .int 0, .int 0, .int 1, .int 0, .int 0, .int 0, .ref q_3, .ref q_4, .ref q_5, .ref q_6, .ref q_7, .ref q_8, .int 0, .int 0, .int 0, .int 0, .int 0, .int (-1), .int 0, .int 0, .int 0, .int 0, .int 0, .int 0, .int 0, .ref q_9, .ref q_10, .ref q_11, .ref q_12, .ref q_13, .int 0, .int 0, .int 0, .int 0, .null, .null, .null, .null, .int 0, .int 0, .int 0, .null, .null])), (q_1, .inl (cI, 1302, .inl z0)), (q_2, .inl (cZ, 2, .inl z0)), (q_3, .inl (cI, 6, .inl z0)), (q_4, .inl (cI, 6, .inl z0)), (q_5, .inl (cI, 30, .inl z0)), (q_6, .inl (cI, 7, .inl z0)), (q_7, .inl (cI, 7, .inl z0)), (q_8, .inl (cI, 240, .inl z0)), (q_9, .inl (cI, 6, .inl z0)), (q_10, .inl (cI, 6, .inl z0)), (q_11, .inl (cI, 30, .inl z0)), (q_12, .inl (cI, 7, .inl z0)), (q_13, .inl (cI, 7, .inl z0))] := hD
  refine lv_aload_n hx hb dX10_init_119 rfl (lv_at hl 0 rfl) ?_
  refine lv_sipush (v := 448) hx hb dX10_init_120 (by decide) ?_
  refine va_newa (atype := .int) (a0 := (448, .inl z0)) (N' := 448) (ty := .int) hx hb (hts _ wd_8) rfl hK hP hD hS hA (fun cA => z0_int 448 cA) (by decide +kernel) (by decide +kernel) (by decide +kernel) (Nat.le_of_ble_eq_true rfl) (Nat.le_of_ble_eq_true rfl) dX10_init_123 (fun q_14 cA_q_14 H hKn hP hD hS => ?_)
  obtain rfl := (K_int hKn).symm
  have hP : va_P D classes [(h, .inr (10, [.ref q_1, .ref q_2, .int 0, .int 0, .int 1, .int 0, .int 0, .int 0, .ref q_3, .ref q_4, .ref q_5, .ref q_6, .ref q_7, .ref q_8, .int 0, .int 0, .int 0, .int 0, .int 0, .int (-1), .int 0, .int 0, .int 0, .int 0, .int 0, .int 0, .int 0, .ref q_9, .ref q_10, .ref q_11, .ref q_12, .ref q_13, .int 0, .int 0, .int 0, .int 0, .null, .null, .null, .null, .int 0, .int 0, .int 0, .null, .null])), (q_1, .inl (cI, 1302, .inl z0)), (q_2, .inl (cZ, 2, .inl z0)), (q_3, .inl (cI, 6, .inl z0)), (q_4, .inl (cI, 6, .inl z0)), (q_5, .inl (cI, 30, .inl z0)), (q_6, .inl (cI, 7, .inl z0)), (q_7, .inl (cI, 7, .inl z0)), (q_8, .inl (cI, 240, .inl z0)), (q_9, .inl (cI, 6, .inl z0)), (q_10, .inl (cI, 6, .inl z0)), (q_11, .inl (cI, 30, .inl z0)), (q_12, .inl (cI, 7, .inl z0)), (q_13, .inl (cI, 7, .inl z0)), (q_14, .inl (cI, 448, .inl z0))] H := hP
  have hD : va_D A [(h, .inr (10, [.ref q_1, .ref q_2, .int 0, .int 0, .int 1, .int 0, .int 0, .int 0, .ref q_3, .ref q_4, .ref q_5, .ref q_6, .ref q_7, .ref q_8, .int 0, .int 0, .int 0, .int 0, .int 0, .int (-1), .int 0, .int 0, .int 0, .int 0, .int 0, .int 0, .int 0, .ref q_9, .ref q_10, .ref q_11, .ref q_12, .ref q_13, .int 0, .int 0, .int 0, .int 0, .null, .null, .null, .null, .int 0, .int 0, .int 0, .null, .null])), (q_1, .inl (cI, 1302, .inl z0)), (q_2, .inl (cZ, 2, .inl z0)), (q_3, .inl (cI, 6, .inl z0)), (q_4, .inl (cI, 6, .inl z0)), (q_5, .inl (cI, 30, .inl z0)), (q_6, .inl (cI, 7, .inl z0)), (q_7, .inl (cI, 7, .inl z0)), (q_8, .inl (cI, 240, .inl z0)), (q_9, .inl (cI, 6, .inl z0)), (q_10, .inl (cI, 6, .inl z0)), (q_11, .inl (cI, 30, .inl z0)), (q_12, .inl (cI, 7, .inl z0)), (q_13, .inl (cI, 7, .inl z0)), (q_14, .inl (cI, 448, .inl z0))] := hD
  refine W.widen (k := 14) (n := 2104) (Nat.le_of_ble_eq_true rfl) (Nat.le_of_ble_eq_true rfl) ?_
  refine va_putF (D := D) (ci := 10) (v := .ref q_14) (ty := (.array .int)) (C := RX10) (T := TX10) (N := 45) hx hb hts iX10 tyX10 tyX10_ok nmX10 hown hK hP hD hS 0 rfl rfl 36 (by decide) (hts _ wd_693) (fun _ h9 => h9) rfl hin rfl (by decide +kernel) rfl rfl (Nat.le_of_ble_eq_true rfl) dX10_init_125 (fun H locs hP hD hS => ?_)
  have hP : va_P D classes [(h, .inr (10, [.ref q_1, .ref q_2, .int 0, .int 0, .int 1, .int 0, .int 0, .int 0, .ref q_3, .ref q_4, .ref q_5, .ref q_6, .ref q_7, .ref q_8, .int 0, .int 0, .int 0, .int 0, .int 0, .int (-1), .int 0, .int 0, .int 0, .int 0, .int 0, .int 0, .int 0, .ref q_9, .ref q_10, .ref q_11, .ref q_12, .ref q_13, .int 0, .int 0, .int 0, .int 0, .ref q_14, .null, .null, .null, .int 0, .int 0, .int 0, .null, .null])), (q_1, .inl (cI, 1302, .inl z0)), (q_2, .inl (cZ, 2, .inl z0)), (q_3, .inl (cI, 6, .inl z0)), (q_4, .inl (cI, 6, .inl z0)), (q_5, .inl (cI, 30, .inl z0)), (q_6, .inl (cI, 7, .inl z0)), (q_7, .inl (cI, 7, .inl z0)), (q_8, .inl (cI, 240, .inl z0)), (q_9, .inl (cI, 6, .inl z0)), (q_10, .inl (cI, 6, .inl z0)), (q_11, .inl (cI, 30, .inl z0)), (q_12, .inl (cI, 7, .inl z0)), (q_13, .inl (cI, 7, .inl z0)), (q_14, .inl (cI, 448, .inl z0))] H := hP
  have hD : va_D A [(h, .inr (10, [.ref q_1, .ref q_2, .int 0, .int 0, .int 1, .int 0, .int 0, .int 0, .ref q_3, .ref q_4, .ref q_5, .ref q_6, .ref q_7, .ref q_8, .int 0, .int 0, .int 0, .int 0, .int 0, .int (-1), .int 0, .int 0, .int 0, .int 0, .int 0, .int 0, .int 0, .ref q_9, .ref q_10, .ref q_11, .ref q_12, .ref q_13, .int 0, .int 0, .int 0, .int 0, .ref q_14, .null, .null, .null, .int 0, .int 0, .int 0, .null, .null])), (q_1, .inl (cI, 1302, .inl z0)), (q_2, .inl (cZ, 2, .inl z0)), (q_3, .inl (cI, 6, .inl z0)), (q_4, .inl (cI, 6, .inl z0)), (q_5, .inl (cI, 30, .inl z0)), (q_6, .inl (cI, 7, .inl z0)), (q_7, .inl (cI, 7, .inl z0)), (q_8, .inl (cI, 240, .inl z0)), (q_9, .inl (cI, 6, .inl z0)), (q_10, .inl (cI, 6, .inl z0)), (q_11, .inl (cI, 30, .inl z0)), (q_12, .inl (cI, 7, .inl z0)), (q_13, .inl (cI, 7, .inl z0)), (q_14, .inl (cI, 448, .inl z0))] := hD
  refine lv_aload_n hx hb dX10_init_128 rfl (lv_at hl 0 rfl) ?_
  refine lv_bipush (v := 36) hx hb dX10_init_129 (by decide) ?_
  refine va_newa (atype := .int) (a0 := (36, .inl z0)) (N' := 36) (ty := .int) hx hb (hts _ wd_8) rfl hK hP hD hS hA (fun cA => z0_int 36 cA) (by decide +kernel) (by decide +kernel) (by decide +kernel) (Nat.le_of_ble_eq_true rfl) (Nat.le_of_ble_eq_true rfl) dX10_init_131 (fun q_15 cA_q_15 H hKn hP hD hS => ?_)
  obtain rfl := (K_int hKn).symm
  have hP : va_P D classes [(h, .inr (10, [.ref q_1, .ref q_2, .int 0, .int 0, .int 1, .int 0, .int 0, .int 0, .ref q_3, .ref q_4, .ref q_5, .ref q_6, .ref q_7, .ref q_8, .int 0, .int 0, .int 0, .int 0, .int 0, .int (-1), .int 0, .int 0, .int 0, .int 0, .int 0, .int 0, .int 0, .ref q_9, .ref q_10, .ref q_11, .ref q_12, .ref q_13, .int 0, .int 0, .int 0, .int 0, .ref q_14, .null, .null, .null, .int 0, .int 0, .int 0, .null, .null])), (q_1, .inl (cI, 1302, .inl z0)), (q_2, .inl (cZ, 2, .inl z0)), (q_3, .inl (cI, 6, .inl z0)), (q_4, .inl (cI, 6, .inl z0)), (q_5, .inl (cI, 30, .inl z0)), (q_6, .inl (cI, 7, .inl z0)), (q_7, .inl (cI, 7, .inl z0)), (q_8, .inl (cI, 240, .inl z0)), (q_9, .inl (cI, 6, .inl z0)), (q_10, .inl (cI, 6, .inl z0)), (q_11, .inl (cI, 30, .inl z0)), (q_12, .inl (cI, 7, .inl z0)), (q_13, .inl (cI, 7, .inl z0)), (q_14, .inl (cI, 448, .inl z0)), (q_15, .inl (cI, 36, .inl z0))] H := hP
  have hD : va_D A [(h, .inr (10, [.ref q_1, .ref q_2, .int 0, .int 0, .int 1, .int 0, .int 0, .int 0, .ref q_3, .ref q_4, .ref q_5, .ref q_6, .ref q_7, .ref q_8, .int 0, .int 0, .int 0, .int 0, .int 0, .int (-1), .int 0, .int 0, .int 0, .int 0, .int 0, .int 0, .int 0, .ref q_9, .ref q_10, .ref q_11, .ref q_12, .ref q_13, .int 0, .int 0, .int 0, .int 0, .ref q_14, .null, .null, .null, .int 0, .int 0, .int 0, .null, .null])), (q_1, .inl (cI, 1302, .inl z0)), (q_2, .inl (cZ, 2, .inl z0)), (q_3, .inl (cI, 6, .inl z0)), (q_4, .inl (cI, 6, .inl z0)), (q_5, .inl (cI, 30, .inl z0)), (q_6, .inl (cI, 7, .inl z0)), (q_7, .inl (cI, 7, .inl z0)), (q_8, .inl (cI, 240, .inl z0)), (q_9, .inl (cI, 6, .inl z0)), (q_10, .inl (cI, 6, .inl z0)), (q_11, .inl (cI, 30, .inl z0)), (q_12, .inl (cI, 7, .inl z0)), (q_13, .inl (cI, 7, .inl z0)), (q_14, .inl (cI, 448, .inl z0)), (q_15, .inl (cI, 36, .inl z0))] := hD
  refine W.widen (k := 15) (n := 2140) (Nat.le_of_ble_eq_true rfl) (Nat.le_of_ble_eq_true rfl) ?_
  refine va_putF (D := D) (ci := 10) (v := .ref q_15) (ty := (.array .int)) (C := RX10) (T := TX10) (N := 45) hx hb hts iX10 tyX10 tyX10_ok nmX10 hown hK hP hD hS 0 rfl rfl 37 (by decide) (hts _ wd_672) (fun _ h9 => h9) rfl hin rfl (by decide +kernel) rfl rfl (Nat.le_of_ble_eq_true rfl) dX10_init_133 (fun H locs hP hD hS => ?_)
  have hP : va_P D classes [(h, .inr (10, [.ref q_1, .ref q_2, .int 0, .int 0, .int 1, .int 0, .int 0, .int 0, .ref q_3, .ref q_4, .ref q_5, .ref q_6, .ref q_7, .ref q_8, .int 0, .int 0, .int 0, .int 0, .int 0, .int (-1), .int 0, .int 0, .int 0, .int 0, .int 0, .int 0, .int 0, .ref q_9, .ref q_10, .ref q_11, .ref q_12, .ref q_13, .int 0, .int 0, .int 0, .int 0, .ref q_14, .ref q_15, .null, .null, .int 0, .int 0, .int 0, .null, .null])), (q_1, .inl (cI, 1302, .inl z0)), (q_2, .inl (cZ, 2, .inl z0)), (q_3, .inl (cI, 6, .inl z0)), (q_4, .inl (cI, 6, .inl z0)), (q_5, .inl (cI, 30, .inl z0)), (q_6, .inl (cI, 7, .inl z0)), (q_7, .inl (cI, 7, .inl z0)), (q_8, .inl (cI, 240, .inl z0)), (q_9, .inl (cI, 6, .inl z0)), (q_10, .inl (cI, 6, .inl z0)), (q_11, .inl (cI, 30, .inl z0)), (q_12, .inl (cI, 7, .inl z0)), (q_13, .inl (cI, 7, .inl z0)), (q_14, .inl (cI, 448, .inl z0)), (q_15, .inl (cI, 36, .inl z0))] H := hP
  have hD : va_D A [(h, .inr (10, [.ref q_1, .ref q_2, .int 0, .int 0, .int 1, .int 0, .int 0, .int 0, .ref q_3, .ref q_4, .ref q_5, .ref q_6, .ref q_7, .ref q_8, .int 0, .int 0, .int 0, .int 0, .int 0, .int (-1), .int 0, .int 0, .int 0, .int 0, .int 0, .int 0, .int 0, .ref q_9, .ref q_10, .ref q_11, .ref q_12, .ref q_13, .int 0, .int 0, .int 0, .int 0, .ref q_14, .ref q_15, .null, .null, .int 0, .int 0, .int 0, .null, .null])), (q_1, .inl (cI, 1302, .inl z0)), (q_2, .inl (cZ, 2, .inl z0)), (q_3, .inl (cI, 6, .inl z0)), (q_4, .inl (cI, 6, .inl z0)), (q_5, .inl (cI, 30, .inl z0)), (q_6, .inl (cI, 7, .inl z0)), (q_7, .inl (cI, 7, .inl z0)), (q_8, .inl (cI, 240, .inl z0)), (q_9, .inl (cI, 6, .inl z0)), (q_10, .inl (cI, 6, .inl z0)), (q_11, .inl (cI, 30, .inl z0)), (q_12, .inl (cI, 7, .inl z0)), (q_13, .inl (cI, 7, .inl z0)), (q_14, .inl (cI, 448, .inl z0)), (q_15, .inl (cI, 36, .inl z0))] := hD
  refine lv_aload_n hx hb dX10_init_136 rfl (lv_at hl 0 rfl) ?_
  refine lv_bipush (v := 8) hx hb dX10_init_137 (by decide) ?_
  refine va_newa (atype := .int) (a0 := (8, .inl z0)) (N' := 8) (ty := .int) hx hb (hts _ wd_8) rfl hK hP hD hS hA (fun cA => z0_int 8 cA) (by decide +kernel) (by decide +kernel) (by decide +kernel) (Nat.le_of_ble_eq_true rfl) (Nat.le_of_ble_eq_true rfl) dX10_init_139 (fun q_16 cA_q_16 H hKn hP hD hS => ?_)
  obtain rfl := (K_int hKn).symm
  have hP : va_P D classes [(h, .inr (10, [.ref q_1, .ref q_2, .int 0, .int 0, .int 1, .int 0, .int 0, .int 0, .ref q_3, .ref q_4, .ref q_5, .ref q_6, .ref q_7, .ref q_8, .int 0, .int 0, .int 0, .int 0, .int 0, .int (-1), .int 0, .int 0, .int 0, .int 0, .int 0, .int 0, .int 0, .ref q_9, .ref q_10, .ref q_11, .ref q_12, .ref q_13, .int 0, .int 0, .int 0, .int 0, .ref q_14, .ref q_15, .null, .null, .int 0, .int 0, .int 0, .null, .null])), (q_1, .inl (cI, 1302, .inl z0)), (q_2, .inl (cZ, 2, .inl z0)), (q_3, .inl (cI, 6, .inl z0)), (q_4, .inl (cI, 6, .inl z0)), (q_5, .inl (cI, 30, .inl z0)), (q_6, .inl (cI, 7, .inl z0)), (q_7, .inl (cI, 7, .inl z0)), (q_8, .inl (cI, 240, .inl z0)), (q_9, .inl (cI, 6, .inl z0)), (q_10, .inl (cI, 6, .inl z0)), (q_11, .inl (cI, 30, .inl z0)), (q_12, .inl (cI, 7, .inl z0)), (q_13, .inl (cI, 7, .inl z0)), (q_14, .inl (cI, 448, .inl z0)), (q_15, .inl (cI, 36, .inl z0)), (q_16, .inl (cI, 8, .inl z0))] H := hP
  have hD : va_D A [(h, .inr (10, [.ref q_1, .ref q_2, .int 0, .int 0, .int 1, .int 0, .int 0, .int 0, .ref q_3, .ref q_4, .ref q_5, .ref q_6, .ref q_7, .ref q_8, .int 0, .int 0, .int 0, .int 0, .int 0, .int (-1), .int 0, .int 0, .int 0, .int 0, .int 0, .int 0, .int 0, .ref q_9, .ref q_10, .ref q_11, .ref q_12, .ref q_13, .int 0, .int 0, .int 0, .int 0, .ref q_14, .ref q_15, .null, .null, .int 0, .int 0, .int 0, .null, .null])), (q_1, .inl (cI, 1302, .inl z0)), (q_2, .inl (cZ, 2, .inl z0)), (q_3, .inl (cI, 6, .inl z0)), (q_4, .inl (cI, 6, .inl z0)), (q_5, .inl (cI, 30, .inl z0)), (q_6, .inl (cI, 7, .inl z0)), (q_7, .inl (cI, 7, .inl z0)), (q_8, .inl (cI, 240, .inl z0)), (q_9, .inl (cI, 6, .inl z0)), (q_10, .inl (cI, 6, .inl z0)), (q_11, .inl (cI, 30, .inl z0)), (q_12, .inl (cI, 7, .inl z0)), (q_13, .inl (cI, 7, .inl z0)), (q_14, .inl (cI, 448, .inl z0)), (q_15, .inl (cI, 36, .inl z0)), (q_16, .inl (cI, 8, .inl z0))] := hD
  refine W.widen (k := 16) (n := 2148) (Nat.le_of_ble_eq_true rfl) (Nat.le_of_ble_eq_true rfl) ?_
  refine va_putF (D := D) (ci := 10) (v := .ref q_16) (ty := (.array .int)) (C := RX10) (T := TX10) (N := 45) hx hb hts iX10 tyX10 tyX10_ok nmX10 hown hK hP hD hS 0 rfl rfl 38 (by decide) (hts _ wd_675) (fun _ h9 => h9) rfl hin rfl (by decide +kernel) rfl rfl (Nat.le_of_ble_eq_true rfl) dX10_init_141 (fun H locs hP hD hS => ?_)
  have hP : va_P D classes [(h, .inr (10, [.ref q_1, .ref q_2, .int 0, .int 0, .int 1, .int 0, .int 0, .int 0, .ref q_3, .ref q_4, .ref q_5, .ref q_6, .ref q_7, .ref q_8, .int 0, .int 0, .int 0, .int 0, .int 0, .int (-1), .int 0, .int 0, .int 0, .int 0, .int 0, .int 0, .int 0, .ref q_9, .ref q_10, .ref q_11, .ref q_12, .ref q_13, .int 0, .int 0, .int 0, .int 0, .ref q_14, .ref q_15, .ref q_16, .null, .int 0, .int 0, .int 0, .null, .null])), (q_1, .inl (cI, 1302, .inl z0)), (q_2, .inl (cZ, 2, .inl z0)), (q_3, .inl (cI, 6, .inl z0)), (q_4, .inl (cI, 6, .inl z0)), (q_5, .inl (cI, 30, .inl z0)), (q_6, .inl (cI, 7, .inl z0)), (q_7, .inl (cI, 7, .inl z0)), (q_8, .inl (cI, 240, .inl z0)), (q_9, .inl (cI, 6, .inl z0)), (q_10, .inl (cI, 6, .inl z0)), (q_11, .inl (cI, 30, .inl z0)), (q_12, .inl (cI, 7, .inl z0)), (q_13, .inl (cI, 7, .inl z0)), (q_14, .inl (cI, 448, .inl z0)), (q_15, .inl (cI, 36, .inl z0)), (q_16, .inl (cI, 8, .inl z0))] H := hP
  have hD : va_D A [(h, .inr (10, [.ref q_1, .ref q_2, .int 0, .int 0, .int 1, .int 0, .int 0, .int 0, .ref q_3, .ref q_4, .ref q_5, .ref q_6, .ref q_7, .ref q_8, .int 0, .int 0, .int 0, .int 0, .int 0, .int (-1), .int 0, .int 0, .int 0, .int 0, .int 0, .int 0, .int 0, .ref q_9, .ref q_10, .ref q_11, .ref q_12, .ref q_13, .int 0, .int 0, .int 0, .int 0, .ref q_14, .ref q_15, .ref q_16, .null, .int 0, .int 0, .int 0, .null, .null])), (q_1, .inl (cI, 1302, .inl z0)), (q_2, .inl (cZ, 2, .inl z0)), (q_3, .inl (cI, 6, .inl z0)), (q_4, .inl (cI, 6, .inl z0)), (q_5, .inl (cI, 30, .inl z0)), (q_6, .inl (cI, 7, .inl z0)), (q_7, .inl (cI, 7, .inl z0)), (q_8, .inl (cI, 240, .inl z0)), (q_9, .inl (cI, 6, .inl z0)), (q_10, .inl (cI, 6, .inl z0)), (q_11, .inl (cI, 30, .inl z0)), (q_12, .inl (cI, 7, .inl z0)), (q_13, .inl (cI, 7, .inl z0)), (q_14, .inl (cI, 448, .inl z0)), (q_15, .inl (cI, 36, .inl z0)), (q_16, .inl (cI, 8, .inl z0))] := hD
  refine lv_aload_n hx hb dX10_init_144 rfl (lv_at hl 0 rfl) ?_
  refine lv_bipush (v := 7) hx hb dX10_init_145 (by decide) ?_
  refine va_newa (atype := .int) (a0 := (7, .inl z0)) (N' := 7) (ty := .int) hx hb (hts _ wd_8) rfl hK hP hD hS hA (fun cA => z0_int 7 cA) (by decide +kernel) (by decide +kernel) (by decide +kernel) (Nat.le_of_ble_eq_true rfl) (Nat.le_of_ble_eq_true rfl) dX10_init_147 (fun q_17 cA_q_17 H hKn hP hD hS => ?_)
  obtain rfl := (K_int hKn).symm
  have hP : va_P D classes [(h, .inr (10, [.ref q_1, .ref q_2, .int 0, .int 0, .int 1, .int 0, .int 0, .int 0, .ref q_3, .ref q_4, .ref q_5, .ref q_6, .ref q_7, .ref q_8, .int 0, .int 0, .int 0, .int 0, .int 0, .int (-1), .int 0, .int 0, .int 0, .int 0, .int 0, .int 0, .int 0, .ref q_9, .ref q_10, .ref q_11, .ref q_12, .ref q_13, .int 0, .int 0, .int 0, .int 0, .ref q_14, .ref q_15, .ref q_16, .null, .int 0, .int 0, .int 0, .null, .null])), (q_1, .inl (cI, 1302, .inl z0)), (q_2, .inl (cZ, 2, .inl z0)), (q_3, .inl (cI, 6, .inl z0)), (q_4, .inl (cI, 6, .inl z0)), (q_5, .inl (cI, 30, .inl z0)), (q_6, .inl (cI, 7, .inl z0)), (q_7, .inl (cI, 7, .inl z0)), (q_8, .inl (cI, 240, .inl z0)), (q_9, .inl (cI, 6, .inl z0)), (q_10, .inl (cI, 6, .inl z0)), (q_11, .inl (cI, 30, .inl z0)), (q_12, .inl (cI, 7, .inl z0)), (q_13, .inl (cI, 7, .inl z0)), (q_14, .inl (cI, 448, .inl z0)), (q_15, .inl (cI, 36, .inl z0)), (q_16, .inl (cI, 8, .inl z0)), (q_17, .inl (cI, 7, .inl z0))] H := hP
  have hD : va_D A [(h, .inr (10, [.ref q_1, .ref q_2, .int 0, .int 0, .int 1, .int 0, .int 0, .int 0, .ref q_3, .ref q_4, .ref q_5, .ref q_6, .ref q_7, .ref q_8, .int 0, .int 0, .int 0, .int 0, .int 0, .int (-1), .int 0, .int 0, .int 0, .int 0, .int 0, .int 0, .int 0, .ref q_9, .ref q_10, .ref q_11, .ref q_12, .ref q_13, .int 0, .int 0, .int 0, .int 0, .ref q_14, .ref q_15, .ref q_16, .null, .int 0, .int 0, .int 0, .null, .null])), (q_1, .inl (cI, 1302, .inl z0)), (q_2, .inl (cZ, 2, .inl z0)), (q_3, .inl (cI, 6, .inl z0)), (q_4, .inl (cI, 6, .inl z0)), (q_5, .inl (cI, 30, .inl z0)), (q_6, .inl (cI, 7, .inl z0)), (q_7, .inl (cI, 7, .inl z0)), (q_8, .inl (cI, 240, .inl z0)), (q_9, .inl (cI, 6, .inl z0)), (q_10, .inl (cI, 6, .inl z0)), (q_11, .inl (cI, 30, .inl z0)), (q_12, .inl (cI, 7, .inl z0)), (q_13, .inl (cI, 7, .inl z0)), (q_14, .inl (cI, 448, .inl z0)), (q_15, .inl (cI, 36, .inl z0)), (q_16, .inl (cI, 8, .inl z0)), (q_17, .inl (cI, 7, .inl z0))] := hD
  refine W.widen (k := 17) (n := 2155) (Nat.le_of_ble_eq_true rfl) (Nat.le_of_ble_eq_true rfl) ?_
  refine va_putF (D := D) (ci := 10) (v := .ref q_17) (ty := (.array .int)) (C := RX10) (T := TX10) (N := 45) hx hb hts iX10 tyX10 tyX10_ok nmX10 hown hK hP hD hS 0 rfl rfl 39 (by decide) (hts _ wd_676) (fun _ h9 => h9) rfl hin rfl (by decide +kernel) rfl rfl (Nat.le_of_ble_eq_true rfl) dX10_init_149 (fun H locs hP hD hS => ?_)
  have hP : va_P D classes [(h, .inr (10, [.ref q_1, .ref q_2, .int 0, .int 0, .int 1, .int 0, .int 0, .int 0, .ref q_3, .ref q_4, .ref q_5, .ref q_6, .ref q_7, .ref q_8, .int 0, .int 0, .int 0, .int 0, .int 0, .int (-1), .int 0, .int 0, .int 0, .int 0, .int 0, .int 0, .int 0, .ref q_9, .ref q_10, .ref q_11, .ref q_12, .ref q_13, .int 0, .int 0, .int 0, .int 0, .ref q_14, .ref q_15, .ref q_16, .ref q_17, .int 0, .int 0, .int 0, .null, .null])), (q_1, .inl (cI, 1302, .inl z0)), (q_2, .inl (cZ, 2, .inl z0)), (q_3, .inl (cI, 6, .inl z0)), (q_4, .inl (cI, 6, .inl z0)), (q_5, .inl (cI, 30, .inl z0)), (q_6, .inl (cI, 7, .inl z0)), (q_7, .inl (cI, 7, .inl z0)), (q_8, .inl (cI, 240, .inl z0)), (q_9, .inl (cI, 6, .inl z0)), (q_10, .inl (cI, 6, .inl z0)), (q_11, .inl (cI, 30, .inl z0)), (q_12, .inl (cI, 7, .inl z0)), (q_13, .inl (cI, 7, .inl z0)), (q_14, .inl (cI, 448, .inl z0)), (q_15, .inl (cI, 36, .inl z0)), (q_16, .inl (cI, 8, .inl z0)), (q_17, .inl (cI, 7, .inl z0))] H := hP
  have hD : va_D A [(h, .inr (10, [.ref q_1, .ref q_2, .int 0, .int 0, .int 1, .int 0, .int 0, .int 0, .ref q_3, .ref q_4, .ref q_5, .ref q_6, .ref q_7, .ref q_8, .int 0, .int 0, .int 0, .int 0, .int 0, .int (-1), .int 0, .int 0, .int 0, .int 0, .int 0, .int 0, .int 0, .ref q_9, .ref q_10, .ref q_11, .ref q_12, .ref q_13, .int 0, .int 0, .int 0, .int 0, .ref q_14, .ref q_15, .ref q_16, .ref q_17, .int 0, .int 0, .int 0, .null, .null])), (q_1, .inl (cI, 1302, .inl z0)), (q_2, .inl (cZ, 2, .inl z0)), (q_3, .inl (cI, 6, .inl z0)), (q_4, .inl (cI, 6, .inl z0)), (q_5, .inl (cI, 30, .inl z0)), (q_6, .inl (cI, 7, .inl z0)), (q_7, .inl (cI, 7, .inl z0)), (q_8, .inl (cI, 240, .inl z0)), (q_9, .inl (cI, 6, .inl z0)), (q_10, .inl (cI, 6, .inl z0)), (q_11, .inl (cI, 30, .inl z0)), (q_12, .inl (cI, 7, .inl z0)), (q_13, .inl (cI, 7, .inl z0)), (q_14, .inl (cI, 448, .inl z0)), (q_15, .inl (cI, 36, .inl z0)), (q_16, .inl (cI, 8, .inl z0)), (q_17, .inl (cI, 7, .inl z0))] := hD
  refine lv_aload_n hx hb dX10_init_152 rfl (lv_at hl 0 rfl) ?_
  refine lv_bipush (v := 15) hx hb dX10_init_153 (by decide) ?_
  refine va_newa (atype := .int) (a0 := (15, .inl z0)) (N' := 15) (ty := .int) hx hb (hts _ wd_8) rfl hK hP hD hS hA (fun cA => z0_int 15 cA) (by decide +kernel) (by decide +kernel) (by decide +kernel) (Nat.le_of_ble_eq_true rfl) (Nat.le_of_ble_eq_true rfl) dX10_init_155 (fun q_18 cA_q_18 H hKn hP hD hS => ?_)
  obtain rfl := (K_int hKn).symm
  have hP : va_P D classes [(h, .inr (10, [.ref q_1, .ref q_2, .int 0, .int 0, .int 1, .int 0, .int 0, .int 0, .ref q_3, .ref q_4, .ref q_5, .ref q_6, .ref q_7, .ref q_8, .int 0, .int 0, .int 0, .int 0, .int 0, .int (-1), .int 0, .int 0, .int 0, .int 0, .int 0, .int 0, .int 0, .ref q_9, .ref q_10, .ref q_11, .ref q_12, .ref q_13, .int 0, .int 0, .int 0, .int 0, .ref q_14, .ref q_15, .ref q_16, .ref q_17, .int 0, .int 0, .int 0, .null, .null])), (q_1, .inl (cI, 1302, .inl z0)), (q_2, .inl (cZ, 2, .inl z0)), (q_3, .inl (cI, 6, .inl z0)), (q_4, .inl (cI, 6, .inl z0)), (q_5, .inl (cI, 30, .inl z0)), (q_6, .inl (cI, 7, .inl z0)), (q_7, .inl (cI, 7, .inl z0)), (q_8, .inl (cI, 240, .inl z0)), (q_9, .inl (cI, 6, .inl z0)), (q_10, .inl (cI, 6, .inl z0)), (q_11, .inl (cI, 30, .inl z0)), (q_12, .inl (cI, 7, .inl z0)), (q_13, .inl (cI, 7, .inl z0)), (q_14, .inl (cI, 448, .inl z0)), (q_15, .inl (cI, 36, .inl z0)), (q_16, .inl (cI, 8, .inl z0)), (q_17, .inl (cI, 7, .inl z0)), (q_18, .inl (cI, 15, .inl z0))] H := hP
  have hD : va_D A [(h, .inr (10, [.ref q_1, .ref q_2, .int 0, .int 0, .int 1, .int 0, .int 0, .int 0, .ref q_3, .ref q_4, .ref q_5, .ref q_6, .ref q_7, .ref q_8, .int 0, .int 0, .int 0, .int 0, .int 0, .int (-1), .int 0, .int 0, .int 0, .int 0, .int 0, .int 0, .int 0, .ref q_9, .ref q_10, .ref q_11, .ref q_12, .ref q_13, .int 0, .int 0, .int 0, .int 0, .ref q_14, .ref q_15, .ref q_16, .ref q_17, .int 0, .int 0, .int 0, .null, .null])), (q_1, .inl (cI, 1302, .inl z0)), (q_2, .inl (cZ, 2, .inl z0)), (q_3, .inl (cI, 6, .inl z0)), (q_4, .inl (cI, 6, .inl z0)), (q_5, .inl (cI, 30, .inl z0)), (q_6, .inl (cI, 7, .inl z0)), (q_7, .inl (cI, 7, .inl z0)), (q_8, .inl (cI, 240, .inl z0)), (q_9, .inl (cI, 6, .inl z0)), (q_10, .inl (cI, 6, .inl z0)), (q_11, .inl (cI, 30, .inl z0)), (q_12, .inl (cI, 7, .inl z0)), (q_13, .inl (cI, 7, .inl z0)), (q_14, .inl (cI, 448, .inl z0)), (q_15, .inl (cI, 36, .inl z0)), (q_16, .inl (cI, 8, .inl z0)), (q_17, .inl (cI, 7, .inl z0)), (q_18, .inl (cI, 15, .inl z0))] := hD
  refine W.widen (k := 18) (n := 2170) (Nat.le_of_ble_eq_true rfl) (Nat.le_of_ble_eq_true rfl) ?_
  refine va_putF (D := D) (ci := 10) (v := .ref q_18) (ty := (.array .int)) (C := RX10) (T := TX10) (N := 45) hx hb hts iX10 tyX10 tyX10_ok nmX10 hown hK hP hD hS 0 rfl rfl 43 (by decide) (hts _ wd_610) (fun _ h9 => h9) rfl hin rfl (by decide +kernel) rfl rfl (Nat.le_of_ble_eq_true rfl) dX10_init_157 (fun H locs hP hD hS => ?_)
  have hP : va_P D classes [(h, .inr (10, [.ref q_1, .ref q_2, .int 0, .int 0, .int 1, .int 0, .int 0, .int 0, .ref q_3, .ref q_4, .ref q_5, .ref q_6, .ref q_7, .ref q_8, .int 0, .int 0, .int 0, .int 0, .int 0, .int (-1), .int 0, .int 0, .int 0, .int 0, .int 0, .int 0, .int 0, .ref q_9, .ref q_10, .ref q_11, .ref q_12, .ref q_13, .int 0, .int 0, .int 0, .int 0, .ref q_14, .ref q_15, .ref q_16, .ref q_17, .int 0, .int 0, .int 0, .ref q_18, .null])), (q_1, .inl (cI, 1302, .inl z0)), (q_2, .inl (cZ, 2, .inl z0)), (q_3, .inl (cI, 6, .inl z0)), (q_4, .inl (cI, 6, .inl z0)), (q_5, .inl (cI, 30, .inl z0)), (q_6, .inl (cI, 7, .inl z0)), (q_7, .inl (cI, 7, .inl z0)), (q_8, .inl (cI, 240, .inl z0)), (q_9, .inl (cI, 6, .inl z0)), (q_10, .inl (cI, 6, .inl z0)), (q_11, .inl (cI, 30, .inl z0)), (q_12, .inl (cI, 7, .inl z0)), (q_13, .inl (cI, 7, .inl z0)), (q_14, .inl (cI, 448, .inl z0)), (q_15, .inl (cI, 36, .inl z0)), (q_16, .inl (cI, 8, .inl z0)), (q_17, .inl (cI, 7, .inl z0)), (q_18, .inl (cI, 15, .inl z0))] H := hP
  have hD : va_D A [(h, .inr (10, [.ref q_1, .ref q_2, .int 0, .int 0, .int 1, .int 0, .int 0, .int 0, .ref q_3, .ref q_4, .ref q_5, .ref q_6, .ref q_7, .ref q_8, .int 0, .int 0, .int 0, .int 0, .int 0, .int (-1), .int 0, .int 0, .int 0, .int 0, .int 0, .int 0, .int 0, .ref q_9, .ref q_10, .ref q_11, .ref q_12, .ref q_13, .int 0, .int 0, .int 0, .int 0, .ref q_14, .ref q_15, .ref q_16, .ref q_17, .int 0, .int 0, .int 0, .ref q_18, .null])), (q_1, .inl (cI, 1302, .inl z0)), (q_2, .inl (cZ, 2, .inl z0)), (q_3, .inl (cI, 6, .inl z0)), (q_4, .inl (cI, 6, .inl z0)), (q_5, .inl (cI, 30, .inl z0)), (q_6, .inl (cI, 7, .inl z0)), (q_7, .inl (cI, 7, .inl z0)), (q_8, .inl (cI, 240, .inl z0)), (q_9, .inl (cI, 6, .inl z0)), (q_10, .inl (cI, 6, .inl z0)), (q_11, .inl (cI, 30, .inl z0)), (q_12, .inl (cI, 7, .inl z0)), (q_13, .inl (cI, 7, .inl z0)), (q_14, .inl (cI, 448, .inl z0)), (q_15, .inl (cI, 36, .inl z0)), (q_16, .inl (cI, 8, .inl z0)), (q_17, .inl (cI, 7, .inl z0)), (q_18, .inl (cI, 15, .inl z0))] := hD
  refine lv_aload_n hx hb dX10_init_160 rfl (lv_at hl 0 rfl) ?_
  refine lv_bipush (v := 15) hx hb dX10_init_161 (by decide) ?_
  refine va_newa (atype := .int) (a0 := (15, .inl z0)) (N' := 15) (ty := .int) hx hb (hts _ wd_8) rfl hK hP hD hS hA (fun cA => z0_int 15 cA) (by decide +kernel) (by decide +kernel) (by decide +kernel) (Nat.le_of_ble_eq_true rfl) (Nat.le_of_ble_eq_true rfl) dX10_init_163 (fun q_19 cA_q_19 H hKn hP hD hS => ?_)
  obtain rfl := (K_int hKn).symm
  have hP : va_P D classes [(h, .inr (10, [.ref q_1, .ref q_2, .int 0, .int 0, .int 1, .int 0, .int 0, .int 0, .ref q_3, .ref q_4, .ref q_5, .ref q_6, .ref q_7, .ref q_8, .int 0, .int 0, .int 0, .int 0, .int 0, .int (-1), .int 0, .int 0, .int 0, .int 0, .int 0, .int 0, .int 0, .ref q_9, .ref q_10, .ref q_11, .ref q_12, .ref q_13, .int 0, .int 0, .int 0, .int 0, .ref q_14, .ref q_15, .ref q_16, .ref q_17, .int 0, .int 0, .int 0, .ref q_18, .null])), (q_1, .inl (cI, 1302, .inl z0)), (q_2, .inl (cZ, 2, .inl z0)), (q_3, .inl (cI, 6, .inl z0)), (q_4, .inl (cI, 6, .inl z0)), (q_5, .inl (cI, 30, .inl z0)), (q_6, .inl (cI, 7, .inl z0)), (q_7, .inl (cI, 7, .inl z0)), (q_8, .inl (cI, 240, .inl z0)), (q_9, .inl (cI, 6, .inl z0)), (q_10, .inl (cI, 6, .inl z0)), (q_11, .inl (cI, 30, .inl z0)), (q_12, .inl (cI, 7, .inl z0)), (q_13, .inl (cI, 7, .inl z0)), (q_14, .inl (cI, 448, .inl z0)), (q_15, .inl (cI, 36, .inl z0)), (q_16, .inl (cI, 8, .inl z0)), (q_17, .inl (cI, 7, .inl z0)), (q_18, .inl (cI, 15, .inl z0)), (q_19, .inl (cI, 15, .inl z0))] H := hP
  have hD : va_D A [(h, .inr (10, [.ref q_1, .ref q_2, .int 0, .int 0, .int 1, .int 0, .int 0, .int 0, .ref q_3, .ref q_4, .ref q_5, .ref q_6, .ref q_7, .ref q_8, .int 0, .int 0, .int 0, .int 0, .int 0, .int (-1), .int 0, .int 0, .int 0, .int 0, .int 0, .int 0, .int 0, .ref q_9, .ref q_10, .ref q_11, .ref q_12, .ref q_13, .int 0, .int 0, .int 0, .int 0, .ref q_14, .ref q_15, .ref q_16, .ref q_17, .int 0, .int 0, .int 0, .ref q_18, .null])), (q_1, .inl (cI, 1302, .inl z0)), (q_2, .inl (cZ, 2, .inl z0)), (q_3, .inl (cI, 6, .inl z0)), (q_4, .inl (cI, 6, .inl z0)), (q_5, .inl (cI, 30, .inl z0)), (q_6, .inl (cI, 7, .inl z0)), (q_7, .inl (cI, 7, .inl z0)), (q_8, .inl (cI, 240, .inl z0)), (q_9, .inl (cI, 6, .inl z0)), (q_10, .inl (cI, 6, .inl z0)), (q_11, .inl (cI, 30, .inl z0)), (q_12, .inl (cI, 7, .inl z0)), (q_13, .inl (cI, 7, .inl z0)), (q_14, .inl (cI, 448, .inl z0)), (q_15, .inl (cI, 36, .inl z0)), (q_16, .inl (cI, 8, .inl z0)), (q_17, .inl (cI, 7, .inl z0)), (q_18, .inl (cI, 15, .inl z0)), (q_19, .inl (cI, 15, .inl z0))] := hD
  refine W.widen (k := 19) (n := 2185) (Nat.le_of_ble_eq_true rfl) (Nat.le_of_ble_eq_true rfl) ?_
  refine va_putF (D := D) (ci := 10) (v := .ref q_19) (ty := (.array .int)) (C := RX10) (T := TX10) (N := 45) hx hb hts iX10 tyX10 tyX10_ok nmX10 hown hK hP hD hS 0 rfl rfl 44 (by decide) (hts _ wd_611) (fun _ h9 => h9) rfl hin rfl (by decide +kernel) rfl rfl (Nat.le_of_ble_eq_true rfl) dX10_init_165 (fun H locs hP hD hS => ?_)
  have hP : va_P D classes [(h, .inr (10, [.ref q_1, .ref q_2, .int 0, .int 0, .int 1, .int 0, .int 0, .int 0, .ref q_3, .ref q_4, .ref q_5, .ref q_6, .ref q_7, .ref q_8, .int 0, .int 0, .int 0, .int 0, .int 0, .int (-1), .int 0, .int 0, .int 0, .int 0, .int 0, .int 0, .int 0, .ref q_9, .ref q_10, .ref q_11, .ref q_12, .ref q_13, .int 0, .int 0, .int 0, .int 0, .ref q_14, .ref q_15, .ref q_16, .ref q_17, .int 0, .int 0, .int 0, .ref q_18, .ref q_19])), (q_1, .inl (cI, 1302, .inl z0)), (q_2, .inl (cZ, 2, .inl z0)), (q_3, .inl (cI, 6, .inl z0)), (q_4, .inl (cI, 6, .inl z0)), (q_5, .inl (cI, 30, .inl z0)), (q_6, .inl (cI, 7, .inl z0)), (q_7, .inl (cI, 7, .inl z0)), (q_8, .inl (cI, 240, .inl z0)), (q_9, .inl (cI, 6, .inl z0)), (q_10, .inl (cI, 6, .inl z0)), (q_11, .inl (cI, 30, .inl z0)), (q_12, .inl (cI, 7, .inl z0)), (q_13, .inl (cI, 7, .inl z0)), (q_14, .inl (cI, 448, .inl z0)), (q_15, .inl (cI, 36, .inl z0)), (q_16, .inl (cI, 8, .inl z0)), (q_17, .inl (cI, 7, .inl z0)), (q_18, .inl (cI, 15, .inl z0)), (q_19, .inl (cI, 15, .inl z0))] H := hP
  have hD : va_D A [(h, .inr (10, [.ref q_1, .ref q_2, .int 0, .int 0, .int 1, .int 0, .int 0, .int 0, .ref q_3, .ref q_4, .ref q_5, .ref q_6, .ref q_7, .ref q_8, .int 0, .int 0, .int 0, .int 0, .int 0, .int (-1), .int 0, .int 0, .int 0, .int 0, .int 0, .int 0, .int 0, .ref q_9, .ref q_10, .ref q_11, .ref q_12, .ref q_13, .int 0, .int 0, .int 0, .int 0, .ref q_14, .ref q_15, .ref q_16, .ref q_17, .int 0, .int 0, .int 0, .ref q_18, .ref q_19])), (q_1, .inl (cI, 1302, .inl z0)), (q_2, .inl (cZ, 2, .inl z0)), (q_3, .inl (cI, 6, .inl z0)), (q_4, .inl (cI, 6, .inl z0)), (q_5, .inl (cI, 30, .inl z0)), (q_6, .inl (cI, 7, .inl z0)), (q_7, .inl (cI, 7, .inl z0)), (q_8, .inl (cI, 240, .inl z0)), (q_9, .inl (cI, 6, .inl z0)), (q_10, .inl (cI, 6, .inl z0)), (q_11, .inl (cI, 30, .inl z0)), (q_12, .inl (cI, 7, .inl z0)), (q_13, .inl (cI, 7, .inl z0)), (q_14, .inl (cI, 448, .inl z0)), (q_15, .inl (cI, 36, .inl z0)), (q_16, .inl (cI, 8, .inl z0)), (q_17, .inl (cI, 7, .inl z0)), (q_18, .inl (cI, 15, .inl z0)), (q_19, .inl (cI, 15, .inl z0))] := hD
  refine lv_aload_n hx hb dX10_init_168 rfl (lv_at hl 0 rfl) ?_
  refine cVv (wr := [(q_2, .inl (cZ, 2, .inl z0)), (q_3, .inl (cI, 6, .inl z0)), (q_4, .inl (cI, 6, .inl z0)), (q_5, .inl (cI, 30, .inl z0)), (q_6, .inl (cI, 7, .inl z0)), (q_7, .inl (cI, 7, .inl z0)), (q_8, .inl (cI, 240, .inl z0)), (q_9, .inl (cI, 6, .inl z0)), (q_10, .inl (cI, 6, .inl z0)), (q_11, .inl (cI, 30, .inl z0)), (q_12, .inl (cI, 7, .inl z0)), (q_13, .inl (cI, 7, .inl z0)), (q_14, .inl (cI, 448, .inl z0)), (q_15, .inl (cI, 36, .inl z0)), (q_16, .inl (cI, 8, .inl z0)), (q_17, .inl (cI, 7, .inl z0)), (q_18, .inl (cI, 15, .inl z0)), (q_19, .inl (cI, 15, .inl z0))]) (rest := []) (k_begins h q_1 q_2 q_3 q_4 q_5 q_6 q_7 q_8 q_9 q_10 q_11 q_12 q_13 q_14 q_15 q_16 q_17 q_18 q_19 0 0 1 0 0 0 0 0 0 0 (-1) 0 0 0 0 0 0 0 0 0 0 0 0 0 0 z0) okV_X10_begins wd_681 hx hb hml hown hts hK hP hD hS hA hN hl.1 [0, 1] [2, 3, 4, 5, 6, 7, 8, 9, 10, 11, 12, 13, 14, 15, 16, 17, 18, 19] rfl rfl rfl rfl (by decide) rfl rfl rfl (Nat.le_of_ble_eq_true rfl) (Nat.le_of_ble_eq_true rfl) (Nat.le_of_ble_eq_true rfl) (Nat.le_of_ble_eq_true rfl) (Nat.le_of_ble_eq_true rfl) dX10_init_169 (fun u_20 H locs hw_u_20 hP hD hS => ?_)
  have hP : va_P D classes [(q_2, .inl (cZ, 2, .inl z0)), (q_3, .inl (cI, 6, .inl z0)), (q_4, .inl (cI, 6, .inl z0)), (q_5, .inl (cI, 30, .inl z0)), (q_6, .inl (cI, 7, .inl z0)), (q_7, .inl (cI, 7, .inl z0)), (q_8, .inl (cI, 240, .inl z0)), (q_9, .inl (cI, 6, .inl z0)), (q_10, .inl (cI, 6, .inl z0)), (q_11, .inl (cI, 30, .inl z0)), (q_12, .inl (cI, 7, .inl z0)), (q_13, .inl (cI, 7, .inl z0)), (q_14, .inl (cI, 448, .inl z0)), (q_15, .inl (cI, 36, .inl z0)), (q_16, .inl (cI, 8, .inl z0)), (q_17, .inl (cI, 7, .inl z0)), (q_18, .inl (cI, 15, .inl z0)), (q_19, .inl (cI, 15, .inl z0)), (h, .inr (10, [.ref q_1, .ref q_2, .int 0, .int 0, .int 1, .int 0, .int 0, .int 0, .ref q_3, .ref q_4, .ref q_5, .ref q_6, .ref q_7, .ref q_8, .int 0, .int 0, .int 0, .int 0, .int 0, .int (-1), .int 0, .int 0, .int 0, .int 0, .int 0, .int 0, .int 0, .ref q_9, .ref q_10, .ref q_11, .ref q_12, .ref q_13, .int 0, .int 0, .int 0, .int 0, .ref q_14, .ref q_15, .ref q_16, .ref q_17, .int 0, .int 0, .int 0, .ref q_18, .ref q_19])), (q_1, .inl (cI, 1302, .inl (upd (wC z0 7) (41 : Int32).toNatClampNeg (z0 (41 : Int32).toNatClampNeg))))] H := hP
  have hD : va_D A [(q_2, .inl (cZ, 2, .inl z0)), (q_3, .inl (cI, 6, .inl z0)), (q_4, .inl (cI, 6, .inl z0)), (q_5, .inl (cI, 30, .inl z0)), (q_6, .inl (cI, 7, .inl z0)), (q_7, .inl (cI, 7, .inl z0)), (q_8, .inl (cI, 240, .inl z0)), (q_9, .inl (cI, 6, .inl z0)), (q_10, .inl (cI, 6, .inl z0)), (q_11, .inl (cI, 30, .inl z0)), (q_12, .inl (cI, 7, .inl z0)), (q_13, .inl (cI, 7, .inl z0)), (q_14, .inl (cI, 448, .inl z0)), (q_15, .inl (cI, 36, .inl z0)), (q_16, .inl (cI, 8, .inl z0)), (q_17, .inl (cI, 7, .inl z0)), (q_18, .inl (cI, 15, .inl z0)), (q_19, .inl (cI, 15, .inl z0)), (h, .inr (10, [.ref q_1, .ref q_2, .int 0, .int 0, .int 1, .int 0, .int 0, .int 0, .ref q_3, .ref q_4, .ref q_5, .ref q_6, .ref q_7, .ref q_8, .int 0, .int 0, .int 0, .int 0, .int 0, .int (-1), .int 0, .int 0, .int 0, .int 0, .int 0, .int 0, .int 0, .ref q_9, .ref q_10, .ref q_11, .ref q_12, .ref q_13, .int 0, .int 0, .int 0, .int 0, .ref q_14, .ref q_15, .ref q_16, .ref q_17, .int 0, .int 0, .int 0, .ref q_18, .ref q_19])), (q_1, .inl (cI, 1302, .inl (upd (wC z0 7) (41 : Int32).toNatClampNeg (z0 (41 : Int32).toNatClampNeg))))] := hD
  refine W.widen (k := rm_k_M_init.cells) (n := rm_k_M_init.slots) (Nat.le_of_ble_eq_true rfl) (Nat.le_of_ble_eq_true rfl) ?_
  exact hret ⟨q_1, q_2, q_3, q_4, q_5, q_6, q_7, q_8, q_9, q_10, q_11, q_12, q_13, q_14, q_15, q_16, q_17, q_18, q_19⟩ _ _ _ _ dX10_init_172 trivial hP hD hS
end
section
theorem permP {D : va_G} {ws ws' : va_W} {H : Heap} (h : List.Perm ws ws') (hP : va_P D classes ws H) : va_P D classes ws' H := by
  intro k q hk
  obtain ⟨i, hi⟩ := List.mem_iff_getElem?.mp (h.mem_iff.mpr (List.mem_of_getElem? hk))
  exact hP i q hi
theorem va_D_cons {A : Nat → Prop} {a : Nat × va_E} {ws : va_W} : va_D A (a :: ws) ↔ (∀ q ∈ ws, a.1 ≠ q.1) ∧ A a.1 ∧ va_D A ws := by
  constructor
  · intro h
    refine ⟨fun q hq e => ?_, h.2 0 a rfl, fun i j p q hi hj e => Nat.succ.inj (h.1 (i + 1) (j + 1) p q hi hj e), fun k q hk => h.2 (k + 1) q hk⟩
    obtain ⟨i, hi⟩ := List.mem_iff_getElem?.mp hq
    exact absurd (h.1 0 (i + 1) a q rfl hi e) (by omega)
  · intro h
    refine ⟨fun i j p q hi hj e => ?_, fun k q hk => ?_⟩
    · cases i with
      | zero =>
        cases hi
        cases j with
        | zero => rfl
        | succ j => exact absurd e (h.1 q (List.mem_of_getElem? (show ws[j]? = some q from hj)))
      | succ i =>
        cases j with
        | zero =>
          cases hj
          exact absurd e.symm (h.1 p (List.mem_of_getElem? (show ws[i]? = some p from hi)))
        | succ j => exact congrArg Nat.succ (h.2.2.1 i j p q hi hj e)
    · cases k with
      | zero => cases hk; exact h.2.1
      | succ k => exact h.2.2.2 k q hk
theorem permD {A : Nat → Prop} {ws ws' : va_W} (h : List.Perm ws ws') : va_D A ws → va_D A ws' := by
  induction h with
  | nil => exact id
  | cons x p ih =>
    intro h
    rw [va_D_cons] at h ⊢
    exact ⟨fun q hq => h.1 q (p.mem_iff.mpr hq), h.2.1, ih h.2.2⟩
  | swap x y l =>
    intro h
    rw [va_D_cons, va_D_cons] at h ⊢
    obtain ⟨h1, h2, h3, h4, h5⟩ := h
    refine ⟨fun q hq => ?_, h4, fun q hq => h1 q (List.mem_cons_of_mem _ hq), h2, h5⟩
    rcases List.mem_cons.mp hq with e | e
    · rw [e]
      exact (h1 x List.mem_cons_self).symm
    · exact h3 q e
  | trans p1 p2 ih1 ih2 => exact fun h => ih2 (ih1 h)
/-- the cell at i comes first -/
noncomputable def mv (ws : va_W) : Nat → va_W := List.rec (motive := fun _ => Nat → va_W) (fun _ => []) (fun a l ih i => Nat.rec (motive := fun _ => va_W) (a :: l) (fun j _ => List.rec (motive := fun _ => va_W) [a] (fun q r _ => q :: a :: r) (ih j)) i) ws
theorem mv_perm (ws : va_W) : ∀ i, List.Perm (mv ws i) ws := by
  induction ws with
  | nil => intro i; exact List.Perm.refl _
  | cons a l ih =>
    intro i
    cases i with
    | zero => exact List.Perm.refl _
    | succ j =>
      show List.Perm (List.rec (motive := fun _ => va_W) [a] (fun q r _ => q :: a :: r) (mv l j)) (a :: l)
      have h := ih j
      cases hm : mv l j with
      | nil =>
        rw [hm] at h
        have := h.symm.eq_nil
        subst this
        exact List.Perm.refl _
      | cons q r =>
        rw [hm] at h
        exact (List.Perm.swap a q r).trans (h.cons a)
noncomputable def mvs (is : List Nat) : va_W → va_W := List.rec (motive := fun _ => va_W → va_W) (fun ws => ws) (fun i _ ih ws => List.rec (motive := fun _ => va_W) [] (fun q r _ => q :: ih r) (mv ws i)) is
theorem mvs_perm (is : List Nat) : ∀ ws, List.Perm (mvs is ws) ws := by
  induction is with
  | nil => intro ws; exact List.Perm.refl _
  | cons i is ih =>
    intro ws
    show List.Perm (List.rec (motive := fun _ => va_W) [] (fun q r _ => q :: mvs is r) (mv ws i)) ws
    have h := mv_perm ws i
    cases hm : mv ws i with
    | nil => rw [hm] at h; exact h
    | cons q r =>
      rw [hm] at h
      exact ((ih r).cons q).trans h
theorem rot {a b c : va_W} : List.Perm ((c ++ a) ++ b) (a ++ (b ++ c)) := by
  rw [List.append_assoc, ← List.append_assoc a b c]
  exact List.perm_append_comm
theorem takeP {D : va_G} {a b : va_W} {H : Heap} (h : va_P D classes (a ++ b) H) : va_P D classes a H := fun k q hk => h k q (by rw [List.getElem?_append_left (List.getElem?_eq_some_iff.mp hk).1]; exact hk)
theorem takeD {A : Nat → Prop} {a b : va_W} (h : va_D A (a ++ b)) : va_D A a := by
  have g : ∀ (k : Nat) (q : Nat × va_E), a[k]? = some q → (a ++ b)[k]? = some q := fun k q hk => by
    rw [List.getElem?_append_left (List.getElem?_eq_some_iff.mp hk).1]
    exact hk
  exact ⟨fun i j p q hi hj e => h.1 i j p q (g i p hi) (g j q hj) e, fun k q hk => h.2 k q (g k q hk)⟩
def rfL (l : List Nat) (k : Nat) : Nat := l.getD k 0
theorem mapC (a b : va_W) : (List.range' 0 a.length).map (fun i => (a ++ b)[i]?) = a.map some := by
  apply List.ext_getElem?
  intro i
  rw [List.getElem?_map, List.getElem?_map]
  by_cases h : i < a.length
  · rw [List.getElem?_range' h, List.getElem?_eq_getElem h]
    simp [List.getElem?_append_left h, List.getElem?_eq_getElem h]
  · rw [List.getElem?_eq_none (by rw [List.length_range']; omega), List.getElem?_eq_none (by omega)]
    rfl
theorem mapR (a b : va_W) : (List.range' a.length b.length).map (fun i => (a ++ b)[i]?) = b.map some := by
  apply List.ext_getElem?
  intro i
  rw [List.getElem?_map, List.getElem?_map]
  by_cases h : i < b.length
  · rw [List.getElem?_range' h, List.getElem?_eq_getElem h]
    simp [List.getElem?_append_right, List.getElem?_eq_getElem h]
  · rw [List.getElem?_eq_none (by rw [List.length_range']; omega), List.getElem?_eq_none (by omega)]
    rfl
theorem nd_range (n : Nat) : ∀ k, va_nd (List.range' k n) = true := by
  induction n with
  | zero => intro k; rfl
  | succ n ih =>
    intro k
    rw [List.range'_succ]
    simp only [va_nd, Bool.and_eq_true, decide_eq_true_eq]
    refine ⟨fun h => ?_, ih _⟩
    have := List.mem_range'_1.mp h
    omega
section CALLA
variable {p : Program} {l : Launch} {e : Env} {R : Room} {s : State} {m : MethodId} {args : Array Value} {below : List Frame} {meth : Method} {c : Code} {H H0 : Heap} {locs : List Loc} {cells slots : Nat} {Q : State → Prop} {D : va_G} {cI cZ : ClassId} {A : Nat → Prop} {wc wr : va_W} {rm : Room} {pc : Nat} {ls : Array Slot} {st0 rest : List Value} {S : Type} {cc : ByteArray} {own : String} {y : MethodName} {bytes : ByteArray} {maxL nL index : Nat} {ret : Option FieldType} {As : List Value} {b : Nat}
theorem cVa {post : Int32 → S → Prop} {w1 : S → va_W} (hM : KI l y bytes maxL ret rm D cI cZ (.ref b :: As) H.size wc post w1) (ok : okV y bytes maxL ret As.length) (hlink : Cond.methodLink own index y ∈ BG) (hx : p.tables.exec = Jvm.exec) (hb : c.code = cc) (hml : c.maxLocals = nL) (hown : s.vm.findClass own = some m.cls) (hts : ∀ w ∈ BG, w.before args s = true) (hK : va_K D classes (TYS cI cZ) s) (hP : va_P D classes (wc ++ wr) H) (hD : va_D A (wc ++ wr)) (hS : va_S A H0 H locs) (hA : ∀ q, H0.size ≤ q → A q) (hN : zN s) (hsz : ls.size = nL) {ci : Nat} {fs : List Value} {T : u_T} {N : Nat} (hrec : wc[0]? = some (b, .inr (ci, fs))) (hcl : classes[ci]? = some (y.cls, T, N)) (hst : st0 = As.reverse ++ .ref b :: rest) (hroom : (rest.map fun v => v.category).sum ≤ 8) (hR1 : rm.frames + 1 ≤ R.frames) (hR2 : 8 + (maxL + 11) + rm.locals ≤ R.locals) (hR3 : cells + rm.cells ≤ R.cells) (hR4 : slots + rm.slots ≤ R.slots) (hdg : decode cc pc = .ok (.invokevirtual index, 3))
    (kk : ∀ (r : Int32) (u : S) (H1 : Heap) (locs1 : List Loc), post r u → va_P D classes (wr ++ w1 u) H1 → va_D A (wr ++ w1 u) → va_S A H0 H1 locs1 → W p l e R s m args below meth c H1 locs1 (cells + rm.cells) (slots + rm.slots) Q (F0 m (pc + 3) ls (.int r :: rest))) : W p l e R s m args below meth c H locs cells slots Q (F0 m pc ls st0) :=
  cVi hM ok hlink hx hb hml hown hts hK hP hD hS hA hN hsz (List.range' 0 wc.length) (List.range' wc.length wr.length) (mapC wc wr) (mapR wc wr) (nd_range _ _) (nd_range _ _) (fun i hi hj => by
    have h1 := List.mem_range'_1.mp hi
    have h2 := List.mem_range'_1.mp hj
    omega) hrec hcl hst hroom hR1 hR2 hR3 hR4 hdg kk
end CALLA
def IW (cI cZ : ClassId) (xh yh : Nat) (v_x : Nat) (v_q1 : Int32) (v_q2 : Int32) (v_rd : Nat) (v_t : Nat) (v_d : Nat) (v_nw : Nat) (v_ps : Nat) (v_im : Nat) (v_is_ : Nat) (v_q10 : Int32) (v_bk : Nat) (v_q12 : Int32) (v_qr : Nat) (v_pr : Nat) (v_cv : Nat) (v_ft : Nat) (v_ftx : Nat → Int32) (v_r0 : Int32) (v_r1 : Int32) (v_u0 : Nat) (v_r3 : Int32) (v_r4 : Int32) (v_r5 : Int32) (v_r6 : Int32) (v_t0 : Int32) (v_t1 : Int32) (v_t2 : Int32) (v_t3 : Int32) (v_t4 : Int32) (v_ta : Nat) (v_tb : Nat) (v_tc : Nat) (v_td : Nat) (v_te : Nat) (v_fta : Nat → Int32) (v_ftb : Nat → Int32) (v_ftc : Nat → Int32) (v_ftd : Nat → Int32) (v_fte : Nat → Int32) (v_d0 : Int32) (v_d1 : Int32) (v_d2 : Int32) (v_d3 : Int32) (v_d4 : Int32) (v_da : Nat) (v_db : Nat) (v_dc : Nat) (v_dd : Nat) (v_de : Nat) (v_fda : Nat → Int32) (v_fdb : Nat → Int32) (v_fdc : Nat → Int32) (v_fdd : Nat → Int32) (v_fde : Nat → Int32) (v_nwc : Nat) (v_fn : Nat → Int32) (v_sh : Nat) (v_p1 : Int32) (v_p2 : Int32) (v_shc : Nat) (v_fsh : Nat → Int32) (v_imc : Nat) (v_fim : Nat → Int32) (v_fis : Nat → Int32) (v_b0 : Int32) (v_bka : Nat) (v_bkb : Nat) (v_fba : Nat → Int32) (v_fbb : Nat → Int32) (v_k0 : Int32) (v_k1 : Int32) (v_k2 : Int32) (v_k3 : Int32) (v_k4 : Int32) (v_pra : Nat) (v_prb : Nat) (v_prc : Nat) (v_fpa : Nat → Int32) (v_fpb : Nat → Int32) (v_fpc : Nat → Int32) (v_v0 : Int32) (v_c1 : Nat) (v_c2 : Nat) (v_c3 : Nat) (v_c4 : Nat) (v_c5 : Nat) (v_c6 : Nat) (v_v7 : Int32) (v_v8 : Int32) (v_cvt : Value) (v_fc1 : Nat → Int32) (v_fc2 : Nat → Int32) (v_fc3 : Nat → Int32) (v_fc4 : Nat → Int32) (v_fc5 : Nat → Int32) (v_fc6 : Nat → Int32) (v_fft : Nat → Int32) (Rf : Nat → Nat) (G : Nat → Int32) (f0 : Nat → Int32) (f1 : Nat → Int32) (f8 : Nat → Int32) (f9 : Nat → Int32) (f10 : Nat → Int32) (f11 : Nat → Int32) (f12 : Nat → Int32) (f13 : Nat → Int32) (f27 : Nat → Int32) (f28 : Nat → Int32) (f29 : Nat → Int32) (f30 : Nat → Int32) (f31 : Nat → Int32) (f36 : Nat → Int32) (f37 : Nat → Int32) (f38 : Nat → Int32) (f39 : Nat → Int32) (f43 : Nat → Int32) (f44 : Nat → Int32) : va_W := [(xh, .inr (9, [.ref v_x, .int v_q1, .int v_q2, .ref v_rd, .ref v_t, .ref v_d, .ref v_nw, .ref v_ps, .ref v_im, .ref v_is_, .int v_q10, .ref v_bk, .int v_q12, .ref v_qr, .ref v_pr, .ref v_cv, .ref v_ft])), (v_x, .inl (cI, 240, .inl v_ftx)), (v_rd, .inr (5, [.int v_r0, .int v_r1, .ref v_u0, .int v_r3, .int v_r4, .int v_r5, .int v_r6])), (v_t, .inr (8, [.int v_t0, .int v_t1, .int v_t2, .int v_t3, .int v_t4, .ref v_ta, .ref v_tb, .ref v_tc, .ref v_td, .ref v_te])), (v_ta, .inl (cI, 6, .inl v_fta)), (v_tb, .inl (cI, 6, .inl v_ftb)), (v_tc, .inl (cI, 30, .inl v_ftc)), (v_td, .inl (cI, 7, .inl v_ftd)), (v_te, .inl (cI, 7, .inl v_fte)), (v_d, .inr (8, [.int v_d0, .int v_d1, .int v_d2, .int v_d3, .int v_d4, .ref v_da, .ref v_db, .ref v_dc, .ref v_dd, .ref v_de])), (v_da, .inl (cI, 6, .inl v_fda)), (v_db, .inl (cI, 6, .inl v_fdb)), (v_dc, .inl (cI, 30, .inl v_fdc)), (v_dd, .inl (cI, 7, .inl v_fdd)), (v_de, .inl (cI, 7, .inl v_fde)), (v_nw, .inr (7, [.ref v_nwc])), (v_nwc, .inl (cI, 41, .inl v_fn)), (v_ps, .inr (2, [.ref v_sh, .int v_p1, .int v_p2])), (v_sh, .inr (6, [.int 20, .ref v_shc])), (v_shc, .inl (cI, 820, .inl v_fsh)), (v_im, .inr (6, [.int 2, .ref v_imc])), (v_imc, .inl (cI, 82, .inl v_fim)), (v_is_, .inl (cI, 2, .inl v_fis)), (v_bk, .inr (0, [.int v_b0, .ref v_bka, .ref v_bkb])), (v_bka, .inl (cI, 15, .inl v_fba)), (v_bkb, .inl (cI, 15, .inl v_fbb)), (v_qr, .inr (4, [.int v_k0, .int v_k1, .int v_k2, .int v_k3, .int v_k4])), (v_pr, .inr (3, [.ref v_pra, .ref v_prb, .ref v_prc])), (v_pra, .inl (cI, 36, .inl v_fpa)), (v_prb, .inl (cI, 64, .inl v_fpb)), (v_prc, .inl (cI, 64, .inl v_fpc)), (v_cv, .inr (1, [.int v_v0, .ref v_c1, .ref v_c2, .ref v_c3, .ref v_c4, .ref v_c5, .ref v_c6, .int v_v7, .int v_v8, v_cvt])), (v_c1, .inl (cI, 7, .inl v_fc1)), (v_c2, .inl (cI, 6, .inl v_fc2)), (v_c3, .inl (cI, 48, .inl v_fc3)), (v_c4, .inl (cI, 128, .inl v_fc4)), (v_c5, .inl (cI, 128, .inl v_fc5)), (v_c6, .inl (cI, 128, .inl v_fc6)), (v_ft, .inl (cI, 30, .inl v_fft)), (yh, .inr (10, ML G Rf)), ((Rf 0), .inl (cI, 1302, .inl f0)), ((Rf 1), .inl (cZ, 2, .inl f1)), ((Rf 8), .inl (cI, 6, .inl f8)), ((Rf 9), .inl (cI, 6, .inl f9)), ((Rf 10), .inl (cI, 30, .inl f10)), ((Rf 11), .inl (cI, 7, .inl f11)), ((Rf 12), .inl (cI, 7, .inl f12)), ((Rf 13), .inl (cI, 240, .inl f13)), ((Rf 27), .inl (cI, 6, .inl f27)), ((Rf 28), .inl (cI, 6, .inl f28)), ((Rf 29), .inl (cI, 30, .inl f29)), ((Rf 30), .inl (cI, 7, .inl f30)), ((Rf 31), .inl (cI, 7, .inl f31)), ((Rf 36), .inl (cI, 448, .inl f36)), ((Rf 37), .inl (cI, 36, .inl f37)), ((Rf 38), .inl (cI, 8, .inl f38)), ((Rf 39), .inl (cI, 7, .inl f39)), ((Rf 43), .inl (cI, 15, .inl f43)), ((Rf 44), .inl (cI, 15, .inl f44))]
theorem keep_eq {q1 q2 q10 q12 p1 p2 i_ r r' : Int32} {fim fis fn G f0 f1 : Nat → Int32} {u : Int32 × (Nat → Int32) × (Nat → Int32) × Int32} {u' : (Nat → Int32) × (Nat → Int32) × (Nat → Int32)} (h1 : (r, u) = f_e_keep_x9 q1 q2 q10 q12 fim fis fn p1 p2 i_) (h2 : (r', u') = f_m_keep G f0 f1 i_) : r = r' := by
  unfold f_e_keep_x9 at h1
  unfold f_m_keep at h2
  by_cases c1 : f_m_in i_.toInt64 0 1 = 0
  · rw [if_pos c1] at h2
    have e2 := congrArg Prod.fst h2
    rw [i_in, Int32.toInt_toInt64] at c1
    simp only [Int64.reduceToInt] at c1
    by_cases c2 : i_ < 0
    · rw [if_pos c2] at h1
      exact (congrArg Prod.fst h1).trans e2.symm
    · rw [if_neg c2] at h1
      by_cases c3 : i_ < 2
      · simp only [i_lt, Int32.reduceToInt] at c2 c3
        omega
      · rw [if_neg c3] at h1
        exact (congrArg Prod.fst h1).trans e2.symm
  · rw [if_neg c1] at h2
    have e2 := congrArg Prod.fst h2
    rw [i_in, Int32.toInt_toInt64] at c1
    simp only [Int64.reduceToInt] at c1
    by_cases c2 : i_ < 0
    · simp only [i_lt, Int32.reduceToInt] at c2
      omega
    · rw [if_neg c2] at h1
      by_cases c3 : i_ < 2
      · rw [if_pos c3] at h1
        exact (congrArg Prod.fst h1).trans e2.symm
      · simp only [i_lt, Int32.reduceToInt] at c2 c3
        omega
theorem town_td {t : Nat} {d : Nat} {q1 : Int32} {q2 : Int32} {q10 : Int32} {q12 : Int32} {r0 : Int32} {r1 : Int32} {r3 : Int32} {r4 : Int32} {r5 : Int32} {r6 : Int32} {ftx : Nat → Int32} {d0 : Int32} {d1 : Int32} {d2 : Int32} {d3 : Int32} {d4 : Int32} {fda : Nat → Int32} {fdb : Nat → Int32} {fdc : Nat → Int32} {fdd : Nat → Int32} {fde : Nat → Int32} {fn : Nat → Int32} {p1 : Int32} {p2 : Int32} {b0 : Int32} {r : Int32} {o0 : Int32} {o1 : Int32} {o2 : Nat} {o3 : Nat} {o4 : Int32} {o5 : Int32} {o6 : Int32} {o7 : Int32} {o8 : Int32} {o9 : Int32} {o10 : Int32} {o11 : Int32} {o12 : Int32} {o13 : Int32} {o14 : Int32} {o15 : Int32} {o16 : (Nat → Int32)} {o17 : (Nat → Int32)} {o18 : (Nat → Int32)} {o19 : (Nat → Int32)} {o20 : (Nat → Int32)} {o21 : (Nat → Int32)} {o22 : Int32} {o23 : Int32} (e : (r, o0, o1, o2, o3, o4, o5, o6, o7, o8, o9, o10, o11, o12, o13, o14, o15, o16, o17, o18, o19, o20, o21, o22, o23) = f_e_town_x9 t d q1 q2 q10 q12 r0 r1 r3 r4 r5 r6 ftx d0 d1 d2 d3 d4 fda fdb fdc fdd fde fn p1 p2 b0) : (d = o2 ∧ t = o3) ∨ (t = o2 ∧ d = o3) := by
  unfold f_e_town_x9 at e
  generalize f_e_read_x5 _ _ _ _ _ _ _ _ _ _ _ _ _ _ _ _ _ _ = z at e
  obtain ⟨z0, z1, z2, z3, z4, z5, z6, z7, z8, z9, z10, z11, z12, z13, z14, z15⟩ := z
  dsimp only at e
  split at e
  · simp only [Prod.mk.injEq] at e
    obtain ⟨yr, y0, y1, y2, y3, y4, y5, y6, y7, y8, y9, y10, y11, y12, y13, y14, y15, y16, y17, y18, y19, y20, y21, y22, y23⟩ := e
    exact Or.inl ⟨y2.symm, y3.symm⟩
  · simp only [Prod.mk.injEq] at e
    obtain ⟨yr, y0, y1, y2, y3, y4, y5, y6, y7, y8, y9, y10, y11, y12, y13, y14, y15, y16, y17, y18, y19, y20, y21, y22, y23⟩ := e
    exact Or.inr ⟨y2.symm, y3.symm⟩
def G00 : Nat → Int32 := fun k => if k = 4 then 1 else if k = 19 then -1 else 0
theorem GI_00 : GI G00 := by
  unfold GI
  decide
theorem WI_z0 : WI z0 := fun _ => OKv.z
theorem RI_z0 : RI z0 := fun _ => by
  show 0 ≤ (0 : Int32).toInt ∧ (0 : Int32).toInt ≤ 5
  decide
theorem WI_fillZ (n : Nat) : WI (fillZ z0 n) := by
  induction n with
  | zero => exact WI_z0
  | succ n ih => exact WI_upd ih OKv.z
theorem ix_nI (a k : Nat) (h : a + k < 2 ^ 31) : (nI a + nI k).toNatClampNeg = a + k := by
  rw [nI_add, nI_clamp h]
theorem WI_wB (k : Nat) (hk : k ≤ 6) : WI (wB z0 k) := by
  induction k with
  | zero => exact WI_fillZ 42
  | succ k ih =>
    refine WI_upd (WI_upd (ih (by omega)) OKv.z) (OKv.out ?_)
    have := ix_nI 6 k (by omega)
    rw [show (6 : Int32) = nI 6 from rfl, this]
    omega
theorem WI_wC (k : Nat) (hk : k ≤ 7) : WI (wC z0 k) := by
  induction k with
  | zero => exact WI_wB 6 (by omega)
  | succ k ih =>
    refine WI_upd (WI_upd (ih (by omega)) (OKv.out ?_)) (OKv.out ?_)
    · have := ix_nI 27 k (by omega)
      rw [show (27 : Int32) = nI 27 from rfl, this]
      omega
    · have := ix_nI 34 k (by omega)
      rw [show (34 : Int32) = nI 34 from rfl, this]
      omega
theorem WI_w0 : WI (upd (wC z0 7) (41 : Int32).toNatClampNeg (z0 (41 : Int32).toNatClampNeg)) := WI_upd (WI_wC 7 (by omega)) (WI_z0 _)
theorem AG_00 (x y : Nat → Int32) (lo hi : Int) : AG x y (0 : Int32).toInt lo hi := fun k hk => absurd (show (k : Int) < 0 from hk) (by omega)
theorem RS_00 : RS 0 (-1) z0 z0 0 1 0 0 0 z0 z0 z0 z0 z0 z0 z0 z0 z0 z0 0 z0 z0 z0 z0 G00 := ⟨⟨rfl, rfl, rfl⟩, ⟨rfl, rfl, rfl, rfl, rfl, by decide, Or.inl rfl, AG_00 _ _ _ _, AG_00 _ _ _ _, fun c t hc _ => absurd (show (c : Int) < 0 from hc) (by omega), AG_00 _ _ _ _, AG_00 _ _ _ _⟩, ⟨rfl, rfl, rfl⟩⟩
theorem W00_v : ∀ i : Fin 42, upd (wC z0 7) (41 : Int32).toNatClampNeg (z0 (41 : Int32).toNatClampNeg) i.val = (if i.val < 6 then 0 else if i.val < 12 then -1 else if i.val < 27 then 0 else if i.val < 41 then -1 else 0) := by decide +kernel
theorem W00_s : ∀ i : Fin 41, cB2 z0 7 i.val = upd (wC z0 7) (41 : Int32).toNatClampNeg (z0 (41 : Int32).toNatClampNeg) (cx i.val) := by decide +kernel
theorem DY_00 : DY 0 0 0 0 (cB2 z0 7) z0 z0 z0 z0 G00 (upd (wC z0 7) (41 : Int32).toNatClampNeg (z0 (41 : Int32).toNatClampNeg)) := by
  have hs := W00_s
  have hv := W00_v
  generalize upd (wC z0 7) (41 : Int32).toNatClampNeg (z0 (41 : Int32).toNatClampNeg) = W at hs hv
  have v : ∀ k : Nat, k < 42 → W k = (if k < 6 then 0 else if k < 12 then -1 else if k < 27 then 0 else if k < 41 then -1 else 0) := fun k hk => hv ⟨k, hk⟩
  refine ⟨⟨fun i hi => ?_, ?_, ?_⟩, UR_nil (G := G00) (by decide) (by decide) rfl, IR_0 rfl rfl⟩
  · rw [Nat.zero_add, Nat.zero_add]
    exact hs ⟨i, hi⟩
  · unfold BI
    simp only [Nat.zero_add]
    have a : ∀ c : Nat, c < 6 → W c = 0 := fun c hc => by rw [v c (by omega), if_pos hc]
    have b : ∀ c : Nat, c < 6 → W (6 + c) = -1 := fun c hc => by rw [v _ (by omega), if_neg (by omega), if_pos (by omega)]
    have m : ∀ k : Nat, 12 ≤ k → k < 27 → W k = 0 := fun k h1 h2 => by rw [v k (by omega), if_neg (by omega), if_neg (by omega), if_pos h2]
    have t : ∀ k : Nat, 27 ≤ k → k < 41 → W k = -1 := fun k h1 h2 => by rw [v k (by omega), if_neg (by omega), if_neg (by omega), if_neg (by omega), if_pos h2]
    refine ⟨fun c hc => by rw [a c hc]; decide, fun c hc _ => ⟨a c hc, b c hc⟩, fun c hc => by rw [b c hc]; decide, fun c d hc hd _ _ => b c hc, fun c hc => by rw [m _ (by omega) (by omega)]; decide, fun c h0 h1 hh => ?_, fun v' hv _ => ⟨t _ (by omega) (by omega), t _ (by omega) (by omega)⟩, fun v' hv _ => m _ (by omega) (by omega), by rw [m 18 (by decide) (by decide)]; decide⟩
    exact a _ (clN h0 h1)
  · rw [v 41 (by decide)]
    rfl
end
section
theorem dL_law_1021 : decode cL_law 1021 = .ok (.iconst 1, 1) := by decide +kernel
theorem dL_law_1022 : decode cL_law 1022 = .ok (.ireturn, 1) := by decide +kernel
/-! THE CLAIM OUT OF ONE WALK OF THE LAW'S BODY. Your part is whole_start (and what it stands on); all else here is the same for every law, but numbers. -/
def R_law : String := "QuarrelBridgesLaw"
def lw_P (b : Addr) (xs : List Int32) (args : Array Value) (s : State) : Prop := args = #[.ref b] ∧ s.IntsAt b xs ∧ xs.length ≤ 320 ∧ (Jvm.Cond.and given_1 narrow_1).before args s = true
def lw_Q (_ : Array Value) (s : State) (o : Outcome) (t : State) : Prop := o = .returned (some (.int 1)) ∧ Framed s o t [] 600000 7302250
def lw_Z (below : List Frame) (a : Array Value) (s : State) : State → Prop := fun t => ∃ o, t.status = .running ∧ Ended t below o ∧ lw_Q a s o t
/-- the law's own end, with 1 on the stack, nothing written that was there before, its room as the claim has it -/
theorem lw_ret {p : Program} {l : Launch} {e : Env} {s : State} {m : MethodId} {below : List Frame} {meth : Method} {c : Code} {b : Nat} (hx : p.tables.exec = Jvm.exec) (hb : c.code = code) (hr : meth.sig.returnType = ret) (hlocks : meth.locks = false) {pc : Nat} {H : Heap} {ls : Array Slot} (hdg : decode code pc = .ok (.ireturn, 1)) : W p l e room_1 s m #[Value.ref b] below meth c H [] 600000 7302250 (lw_Z below #[Value.ref b] s) (F0 m pc ls [.int 1]) := by
  intro T hT X
  obtain ⟨fs, hret, hrun, hended, hW, hframe⟩ := X.leave (v := some (.int 1)) (hlocks := hlocks) (fun h => by rw [hr] at h; cases h)
  have hmeth' : T.vm.method? m = some meth := X.method'
  refine ⟨T.setFrames fs, ?_, .returned (some (.int 1)), hrun, hended, rfl, ⟨_, rfl⟩, hW, hframe⟩
  jvm_step X.here [X.here.top, hx, hb, hdg, hmeth', hr, ret, narrow_b1]
  (try refine ⟨rfl, ?_⟩); (try refine ⟨rfl, ?_⟩)
  first | (intro acts; rw [hret _ acts rfl rfl rfl]) | rw [hret _ _ rfl rfl rfl]
  exact Steps.refl _
/-- what holds at the law's entry: the machine, the code, the tables' words (any of lw_tbl by 'hts w (by decide +kernel)'), the script of L ints xs at the cell b, what the Statement gives of the start (any of its parts by flat_of_before) -/
def lw_At (p : Program) (s : State) (m : MethodId) (meth : Method) (c : Code) (b L : Nat) (xs : Nat → Int32) : Prop :=
  p.tables.exec = Jvm.exec ∧ c.code = code ∧ meth.sig.returnType = ret ∧ c.maxLocals = 4 ∧ s.vm.findClass R_law = some m.cls ∧ (∀ w ∈ lw_tbl, w.before #[Value.ref b] s = true) ∧ va_X b L xs s s.heap ∧ b < s.heap.size ∧ meth.locks = false ∧ (Jvm.Cond.and given_1 narrow_1).before #[Value.ref b] s = true
abbrev lw_A (s : State) : Nat → Prop := fun q => s.heap.size ≤ q
/-- what the law has at hand -/
def lw_C (p : Program) (s : State) (m : MethodId) (meth : Method) (c : Code) (b L : Nat) (xs : Nat → Int32) : Prop :=
  p.tables.exec = Jvm.exec ∧ c.code = cL_law ∧ meth.sig.returnType = ret ∧ c.maxLocals = 4 ∧ s.vm.findClass RL = some m.cls ∧ (∀ w ∈ BG, w.before #[Value.ref b] s = true) ∧ va_X b L xs s s.heap ∧ b < s.heap.size ∧ meth.locks = false ∧ zN s
theorem lw_C.of {p : Program} {s : State} {m : MethodId} {meth : Method} {c : Code} {b L : Nat} {xs : Nat → Int32} (h : lw_At p s m meth c b L xs) : lw_C p s m meth c b L xs :=
  ⟨h.1, h.2.1, h.2.2.1, h.2.2.2.1, h.2.2.2.2.1, fun w hw => h.2.2.2.2.2.1 w (BG_tbl hw), h.2.2.2.2.2.2.1, h.2.2.2.2.2.2.2.1, h.2.2.2.2.2.2.2.2.1, fun q hq => va_Nw.of rfl (h.2.2.2.2.2.1 _ (NM_tbl q hq))⟩
theorem and31 (v : Int32) : ∃ k : Nat, k < 32 ∧ v &&& 31 = nI k := by
  refine ⟨(v.toBitVec &&& 31#32).toNat, ?_, ?_⟩
  · rw [BitVec.toNat_and]
    exact Nat.lt_of_le_of_lt Nat.and_le_right (by decide)
  · apply Int32.toBitVec_inj.mp
    show v.toBitVec &&& 31#32 = (Int32.ofNat (v.toBitVec &&& 31#32).toNat).toBitVec
    rw [Int32.toBitVec_ofNat', BitVec.ofNat_toNat, BitVec.setWidth_eq]
theorem sc_in {iv : Int32} {L : Nat} (k : Int32) (hk : 0 ≤ k.toInt ∧ k.toInt ≤ 4) (h0 : 0 ≤ iv.toInt) (h1 : iv.toInt + 5 ≤ L) (hL : L ≤ 320) : ¬ ((iv + k) < 0 ∨ L ≤ (iv + k).toNatClampNeg) := by
  have e : (iv + k).toInt = iv.toInt + k.toInt := by
    simp (disch := omega) only [Int32.toInt_add, bm32]
  rw [i_lt, i_clamp, e]
  simp only [Int32.reduceToInt]
  omega
theorem sc_in0 {iv : Int32} {L : Nat} (h0 : 0 ≤ iv.toInt) (h1 : iv.toInt + 5 ≤ L) : ¬ (iv < 0 ∨ L ≤ iv.toNatClampNeg) := by
  rw [i_lt, i_clamp]
  simp only [Int32.reduceToInt]
  omega
theorem sc_len {iv : Int32} {L : Nat} (hL : L ≤ 320) (h0 : 0 ≤ iv.toInt) (c : ¬ (Int32.ofNat L - 5) < iv) : iv.toInt + 5 ≤ L := by
  have e1 : (Int32.ofNat L).toInt = (L : Int) := nI_toInt (n := L) (by omega)
  have e : (Int32.ofNat L - 5).toInt = (L : Int) - 5 := by
    simp (disch := omega) only [Int32.toInt_sub, e1, bm32, Int32.reduceToInt]
  rw [i_lt, e] at c
  omega
set_option maxHeartbeats 4000000 in
set_option maxRecDepth 100000 in
theorem law_end {p : Program} {l : Launch} {e : Env} {s : State} {m : MethodId} {below : List Frame} {meth : Method} {c : Code} {b : Nat} {xs : Nat → Int32} {L : Nat} (C0 : lw_C p s m meth c b L xs) {H : Heap} {locs : List Loc} {ls : Array Slot} (hS : va_S (lw_A s) s.heap H locs) : W p l e room_1 s m #[Value.ref b] below meth c H locs 60 4269 (lw_Z below #[Value.ref b] s) (F0 m 1021 ls []) := by
  obtain ⟨hx, hb, hr, hml, hown, hts, hX, hbl, hlocks, hN⟩ := C0
  have hA : ∀ q, s.heap.size ≤ q → lw_A s q := fun _ h => h
  have hbA : ¬ lw_A s b := Nat.not_le.mpr hbl
  refine lv_iconst (v := 1) hx hb dL_law_1021 (by decide) ?_
  refine va_forget (fun q hq => hS.2.2 q hq) ?_
  refine W.widen (k := 600000) (n := 7302250) (Nat.le_of_ble_eq_true rfl) (Nat.le_of_ble_eq_true rfl) ?_
  exact lw_ret hx hb hr hlocks dL_law_1022
end
