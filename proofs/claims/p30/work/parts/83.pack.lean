section
def fw_cX10_init : List (List Nat) := [[42, 183, 0, 1, 42, 17, 5, 22, 188, 10, 181, 0, 7, 42, 5, 188, 4, 181], [4, 181, 0, 13, 42, 4, 181, 0, 17, 42, 16, 6, 188, 10, 181, 0, 21, 42], [21, 42, 16, 6, 188, 10, 181, 0, 24, 42, 16, 30, 188, 10, 181, 0, 27, 42], [27, 42, 16, 7, 188, 10, 181, 0, 30, 42, 16, 7, 188, 10, 181, 0, 33, 42], [33, 42, 17, 0, 240, 188, 10, 181, 0, 36, 42, 2, 181, 0, 39, 42, 16, 6], [16, 6, 188, 10, 181, 0, 42, 42, 16, 6, 188, 10, 181, 0, 45, 42, 16, 30], [16, 30, 188, 10, 181, 0, 48, 42, 16, 7, 188, 10, 181, 0, 51, 42, 16, 7], [16, 7, 188, 10, 181, 0, 54, 42, 17, 1, 192, 188, 10, 181, 0, 57, 42, 16], [42, 16, 36, 188, 10, 181, 0, 60, 42, 16, 8, 188, 10, 181, 0, 63, 42, 16], [42, 16, 7, 188, 10, 181, 0, 66, 42, 16, 15, 188, 10, 181, 0, 69, 42, 16], [42, 16, 15, 188, 10, 181, 0, 72, 42, 182, 0, 75, 177]]
theorem fW_cX10_init : fq_wins 11 cX10_init.data.toList = fw_cX10_init := by decide +kernel
theorem fk_cX10_init_0 : fq_ck cX10_init 0 [42, 183, 0, 1, 42, 17, 5, 22, 188, 10, 181, 0, 7, 42, 5, 188, 4, 181] := fq_of fW_cX10_init 0 rfl rfl
theorem dX10_init_0 : decode cX10_init 0 = .ok (.aload_n 0, 1) := fq_42 fk_cX10_init_0 0 rfl rfl
theorem dX10_init_1 : decode cX10_init 1 = .ok (.invokespecial 1, 3) := fq_183 fk_cX10_init_0 1 rfl rfl rfl rfl rfl
theorem wd_694 : Cond.methodLink RX10 1 objectInit ∈ BG := BG_in (by decide +kernel) rfl
theorem dX10_init_4 : decode cX10_init 4 = .ok (.aload_n 0, 1) := fq_42 fk_cX10_init_0 4 rfl rfl
theorem dX10_init_5 : decode cX10_init 5 = .ok (.sipush 1302, 3) := fq_17 fk_cX10_init_0 5 rfl rfl rfl rfl rfl
theorem dX10_init_8 : decode cX10_init 8 = .ok (.newarray .int, 2) := fq_188_10 fk_cX10_init_0 8 rfl rfl rfl
theorem dX10_init_10 : decode cX10_init 10 = .ok (.putfield 7, 3) := fq_181 fk_cX10_init_0 10 rfl rfl rfl rfl rfl
theorem dX10_init_13 : decode cX10_init 13 = .ok (.aload_n 0, 1) := fq_42 fk_cX10_init_0 13 rfl rfl
theorem dX10_init_14 : decode cX10_init 14 = .ok (.iconst 2, 1) := fq_5 fk_cX10_init_0 14 rfl rfl
theorem wd_695 : Cond.arrayClass .boolean ∈ BG := BG_in (by decide +kernel) rfl
theorem dX10_init_15 : decode cX10_init 15 = .ok (.newarray .boolean, 2) := fq_188_4 fk_cX10_init_0 15 rfl rfl rfl
theorem fk_cX10_init_1 : fq_ck cX10_init 16 [4, 181, 0, 13, 42, 4, 181, 0, 17, 42, 16, 6, 188, 10, 181, 0, 21, 42] := fq_of fW_cX10_init 1 rfl rfl
theorem dX10_init_17 : decode cX10_init 17 = .ok (.putfield 13, 3) := fq_181 fk_cX10_init_1 1 rfl rfl rfl rfl rfl
theorem dX10_init_20 : decode cX10_init 20 = .ok (.aload_n 0, 1) := fq_42 fk_cX10_init_1 4 rfl rfl
theorem dX10_init_21 : decode cX10_init 21 = .ok (.iconst 1, 1) := fq_4 fk_cX10_init_1 5 rfl rfl
theorem dX10_init_22 : decode cX10_init 22 = .ok (.putfield 17, 3) := fq_181 fk_cX10_init_1 6 rfl rfl rfl rfl rfl
theorem dX10_init_25 : decode cX10_init 25 = .ok (.aload_n 0, 1) := fq_42 fk_cX10_init_1 9 rfl rfl
theorem dX10_init_26 : decode cX10_init 26 = .ok (.bipush 6, 2) := fq_16 fk_cX10_init_1 10 rfl rfl rfl rfl
theorem dX10_init_28 : decode cX10_init 28 = .ok (.newarray .int, 2) := fq_188_10 fk_cX10_init_1 12 rfl rfl rfl
theorem dX10_init_30 : decode cX10_init 30 = .ok (.putfield 21, 3) := fq_181 fk_cX10_init_1 14 rfl rfl rfl rfl rfl
theorem fk_cX10_init_2 : fq_ck cX10_init 32 [21, 42, 16, 6, 188, 10, 181, 0, 24, 42, 16, 30, 188, 10, 181, 0, 27, 42] := fq_of fW_cX10_init 2 rfl rfl
theorem dX10_init_33 : decode cX10_init 33 = .ok (.aload_n 0, 1) := fq_42 fk_cX10_init_2 1 rfl rfl
theorem dX10_init_34 : decode cX10_init 34 = .ok (.bipush 6, 2) := fq_16 fk_cX10_init_2 2 rfl rfl rfl rfl
theorem dX10_init_36 : decode cX10_init 36 = .ok (.newarray .int, 2) := fq_188_10 fk_cX10_init_2 4 rfl rfl rfl
theorem dX10_init_38 : decode cX10_init 38 = .ok (.putfield 24, 3) := fq_181 fk_cX10_init_2 6 rfl rfl rfl rfl rfl
theorem dX10_init_41 : decode cX10_init 41 = .ok (.aload_n 0, 1) := fq_42 fk_cX10_init_2 9 rfl rfl
theorem dX10_init_42 : decode cX10_init 42 = .ok (.bipush 30, 2) := fq_16 fk_cX10_init_2 10 rfl rfl rfl rfl
theorem dX10_init_44 : decode cX10_init 44 = .ok (.newarray .int, 2) := fq_188_10 fk_cX10_init_2 12 rfl rfl rfl
theorem dX10_init_46 : decode cX10_init 46 = .ok (.putfield 27, 3) := fq_181 fk_cX10_init_2 14 rfl rfl rfl rfl rfl
theorem fk_cX10_init_3 : fq_ck cX10_init 48 [27, 42, 16, 7, 188, 10, 181, 0, 30, 42, 16, 7, 188, 10, 181, 0, 33, 42] := fq_of fW_cX10_init 3 rfl rfl
theorem dX10_init_49 : decode cX10_init 49 = .ok (.aload_n 0, 1) := fq_42 fk_cX10_init_3 1 rfl rfl
theorem dX10_init_50 : decode cX10_init 50 = .ok (.bipush 7, 2) := fq_16 fk_cX10_init_3 2 rfl rfl rfl rfl
theorem dX10_init_52 : decode cX10_init 52 = .ok (.newarray .int, 2) := fq_188_10 fk_cX10_init_3 4 rfl rfl rfl
theorem dX10_init_54 : decode cX10_init 54 = .ok (.putfield 30, 3) := fq_181 fk_cX10_init_3 6 rfl rfl rfl rfl rfl
theorem dX10_init_57 : decode cX10_init 57 = .ok (.aload_n 0, 1) := fq_42 fk_cX10_init_3 9 rfl rfl
theorem dX10_init_58 : decode cX10_init 58 = .ok (.bipush 7, 2) := fq_16 fk_cX10_init_3 10 rfl rfl rfl rfl
theorem dX10_init_60 : decode cX10_init 60 = .ok (.newarray .int, 2) := fq_188_10 fk_cX10_init_3 12 rfl rfl rfl
theorem dX10_init_62 : decode cX10_init 62 = .ok (.putfield 33, 3) := fq_181 fk_cX10_init_3 14 rfl rfl rfl rfl rfl
theorem fk_cX10_init_4 : fq_ck cX10_init 64 [33, 42, 17, 0, 240, 188, 10, 181, 0, 36, 42, 2, 181, 0, 39, 42, 16, 6] := fq_of fW_cX10_init 4 rfl rfl
theorem dX10_init_65 : decode cX10_init 65 = .ok (.aload_n 0, 1) := fq_42 fk_cX10_init_4 1 rfl rfl
theorem dX10_init_66 : decode cX10_init 66 = .ok (.sipush 240, 3) := fq_17 fk_cX10_init_4 2 rfl rfl rfl rfl rfl
theorem dX10_init_69 : decode cX10_init 69 = .ok (.newarray .int, 2) := fq_188_10 fk_cX10_init_4 5 rfl rfl rfl
theorem dX10_init_71 : decode cX10_init 71 = .ok (.putfield 36, 3) := fq_181 fk_cX10_init_4 7 rfl rfl rfl rfl rfl
theorem dX10_init_74 : decode cX10_init 74 = .ok (.aload_n 0, 1) := fq_42 fk_cX10_init_4 10 rfl rfl
theorem dX10_init_75 : decode cX10_init 75 = .ok (.iconst (-1), 1) := fq_2 fk_cX10_init_4 11 rfl rfl
theorem dX10_init_76 : decode cX10_init 76 = .ok (.putfield 39, 3) := fq_181 fk_cX10_init_4 12 rfl rfl rfl rfl rfl
theorem dX10_init_79 : decode cX10_init 79 = .ok (.aload_n 0, 1) := fq_42 fk_cX10_init_4 15 rfl rfl
theorem fk_cX10_init_5 : fq_ck cX10_init 80 [16, 6, 188, 10, 181, 0, 42, 42, 16, 6, 188, 10, 181, 0, 45, 42, 16, 30] := fq_of fW_cX10_init 5 rfl rfl
theorem dX10_init_80 : decode cX10_init 80 = .ok (.bipush 6, 2) := fq_16 fk_cX10_init_5 0 rfl rfl rfl rfl
theorem dX10_init_82 : decode cX10_init 82 = .ok (.newarray .int, 2) := fq_188_10 fk_cX10_init_5 2 rfl rfl rfl
theorem dX10_init_84 : decode cX10_init 84 = .ok (.putfield 42, 3) := fq_181 fk_cX10_init_5 4 rfl rfl rfl rfl rfl
theorem dX10_init_87 : decode cX10_init 87 = .ok (.aload_n 0, 1) := fq_42 fk_cX10_init_5 7 rfl rfl
theorem dX10_init_88 : decode cX10_init 88 = .ok (.bipush 6, 2) := fq_16 fk_cX10_init_5 8 rfl rfl rfl rfl
theorem dX10_init_90 : decode cX10_init 90 = .ok (.newarray .int, 2) := fq_188_10 fk_cX10_init_5 10 rfl rfl rfl
theorem dX10_init_92 : decode cX10_init 92 = .ok (.putfield 45, 3) := fq_181 fk_cX10_init_5 12 rfl rfl rfl rfl rfl
theorem dX10_init_95 : decode cX10_init 95 = .ok (.aload_n 0, 1) := fq_42 fk_cX10_init_5 15 rfl rfl
theorem fk_cX10_init_6 : fq_ck cX10_init 96 [16, 30, 188, 10, 181, 0, 48, 42, 16, 7, 188, 10, 181, 0, 51, 42, 16, 7] := fq_of fW_cX10_init 6 rfl rfl
theorem dX10_init_96 : decode cX10_init 96 = .ok (.bipush 30, 2) := fq_16 fk_cX10_init_6 0 rfl rfl rfl rfl
theorem dX10_init_98 : decode cX10_init 98 = .ok (.newarray .int, 2) := fq_188_10 fk_cX10_init_6 2 rfl rfl rfl
theorem dX10_init_100 : decode cX10_init 100 = .ok (.putfield 48, 3) := fq_181 fk_cX10_init_6 4 rfl rfl rfl rfl rfl
theorem dX10_init_103 : decode cX10_init 103 = .ok (.aload_n 0, 1) := fq_42 fk_cX10_init_6 7 rfl rfl
theorem dX10_init_104 : decode cX10_init 104 = .ok (.bipush 7, 2) := fq_16 fk_cX10_init_6 8 rfl rfl rfl rfl
theorem dX10_init_106 : decode cX10_init 106 = .ok (.newarray .int, 2) := fq_188_10 fk_cX10_init_6 10 rfl rfl rfl
theorem dX10_init_108 : decode cX10_init 108 = .ok (.putfield 51, 3) := fq_181 fk_cX10_init_6 12 rfl rfl rfl rfl rfl
theorem dX10_init_111 : decode cX10_init 111 = .ok (.aload_n 0, 1) := fq_42 fk_cX10_init_6 15 rfl rfl
theorem fk_cX10_init_7 : fq_ck cX10_init 112 [16, 7, 188, 10, 181, 0, 54, 42, 17, 1, 192, 188, 10, 181, 0, 57, 42, 16] := fq_of fW_cX10_init 7 rfl rfl
theorem dX10_init_112 : decode cX10_init 112 = .ok (.bipush 7, 2) := fq_16 fk_cX10_init_7 0 rfl rfl rfl rfl
theorem dX10_init_114 : decode cX10_init 114 = .ok (.newarray .int, 2) := fq_188_10 fk_cX10_init_7 2 rfl rfl rfl
theorem dX10_init_116 : decode cX10_init 116 = .ok (.putfield 54, 3) := fq_181 fk_cX10_init_7 4 rfl rfl rfl rfl rfl
theorem dX10_init_119 : decode cX10_init 119 = .ok (.aload_n 0, 1) := fq_42 fk_cX10_init_7 7 rfl rfl
theorem dX10_init_120 : decode cX10_init 120 = .ok (.sipush 448, 3) := fq_17 fk_cX10_init_7 8 rfl rfl rfl rfl rfl
theorem dX10_init_123 : decode cX10_init 123 = .ok (.newarray .int, 2) := fq_188_10 fk_cX10_init_7 11 rfl rfl rfl
theorem dX10_init_125 : decode cX10_init 125 = .ok (.putfield 57, 3) := fq_181 fk_cX10_init_7 13 rfl rfl rfl rfl rfl
theorem fk_cX10_init_8 : fq_ck cX10_init 128 [42, 16, 36, 188, 10, 181, 0, 60, 42, 16, 8, 188, 10, 181, 0, 63, 42, 16] := fq_of fW_cX10_init 8 rfl rfl
theorem dX10_init_128 : decode cX10_init 128 = .ok (.aload_n 0, 1) := fq_42 fk_cX10_init_8 0 rfl rfl
theorem dX10_init_129 : decode cX10_init 129 = .ok (.bipush 36, 2) := fq_16 fk_cX10_init_8 1 rfl rfl rfl rfl
theorem dX10_init_131 : decode cX10_init 131 = .ok (.newarray .int, 2) := fq_188_10 fk_cX10_init_8 3 rfl rfl rfl
theorem dX10_init_133 : decode cX10_init 133 = .ok (.putfield 60, 3) := fq_181 fk_cX10_init_8 5 rfl rfl rfl rfl rfl
theorem dX10_init_136 : decode cX10_init 136 = .ok (.aload_n 0, 1) := fq_42 fk_cX10_init_8 8 rfl rfl
theorem dX10_init_137 : decode cX10_init 137 = .ok (.bipush 8, 2) := fq_16 fk_cX10_init_8 9 rfl rfl rfl rfl
theorem dX10_init_139 : decode cX10_init 139 = .ok (.newarray .int, 2) := fq_188_10 fk_cX10_init_8 11 rfl rfl rfl
theorem dX10_init_141 : decode cX10_init 141 = .ok (.putfield 63, 3) := fq_181 fk_cX10_init_8 13 rfl rfl rfl rfl rfl
theorem fk_cX10_init_9 : fq_ck cX10_init 144 [42, 16, 7, 188, 10, 181, 0, 66, 42, 16, 15, 188, 10, 181, 0, 69, 42, 16] := fq_of fW_cX10_init 9 rfl rfl
theorem dX10_init_144 : decode cX10_init 144 = .ok (.aload_n 0, 1) := fq_42 fk_cX10_init_9 0 rfl rfl
theorem dX10_init_145 : decode cX10_init 145 = .ok (.bipush 7, 2) := fq_16 fk_cX10_init_9 1 rfl rfl rfl rfl
theorem dX10_init_147 : decode cX10_init 147 = .ok (.newarray .int, 2) := fq_188_10 fk_cX10_init_9 3 rfl rfl rfl
theorem dX10_init_149 : decode cX10_init 149 = .ok (.putfield 66, 3) := fq_181 fk_cX10_init_9 5 rfl rfl rfl rfl rfl
theorem dX10_init_152 : decode cX10_init 152 = .ok (.aload_n 0, 1) := fq_42 fk_cX10_init_9 8 rfl rfl
theorem dX10_init_153 : decode cX10_init 153 = .ok (.bipush 15, 2) := fq_16 fk_cX10_init_9 9 rfl rfl rfl rfl
theorem dX10_init_155 : decode cX10_init 155 = .ok (.newarray .int, 2) := fq_188_10 fk_cX10_init_9 11 rfl rfl rfl
theorem dX10_init_157 : decode cX10_init 157 = .ok (.putfield 69, 3) := fq_181 fk_cX10_init_9 13 rfl rfl rfl rfl rfl
theorem fk_cX10_init_10 : fq_ck cX10_init 160 [42, 16, 15, 188, 10, 181, 0, 72, 42, 182, 0, 75, 177] := fq_of fW_cX10_init 10 rfl rfl
theorem dX10_init_160 : decode cX10_init 160 = .ok (.aload_n 0, 1) := fq_42 fk_cX10_init_10 0 rfl rfl
theorem dX10_init_161 : decode cX10_init 161 = .ok (.bipush 15, 2) := fq_16 fk_cX10_init_10 1 rfl rfl rfl rfl
theorem dX10_init_163 : decode cX10_init 163 = .ok (.newarray .int, 2) := fq_188_10 fk_cX10_init_10 3 rfl rfl rfl
theorem dX10_init_165 : decode cX10_init 165 = .ok (.putfield 72, 3) := fq_181 fk_cX10_init_10 5 rfl rfl rfl rfl rfl
theorem dX10_init_168 : decode cX10_init 168 = .ok (.aload_n 0, 1) := fq_42 fk_cX10_init_10 8 rfl rfl
theorem dX10_init_169 : decode cX10_init 169 = .ok (.invokevirtual 75, 3) := fq_182 fk_cX10_init_10 9 rfl rfl rfl rfl rfl
theorem dX10_init_172 : decode cX10_init 172 = .ok (.return_, 1) := fq_177 fk_cX10_init_10 12 rfl rfl
/-- begins(), where there are no couples -/
def wB (f : Nat → Int32) : Nat → Nat → Int32
  | 0 => fillZ f 42
  | k + 1 => upd (upd (wB f k) (0 + nI k).toNatClampNeg 0) (6 + nI k).toNatClampNeg (-1)
def wC (f : Nat → Int32) : Nat → Nat → Int32
  | 0 => wB f 6
  | k + 1 => upd (upd (wC f k) (27 + nI k).toNatClampNeg (-1)) (34 + nI k).toNatClampNeg (-1)
theorem inadd (a : Nat) {k N : Nat} (h : a + k < N) (hN : N < 2 ^ 31) : vp_in (nI a + nI k) N := by
  rw [nI_add]
  exact nI_in h hN
def rm_k_begins : Room := { frames := 0, cells := 0, slots := 0, locals := 0 }
set_option maxHeartbeats 4000000 in
set_option maxRecDepth 100000 in
theorem k_begins {l : Launch} {D : va_G} {cI cZ : ClassId} {sz : Nat} (h : Nat) (a0 a1 a8 a9 a10 a11 a12 a13 a27 a28 a29 a30 a31 a36 a37 a38 a39 a43 a44 : Nat) (g2 g3 g4 g6 g7 g14 g15 g16 g17 g18 g19 g20 g21 g22 g23 g24 g25 g26 g32 g33 g34 g35 g40 g41 g42 : Int32) (f : Nat → Int32) : KV l yX10_begins cX10_begins 3 rm_k_begins D cI cZ [.ref h] sz [(h, .inr (10, [.ref a0, .ref a1, .int g2, .int g3, .int g4, .int 0, .int g6, .int g7, .ref a8, .ref a9, .ref a10, .ref a11, .ref a12, .ref a13, .int g14, .int g15, .int g16, .int g17, .int g18, .int g19, .int g20, .int g21, .int g22, .int g23, .int g24, .int g25, .int g26, .ref a27, .ref a28, .ref a29, .ref a30, .ref a31, .int g32, .int g33, .int g34, .int g35, .ref a36, .ref a37, .ref a38, .ref a39, .int g40, .int g41, .int g42, .ref a43, .ref a44])), (a0, .inl (cI, 1302, .inl f))] (fun (_ : Unit) => True) (fun (_ : Unit) => [(h, .inr (10, [.ref a0, .ref a1, .int g2, .int g3, .int g4, .int 0, .int g6, .int g7, .ref a8, .ref a9, .ref a10, .ref a11, .ref a12, .ref a13, .int g14, .int g15, .int g16, .int g17, .int g18, .int g19, .int g20, .int g21, .int g22, .int g23, .int g24, .int g25, .int g26, .ref a27, .ref a28, .ref a29, .ref a30, .ref a31, .int g32, .int g33, .int g34, .int g35, .ref a36, .ref a37, .ref a38, .ref a39, .int g40, .int g41, .int g42, .ref a43, .ref a44])), (a0, .inl (cI, 1302, .inl (upd (wC f 7) (41 : Int32).toNatClampNeg (f (41 : Int32).toNatClampNeg))))]) := by
  refine KV.go rfl (Nat.le_of_ble_eq_true rfl) ?_
  intro p e s m args below meth c ls A Q hx hb hml hts hown hin hP hK hD hS hA hN hl hret
  have hl : lv_has ls 3 [(0, .ref h)] := hl
  refine lv_aload_n hx hb dX10_begins_0 rfl (lv_at hl 0 rfl) ?_
  refine va_get (D := D) (ci := 10) (v := .ref a0) (C := RX10) (T := TX10) (N := 45) hx hb hts iX10 hown hK hP 0 rfl rfl 0 (Nat.le_of_ble_eq_true rfl) (hts _ wd_491) (fun _ h9 => h9) rfl dX10_begins_1 ?_
  refine lv_bipush (v := 41) hx hb dX10_begins_4 rfl ?_
  refine va_iald hx hb hK hP 1 0 rfl rfl (show ¬ ((41 : Int32) < 0 ∨ 1302 ≤ (41 : Int32).toNatClampNeg) by decide +kernel) dX10_begins_6 ?_
  refine lv_istore_n (lv' := [(1, .int (f (41 : Int32).toNatClampNeg)), (0, .ref h)]) hx hb dX10_begins_7 rfl hl (Nat.le_of_ble_eq_true rfl) rfl (fun ls hl => ?_)
  refine lv_iconst (v := 0) hx hb dX10_begins_8 rfl ?_
  refine lv_istore_n (lv' := [(2, .int 0), (1, .int (f (41 : Int32).toNatClampNeg)), (0, .ref h)]) hx hb dX10_begins_9 rfl hl (Nat.le_of_ble_eq_true rfl) rfl (fun ls hl => ?_)
  have lp_1 : ∀ (n k : Nat), k + n = 42 → ∀ (H : Heap) (locs : List Loc) (ls : Array Slot), va_P D classes [(h, .inr (10, [.ref a0, .ref a1, .int g2, .int g3, .int g4, .int 0, .int g6, .int g7, .ref a8, .ref a9, .ref a10, .ref a11, .ref a12, .ref a13, .int g14, .int g15, .int g16, .int g17, .int g18, .int g19, .int g20, .int g21, .int g22, .int g23, .int g24, .int g25, .int g26, .ref a27, .ref a28, .ref a29, .ref a30, .ref a31, .int g32, .int g33, .int g34, .int g35, .ref a36, .ref a37, .ref a38, .ref a39, .int g40, .int g41, .int g42, .ref a43, .ref a44])), (a0, .inl (cI, 1302, .inl (fillZ f k)))] H → va_D A [(h, .inr (10, [.ref a0, .ref a1, .int g2, .int g3, .int g4, .int 0, .int g6, .int g7, .ref a8, .ref a9, .ref a10, .ref a11, .ref a12, .ref a13, .int g14, .int g15, .int g16, .int g17, .int g18, .int g19, .int g20, .int g21, .int g22, .int g23, .int g24, .int g25, .int g26, .ref a27, .ref a28, .ref a29, .ref a30, .ref a31, .int g32, .int g33, .int g34, .int g35, .ref a36, .ref a37, .ref a38, .ref a39, .int g40, .int g41, .int g42, .ref a43, .ref a44])), (a0, .inl (cI, 1302, .inl (fillZ f k)))] → va_S A s.heap H locs → lv_has ls 3 [(2, .int (nI k)), (1, .int (f (41 : Int32).toNatClampNeg)), (0, .ref h)] → W p l e rm_k_begins s m args below meth c H locs 0 0 Q (F0 m 10 ls []) := by
    intro n
    induction n with
    | zero =>
      intro k hk H locs ls hP hD hS hl
      obtain rfl : k = 42 := by omega
      refine lv_iload_n hx hb dX10_begins_10 rfl (lv_at hl 0 rfl) ?_
      refine lv_bipush (v := 42) hx hb dX10_begins_11 rfl ?_
      refine lv_icmp_ge (tgt := 29) hx hb dX10_begins_13 rfl (fun c_2 => ?_) (fun c_2 => absurd (by decide +kernel) c_2)
      refine lv_iconst (v := 0) hx hb dX10_begins_29 rfl ?_
      refine lv_istore_n (lv' := [(2, .int 0), (1, .int (f (41 : Int32).toNatClampNeg)), (0, .ref h)]) hx hb dX10_begins_30 rfl hl (Nat.le_of_ble_eq_true rfl) rfl (fun ls hl => ?_)
      have lp_3 : ∀ (n j : Nat), j + n = 6 → ∀ (H : Heap) (locs : List Loc) (ls : Array Slot), va_P D classes [(h, .inr (10, [.ref a0, .ref a1, .int g2, .int g3, .int g4, .int 0, .int g6, .int g7, .ref a8, .ref a9, .ref a10, .ref a11, .ref a12, .ref a13, .int g14, .int g15, .int g16, .int g17, .int g18, .int g19, .int g20, .int g21, .int g22, .int g23, .int g24, .int g25, .int g26, .ref a27, .ref a28, .ref a29, .ref a30, .ref a31, .int g32, .int g33, .int g34, .int g35, .ref a36, .ref a37, .ref a38, .ref a39, .int g40, .int g41, .int g42, .ref a43, .ref a44])), (a0, .inl (cI, 1302, .inl (wB f j)))] H → va_D A [(h, .inr (10, [.ref a0, .ref a1, .int g2, .int g3, .int g4, .int 0, .int g6, .int g7, .ref a8, .ref a9, .ref a10, .ref a11, .ref a12, .ref a13, .int g14, .int g15, .int g16, .int g17, .int g18, .int g19, .int g20, .int g21, .int g22, .int g23, .int g24, .int g25, .int g26, .ref a27, .ref a28, .ref a29, .ref a30, .ref a31, .int g32, .int g33, .int g34, .int g35, .ref a36, .ref a37, .ref a38, .ref a39, .int g40, .int g41, .int g42, .ref a43, .ref a44])), (a0, .inl (cI, 1302, .inl (wB f j)))] → va_S A s.heap H locs → lv_has ls 3 [(2, .int (nI j)), (1, .int (f (41 : Int32).toNatClampNeg)), (0, .ref h)] → W p l e rm_k_begins s m args below meth c H locs 0 0 Q (F0 m 31 ls []) := by
        intro n
        induction n with
        | zero =>
          intro j hk H locs ls hP hD hS hl
          obtain rfl : j = 6 := by omega
          refine lv_iload_n hx hb dX10_begins_31 rfl (lv_at hl 0 rfl) ?_
          refine lv_bipush (v := 6) hx hb dX10_begins_32 rfl ?_
          refine lv_icmp_ge (tgt := 79) hx hb dX10_begins_34 rfl (fun c_4 => ?_) (fun c_4 => absurd (by decide +kernel) c_4)
          refine lv_iconst (v := 0) hx hb dX10_begins_79 rfl ?_
          refine lv_istore_n (lv' := [(2, .int 0), (1, .int (f (41 : Int32).toNatClampNeg)), (0, .ref h)]) hx hb dX10_begins_80 rfl hl (Nat.le_of_ble_eq_true rfl) rfl (fun ls hl => ?_)
          have lp_5 : ∀ (n i : Nat), i + n = 7 → ∀ (H : Heap) (locs : List Loc) (ls : Array Slot), va_P D classes [(h, .inr (10, [.ref a0, .ref a1, .int g2, .int g3, .int g4, .int 0, .int g6, .int g7, .ref a8, .ref a9, .ref a10, .ref a11, .ref a12, .ref a13, .int g14, .int g15, .int g16, .int g17, .int g18, .int g19, .int g20, .int g21, .int g22, .int g23, .int g24, .int g25, .int g26, .ref a27, .ref a28, .ref a29, .ref a30, .ref a31, .int g32, .int g33, .int g34, .int g35, .ref a36, .ref a37, .ref a38, .ref a39, .int g40, .int g41, .int g42, .ref a43, .ref a44])), (a0, .inl (cI, 1302, .inl (wC f i)))] H → va_D A [(h, .inr (10, [.ref a0, .ref a1, .int g2, .int g3, .int g4, .int 0, .int g6, .int g7, .ref a8, .ref a9, .ref a10, .ref a11, .ref a12, .ref a13, .int g14, .int g15, .int g16, .int g17, .int g18, .int g19, .int g20, .int g21, .int g22, .int g23, .int g24, .int g25, .int g26, .ref a27, .ref a28, .ref a29, .ref a30, .ref a31, .int g32, .int g33, .int g34, .int g35, .ref a36, .ref a37, .ref a38, .ref a39, .int g40, .int g41, .int g42, .ref a43, .ref a44])), (a0, .inl (cI, 1302, .inl (wC f i)))] → va_S A s.heap H locs → lv_has ls 3 [(2, .int (nI i)), (1, .int (f (41 : Int32).toNatClampNeg)), (0, .ref h)] → W p l e rm_k_begins s m args below meth c H locs 0 0 Q (F0 m 81 ls []) := by
            intro n
            induction n with
            | zero =>
              intro i hk H locs ls hP hD hS hl
              obtain rfl : i = 7 := by omega
              refine lv_iload_n hx hb dX10_begins_81 rfl (lv_at hl 0 rfl) ?_
              refine lv_bipush (v := 7) hx hb dX10_begins_82 rfl ?_
              refine lv_icmp_ge (tgt := 113) hx hb dX10_begins_84 rfl (fun c_6 => ?_) (fun c_6 => absurd (by decide +kernel) c_6)
              refine lv_aload_n hx hb dX10_begins_113 rfl (lv_at hl 2 rfl) ?_
              refine va_get (D := D) (ci := 10) (v := .ref a0) (C := RX10) (T := TX10) (N := 45) hx hb hts iX10 hown hK hP 0 rfl rfl 0 (Nat.le_of_ble_eq_true rfl) (hts _ wd_491) (fun _ h9 => h9) rfl dX10_begins_114 ?_
              refine lv_bipush (v := 41) hx hb dX10_begins_117 rfl ?_
              refine lv_iload_n hx hb dX10_begins_119 rfl (lv_at hl 1 rfl) ?_
              refine va_iast hx hb hK hP hD hS 1 0 rfl rfl (show ¬ ((41 : Int32) < 0 ∨ 1302 ≤ (41 : Int32).toNatClampNeg) by decide +kernel) dX10_begins_120 (fun H locs hP hD hS => ?_)
              have hP : va_P D classes [(h, .inr (10, [.ref a0, .ref a1, .int g2, .int g3, .int g4, .int 0, .int g6, .int g7, .ref a8, .ref a9, .ref a10, .ref a11, .ref a12, .ref a13, .int g14, .int g15, .int g16, .int g17, .int g18, .int g19, .int g20, .int g21, .int g22, .int g23, .int g24, .int g25, .int g26, .ref a27, .ref a28, .ref a29, .ref a30, .ref a31, .int g32, .int g33, .int g34, .int g35, .ref a36, .ref a37, .ref a38, .ref a39, .int g40, .int g41, .int g42, .ref a43, .ref a44])), (a0, .inl (cI, 1302, .inl (upd (wC f 7) (41 : Int32).toNatClampNeg (f (41 : Int32).toNatClampNeg))))] H := hP
              have hD : va_D A [(h, .inr (10, [.ref a0, .ref a1, .int g2, .int g3, .int g4, .int 0, .int g6, .int g7, .ref a8, .ref a9, .ref a10, .ref a11, .ref a12, .ref a13, .int g14, .int g15, .int g16, .int g17, .int g18, .int g19, .int g20, .int g21, .int g22, .int g23, .int g24, .int g25, .int g26, .ref a27, .ref a28, .ref a29, .ref a30, .ref a31, .int g32, .int g33, .int g34, .int g35, .ref a36, .ref a37, .ref a38, .ref a39, .int g40, .int g41, .int g42, .ref a43, .ref a44])), (a0, .inl (cI, 1302, .inl (upd (wC f 7) (41 : Int32).toNatClampNeg (f (41 : Int32).toNatClampNeg))))] := hD
              exact hret () _ _ _ _ dX10_begins_121 trivial (cutP (isC := [0, 1]) hP rfl) (cutD (isC := [0, 1]) hD rfl rfl) hS
            | succ n ih_lp_5 =>
              intro i hk H locs ls hP hD hS hl
              have hkN_lp_5 : i < 7 := by omega
              refine lv_iload_n hx hb dX10_begins_81 rfl (lv_at hl 0 rfl) ?_
              refine lv_bipush (v := 7) hx hb dX10_begins_82 rfl ?_
              refine lv_icmp_ge (tgt := 113) hx hb dX10_begins_84 rfl (fun c_7 => absurd c_7 (nI_ge hkN_lp_5 (by decide))) (fun c_7 => ?_)
              refine lv_aload_n hx hb dX10_begins_87 rfl (lv_at hl 2 rfl) ?_
              refine va_get (D := D) (ci := 10) (v := .ref a0) (C := RX10) (T := TX10) (N := 45) hx hb hts iX10 hown hK hP 0 rfl rfl 0 (Nat.le_of_ble_eq_true rfl) (hts _ wd_491) (fun _ h9 => h9) rfl dX10_begins_88 ?_
              refine lv_bipush (v := 27) hx hb dX10_begins_91 rfl ?_
              refine lv_iload_n hx hb dX10_begins_93 rfl (lv_at hl 0 rfl) ?_
              refine lv_iadd hx hb dX10_begins_94 ?_
              refine lv_iconst (v := (-1)) hx hb dX10_begins_95 rfl ?_
              refine va_iast hx hb hK hP hD hS 1 0 rfl rfl (inadd 27 (show 27 + i < 1302 by omega) (Nat.le_of_ble_eq_true rfl)) dX10_begins_96 (fun H locs hP hD hS => ?_)
              have hP : va_P D classes [(h, .inr (10, [.ref a0, .ref a1, .int g2, .int g3, .int g4, .int 0, .int g6, .int g7, .ref a8, .ref a9, .ref a10, .ref a11, .ref a12, .ref a13, .int g14, .int g15, .int g16, .int g17, .int g18, .int g19, .int g20, .int g21, .int g22, .int g23, .int g24, .int g25, .int g26, .ref a27, .ref a28, .ref a29, .ref a30, .ref a31, .int g32, .int g33, .int g34, .int g35, .ref a36, .ref a37, .ref a38, .ref a39, .int g40, .int g41, .int g42, .ref a43, .ref a44])), (a0, .inl (cI, 1302, .inl (upd (wC f i) ((27 + (nI i)) : Int32).toNatClampNeg (-1))))] H := hP
              have hD : va_D A [(h, .inr (10, [.ref a0, .ref a1, .int g2, .int g3, .int g4, .int 0, .int g6, .int g7, .ref a8, .ref a9, .ref a10, .ref a11, .ref a12, .ref a13, .int g14, .int g15, .int g16, .int g17, .int g18, .int g19, .int g20, .int g21, .int g22, .int g23, .int g24, .int g25, .int g26, .ref a27, .ref a28, .ref a29, .ref a30, .ref a31, .int g32, .int g33, .int g34, .int g35, .ref a36, .ref a37, .ref a38, .ref a39, .int g40, .int g41, .int g42, .ref a43, .ref a44])), (a0, .inl (cI, 1302, .inl (upd (wC f i) ((27 + (nI i)) : Int32).toNatClampNeg (-1))))] := hD
              refine lv_aload_n hx hb dX10_begins_97 rfl (lv_at hl 2 rfl) ?_
              refine va_get (D := D) (ci := 10) (v := .ref a0) (C := RX10) (T := TX10) (N := 45) hx hb hts iX10 hown hK hP 0 rfl rfl 0 (Nat.le_of_ble_eq_true rfl) (hts _ wd_491) (fun _ h9 => h9) rfl dX10_begins_98 ?_
              refine lv_bipush (v := 34) hx hb dX10_begins_101 rfl ?_
              refine lv_iload_n hx hb dX10_begins_103 rfl (lv_at hl 0 rfl) ?_
              refine lv_iadd hx hb dX10_begins_104 ?_
              refine lv_iconst (v := (-1)) hx hb dX10_begins_105 rfl ?_
              refine va_iast hx hb hK hP hD hS 1 0 rfl rfl (inadd 34 (show 34 + i < 1302 by omega) (Nat.le_of_ble_eq_true rfl)) dX10_begins_106 (fun H locs hP hD hS => ?_)
              have hP : va_P D classes [(h, .inr (10, [.ref a0, .ref a1, .int g2, .int g3, .int g4, .int 0, .int g6, .int g7, .ref a8, .ref a9, .ref a10, .ref a11, .ref a12, .ref a13, .int g14, .int g15, .int g16, .int g17, .int g18, .int g19, .int g20, .int g21, .int g22, .int g23, .int g24, .int g25, .int g26, .ref a27, .ref a28, .ref a29, .ref a30, .ref a31, .int g32, .int g33, .int g34, .int g35, .ref a36, .ref a37, .ref a38, .ref a39, .int g40, .int g41, .int g42, .ref a43, .ref a44])), (a0, .inl (cI, 1302, .inl (upd (upd (wC f i) ((27 + (nI i)) : Int32).toNatClampNeg (-1)) ((34 + (nI i)) : Int32).toNatClampNeg (-1))))] H := hP
              have hD : va_D A [(h, .inr (10, [.ref a0, .ref a1, .int g2, .int g3, .int g4, .int 0, .int g6, .int g7, .ref a8, .ref a9, .ref a10, .ref a11, .ref a12, .ref a13, .int g14, .int g15, .int g16, .int g17, .int g18, .int g19, .int g20, .int g21, .int g22, .int g23, .int g24, .int g25, .int g26, .ref a27, .ref a28, .ref a29, .ref a30, .ref a31, .int g32, .int g33, .int g34, .int g35, .ref a36, .ref a37, .ref a38, .ref a39, .int g40, .int g41, .int g42, .ref a43, .ref a44])), (a0, .inl (cI, 1302, .inl (upd (upd (wC f i) ((27 + (nI i)) : Int32).toNatClampNeg (-1)) ((34 + (nI i)) : Int32).toNatClampNeg (-1))))] := hD
              refine lv_iinc (v := (nI (i + 1))) (lv' := [(2, .int (nI (i + 1))), (1, .int (f (41 : Int32).toNatClampNeg)), (0, .ref h)]) hx hb dX10_begins_107 hl (k := 0) rfl (nI_1 i) (Nat.le_of_ble_eq_true rfl) rfl (fun ls hl => ?_)
              refine lv_goto (tgt := 81) hx hb dX10_begins_110 rfl ?_
              exact ih_lp_5 (i + 1) (by omega) _ _ ls hP hD hS (lv_sub hl [0, 1, 2] rfl)
          exact lp_5 7 0 (by omega) _ _ ls hP hD hS hl
        | succ n ih_lp_3 =>
          intro j hk H locs ls hP hD hS hl
          have hkN_lp_3 : j < 6 := by omega
          refine lv_iload_n hx hb dX10_begins_31 rfl (lv_at hl 0 rfl) ?_
          refine lv_bipush (v := 6) hx hb dX10_begins_32 rfl ?_
          refine lv_icmp_ge (tgt := 79) hx hb dX10_begins_34 rfl (fun c_8 => absurd c_8 (nI_ge hkN_lp_3 (by decide))) (fun c_8 => ?_)
          refine lv_aload_n hx hb dX10_begins_37 rfl (lv_at hl 2 rfl) ?_
          refine va_get (D := D) (ci := 10) (v := .ref a0) (C := RX10) (T := TX10) (N := 45) hx hb hts iX10 hown hK hP 0 rfl rfl 0 (Nat.le_of_ble_eq_true rfl) (hts _ wd_491) (fun _ h9 => h9) rfl dX10_begins_38 ?_
          refine lv_iconst (v := 0) hx hb dX10_begins_41 rfl ?_
          refine lv_iload_n hx hb dX10_begins_42 rfl (lv_at hl 0 rfl) ?_
          refine lv_iadd hx hb dX10_begins_43 ?_
          refine lv_iload_n hx hb dX10_begins_44 rfl (lv_at hl 0 rfl) ?_
          refine lv_aload_n hx hb dX10_begins_45 rfl (lv_at hl 2 rfl) ?_
          refine va_get (D := D) (ci := 10) (v := .int 0) (C := RX10) (T := TX10) (N := 45) hx hb hts iX10 hown hK hP 0 rfl rfl 5 (Nat.le_of_ble_eq_true rfl) (hts _ wd_499) (fun _ h9 => h9) rfl dX10_begins_46 ?_
          refine lv_icmp_ge (tgt := 61) hx hb dX10_begins_49 rfl (fun c_9 => ?_) (fun c_9 => absurd (nI_pos' (by omega)) c_9)
          refine lv_iconst (v := 0) hx hb dX10_begins_61 rfl ?_
          refine va_iast hx hb hK hP hD hS 1 0 rfl rfl (inadd 0 (show 0 + j < 1302 by omega) (Nat.le_of_ble_eq_true rfl)) dX10_begins_62 (fun H locs hP hD hS => ?_)
          have hP : va_P D classes [(h, .inr (10, [.ref a0, .ref a1, .int g2, .int g3, .int g4, .int 0, .int g6, .int g7, .ref a8, .ref a9, .ref a10, .ref a11, .ref a12, .ref a13, .int g14, .int g15, .int g16, .int g17, .int g18, .int g19, .int g20, .int g21, .int g22, .int g23, .int g24, .int g25, .int g26, .ref a27, .ref a28, .ref a29, .ref a30, .ref a31, .int g32, .int g33, .int g34, .int g35, .ref a36, .ref a37, .ref a38, .ref a39, .int g40, .int g41, .int g42, .ref a43, .ref a44])), (a0, .inl (cI, 1302, .inl (upd (wB f j) ((0 + (nI j)) : Int32).toNatClampNeg 0)))] H := hP
          have hD : va_D A [(h, .inr (10, [.ref a0, .ref a1, .int g2, .int g3, .int g4, .int 0, .int g6, .int g7, .ref a8, .ref a9, .ref a10, .ref a11, .ref a12, .ref a13, .int g14, .int g15, .int g16, .int g17, .int g18, .int g19, .int g20, .int g21, .int g22, .int g23, .int g24, .int g25, .int g26, .ref a27, .ref a28, .ref a29, .ref a30, .ref a31, .int g32, .int g33, .int g34, .int g35, .ref a36, .ref a37, .ref a38, .ref a39, .int g40, .int g41, .int g42, .ref a43, .ref a44])), (a0, .inl (cI, 1302, .inl (upd (wB f j) ((0 + (nI j)) : Int32).toNatClampNeg 0)))] := hD
          refine lv_aload_n hx hb dX10_begins_63 rfl (lv_at hl 2 rfl) ?_
          refine va_get (D := D) (ci := 10) (v := .ref a0) (C := RX10) (T := TX10) (N := 45) hx hb hts iX10 hown hK hP 0 rfl rfl 0 (Nat.le_of_ble_eq_true rfl) (hts _ wd_491) (fun _ h9 => h9) rfl dX10_begins_64 ?_
          refine lv_bipush (v := 6) hx hb dX10_begins_67 rfl ?_
          refine lv_iload_n hx hb dX10_begins_69 rfl (lv_at hl 0 rfl) ?_
          refine lv_iadd hx hb dX10_begins_70 ?_
          refine lv_iconst (v := (-1)) hx hb dX10_begins_71 rfl ?_
          refine va_iast hx hb hK hP hD hS 1 0 rfl rfl (inadd 6 (show 6 + j < 1302 by omega) (Nat.le_of_ble_eq_true rfl)) dX10_begins_72 (fun H locs hP hD hS => ?_)
          have hP : va_P D classes [(h, .inr (10, [.ref a0, .ref a1, .int g2, .int g3, .int g4, .int 0, .int g6, .int g7, .ref a8, .ref a9, .ref a10, .ref a11, .ref a12, .ref a13, .int g14, .int g15, .int g16, .int g17, .int g18, .int g19, .int g20, .int g21, .int g22, .int g23, .int g24, .int g25, .int g26, .ref a27, .ref a28, .ref a29, .ref a30, .ref a31, .int g32, .int g33, .int g34, .int g35, .ref a36, .ref a37, .ref a38, .ref a39, .int g40, .int g41, .int g42, .ref a43, .ref a44])), (a0, .inl (cI, 1302, .inl (upd (upd (wB f j) ((0 + (nI j)) : Int32).toNatClampNeg 0) ((6 + (nI j)) : Int32).toNatClampNeg (-1))))] H := hP
          have hD : va_D A [(h, .inr (10, [.ref a0, .ref a1, .int g2, .int g3, .int g4, .int 0, .int g6, .int g7, .ref a8, .ref a9, .ref a10, .ref a11, .ref a12, .ref a13, .int g14, .int g15, .int g16, .int g17, .int g18, .int g19, .int g20, .int g21, .int g22, .int g23, .int g24, .int g25, .int g26, .ref a27, .ref a28, .ref a29, .ref a30, .ref a31, .int g32, .int g33, .int g34, .int g35, .ref a36, .ref a37, .ref a38, .ref a39, .int g40, .int g41, .int g42, .ref a43, .ref a44])), (a0, .inl (cI, 1302, .inl (upd (upd (wB f j) ((0 + (nI j)) : Int32).toNatClampNeg 0) ((6 + (nI j)) : Int32).toNatClampNeg (-1))))] := hD
          refine lv_iinc (v := (nI (j + 1))) (lv' := [(2, .int (nI (j + 1))), (1, .int (f (41 : Int32).toNatClampNeg)), (0, .ref h)]) hx hb dX10_begins_73 hl (k := 0) rfl (nI_1 j) (Nat.le_of_ble_eq_true rfl) rfl (fun ls hl => ?_)
          refine lv_goto (tgt := 31) hx hb dX10_begins_76 rfl ?_
          exact ih_lp_3 (j + 1) (by omega) _ _ ls hP hD hS (lv_sub hl [0, 1, 2] rfl)
      exact lp_3 6 0 (by omega) _ _ ls hP hD hS hl
    | succ n ih_lp_1 =>
      intro k hk H locs ls hP hD hS hl
      have hkN_lp_1 : k < 42 := by omega
      refine lv_iload_n hx hb dX10_begins_10 rfl (lv_at hl 0 rfl) ?_
      refine lv_bipush (v := 42) hx hb dX10_begins_11 rfl ?_
      refine lv_icmp_ge (tgt := 29) hx hb dX10_begins_13 rfl (fun c_10 => absurd c_10 (nI_ge hkN_lp_1 (by decide))) (fun c_10 => ?_)
      refine lv_aload_n hx hb dX10_begins_16 rfl (lv_at hl 2 rfl) ?_
      refine va_get (D := D) (ci := 10) (v := .ref a0) (C := RX10) (T := TX10) (N := 45) hx hb hts iX10 hown hK hP 0 rfl rfl 0 (Nat.le_of_ble_eq_true rfl) (hts _ wd_491) (fun _ h9 => h9) rfl dX10_begins_17 ?_
      refine lv_iload_n hx hb dX10_begins_20 rfl (lv_at hl 0 rfl) ?_
      refine lv_iconst (v := 0) hx hb dX10_begins_21 rfl ?_
      refine va_iast hx hb hK hP hD hS 1 0 rfl rfl (nI_in (show k < 1302 by omega) (Nat.le_of_ble_eq_true rfl)) dX10_begins_22 (fun H locs hP hD hS => ?_)
      have hP : va_P D classes [(h, .inr (10, [.ref a0, .ref a1, .int g2, .int g3, .int g4, .int 0, .int g6, .int g7, .ref a8, .ref a9, .ref a10, .ref a11, .ref a12, .ref a13, .int g14, .int g15, .int g16, .int g17, .int g18, .int g19, .int g20, .int g21, .int g22, .int g23, .int g24, .int g25, .int g26, .ref a27, .ref a28, .ref a29, .ref a30, .ref a31, .int g32, .int g33, .int g34, .int g35, .ref a36, .ref a37, .ref a38, .ref a39, .int g40, .int g41, .int g42, .ref a43, .ref a44])), (a0, .inl (cI, 1302, .inl (upd (fillZ f k) ((nI k) : Int32).toNatClampNeg 0)))] H := hP
      have hD : va_D A [(h, .inr (10, [.ref a0, .ref a1, .int g2, .int g3, .int g4, .int 0, .int g6, .int g7, .ref a8, .ref a9, .ref a10, .ref a11, .ref a12, .ref a13, .int g14, .int g15, .int g16, .int g17, .int g18, .int g19, .int g20, .int g21, .int g22, .int g23, .int g24, .int g25, .int g26, .ref a27, .ref a28, .ref a29, .ref a30, .ref a31, .int g32, .int g33, .int g34, .int g35, .ref a36, .ref a37, .ref a38, .ref a39, .int g40, .int g41, .int g42, .ref a43, .ref a44])), (a0, .inl (cI, 1302, .inl (upd (fillZ f k) ((nI k) : Int32).toNatClampNeg 0)))] := hD
      refine lv_iinc (v := (nI (k + 1))) (lv' := [(2, .int (nI (k + 1))), (1, .int (f (41 : Int32).toNatClampNeg)), (0, .ref h)]) hx hb dX10_begins_23 hl (k := 0) rfl (nI_1 k) (Nat.le_of_ble_eq_true rfl) rfl (fun ls hl => ?_)
      refine lv_goto (tgt := 10) hx hb dX10_begins_26 rfl ?_
      exact ih_lp_1 (k + 1) (by omega) _ _ ls hP hD hS (lv_sub hl [0, 1, 2] rfl)
  exact lp_1 42 0 (by omega) _ _ ls hP hD hS hl
def rm_k_M_init : Room := { frames := 1, cells := 19, slots := 2185, locals := 22 }
set_option maxHeartbeats 4000000 in
set_option maxRecDepth 100000 in
theorem k_M_init {l : Launch} {D : va_G} {cI cZ : ClassId} {sz : Nat} (h : Nat) : KV l yX10_init cX10_init 1 rm_k_M_init D cI cZ [.ref h] sz [(h, .inr (10, [.null, .null, .int 0, .int 0, .int 0, .int 0, .int 0, .int 0, .null, .null, .null, .null, .null, .null, .int 0, .int 0, .int 0, .int 0, .int 0, .int 0, .int 0, .int 0, .int 0, .int 0, .int 0, .int 0, .int 0, .null, .null, .null, .null, .null, .int 0, .int 0, .int 0, .int 0, .null, .null, .null, .null, .int 0, .int 0, .int 0, .null, .null]))] (fun (_ : Nat × Nat × Nat × Nat × Nat × Nat × Nat × Nat × Nat × Nat × Nat × Nat × Nat × Nat × Nat × Nat × Nat × Nat × Nat) => True) (fun (u : Nat × Nat × Nat × Nat × Nat × Nat × Nat × Nat × Nat × Nat × Nat × Nat × Nat × Nat × Nat × Nat × Nat × Nat × Nat) => [(u.2.1, .inl (cZ, 2, .inl z0)), (u.2.2.1, .inl (cI, 6, .inl z0)), (u.2.2.2.1, .inl (cI, 6, .inl z0)), (u.2.2.2.2.1, .inl (cI, 30, .inl z0)), (u.2.2.2.2.2.1, .inl (cI, 7, .inl z0)), (u.2.2.2.2.2.2.1, .inl (cI, 7, .inl z0)), (u.2.2.2.2.2.2.2.1, .inl (cI, 240, .inl z0)), (u.2.2.2.2.2.2.2.2.1, .inl (cI, 6, .inl z0)), (u.2.2.2.2.2.2.2.2.2.1, .inl (cI, 6, .inl z0)), (u.2.2.2.2.2.2.2.2.2.2.1, .inl (cI, 30, .inl z0)), (u.2.2.2.2.2.2.2.2.2.2.2.1, .inl (cI, 7, .inl z0)), (u.2.2.2.2.2.2.2.2.2.2.2.2.1, .inl (cI, 7, .inl z0)), (u.2.2.2.2.2.2.2.2.2.2.2.2.2.1, .inl (cI, 448, .inl z0)), (u.2.2.2.2.2.2.2.2.2.2.2.2.2.2.1, .inl (cI, 36, .inl z0)), (u.2.2.2.2.2.2.2.2.2.2.2.2.2.2.2.1, .inl (cI, 8, .inl z0)), (u.2.2.2.2.2.2.2.2.2.2.2.2.2.2.2.2.1, .inl (cI, 7, .inl z0)), (u.2.2.2.2.2.2.2.2.2.2.2.2.2.2.2.2.2.1, .inl (cI, 15, .inl z0)), (u.2.2.2.2.2.2.2.2.2.2.2.2.2.2.2.2.2.2, .inl (cI, 15, .inl z0)), (h, .inr (10, [.ref u.1, .ref u.2.1, .int 0, .int 0, .int 1, .int 0, .int 0, .int 0, .ref u.2.2.1, .ref u.2.2.2.1, .ref u.2.2.2.2.1, .ref u.2.2.2.2.2.1, .ref u.2.2.2.2.2.2.1, .ref u.2.2.2.2.2.2.2.1, .int 0, .int 0, .int 0, .int 0, .int 0, .int (-1), .int 0, .int 0, .int 0, .int 0, .int 0, .int 0, .int 0, .ref u.2.2.2.2.2.2.2.2.1, .ref u.2.2.2.2.2.2.2.2.2.1, .ref u.2.2.2.2.2.2.2.2.2.2.1, .ref u.2.2.2.2.2.2.2.2.2.2.2.1, .ref u.2.2.2.2.2.2.2.2.2.2.2.2.1, .int 0, .int 0, .int 0, .int 0, .ref u.2.2.2.2.2.2.2.2.2.2.2.2.2.1, .ref u.2.2.2.2.2.2.2.2.2.2.2.2.2.2.1, .ref u.2.2.2.2.2.2.2.2.2.2.2.2.2.2.2.1, .ref u.2.2.2.2.2.2.2.2.2.2.2.2.2.2.2.2.1, .int 0, .int 0, .int 0, .ref u.2.2.2.2.2.2.2.2.2.2.2.2.2.2.2.2.2.1, .ref u.2.2.2.2.2.2.2.2.2.2.2.2.2.2.2.2.2.2])), (u.1, .inl (cI, 1302, .inl (upd (wC z0 7) (41 : Int32).toNatClampNeg (z0 (41 : Int32).toNatClampNeg))))]) := by
  refine KV.go rfl (Nat.le_of_ble_eq_true rfl) ?_
  intro p e s m args below meth c ls A Q hx hb hml hts hown hin hP hK hD hS hA hN hl hret
  have hl : lv_has ls 1 [(0, .ref h)] := hl
  refine lv_aload_n hx hb dX10_init_0 rfl (lv_at hl 0 rfl) ?_
  refine W.objInit hx hb hown (hts _ wd_694) (hts _ wd_1) (hts _ wd_2) rfl (by rw [hml]; exact hl.1) rfl dX10_init_1 (Nat.le_of_ble_eq_true rfl) (Nat.le_of_ble_eq_true rfl) ?_
  refine W.eq (g2 := F0 m 4 ls []) rfl ?_
  refine lv_aload_n hx hb dX10_init_4 rfl (lv_at hl 0 rfl) ?_
  refine lv_sipush (v := 1302) hx hb dX10_init_5 rfl ?_
  refine va_newa (atype := .int) (a0 := (1302, .inl z0)) (N' := 1302) (ty := .int) hx hb (hts _ wd_8) rfl hK hP hD hS hA (fun cA => z0_int 1302 cA) (by decide +kernel) (by decide +kernel) (by decide +kernel) (Nat.le_of_ble_eq_true rfl) (Nat.le_of_ble_eq_true rfl) dX10_init_8 (fun q_1 cA_q_1 H hKn hP hD hS => ?_)
  obtain rfl := (K_int hKn).symm
  have hP : va_P D classes [(h, .inr (10, [.null, .null, .int 0, .int 0, .int 0, .int 0, .int 0, .int 0, .null, .null, .null, .null, .null, .null, .int 0, .int 0, .int 0, .int 0, .int 0, .int 0, .int 0, .int 0, .int 0, .int 0, .int 0, .int 0, .int 0, .null, .null, .null, .null, .null, .int 0, .int 0, .int 0, .int 0, .null, .null, .null, .null, .int 0, .int 0, .int 0, .null, .null])), (q_1, .inl (cI, 1302, .inl z0))] H := hP
  have hD : va_D A [(h, .inr (10, [.null, .null, .int 0, .int 0, .int 0, .int 0, .int 0, .int 0, .null, .null, .null, .null, .null, .null, .int 0, .int 0, .int 0, .int 0, .int 0, .int 0, .int 0, .int 0, .int 0, .int 0, .int 0, .int 0, .int 0, .null, .null, .null, .null, .null, .int 0, .int 0, .int 0, .int 0, .null, .null, .null, .null, .int 0, .int 0, .int 0, .null, .null])), (q_1, .inl (cI, 1302, .inl z0))] := hD
  refine W.widen (k := 1) (n := 1302) (Nat.le_of_ble_eq_true rfl) (Nat.le_of_ble_eq_true rfl) ?_
  refine va_putF (D := D) (ci := 10) (v := .ref q_1) (ty := (.array .int)) (C := RX10) (T := TX10) (N := 45) hx hb hts iX10 tyX10 tyX10_ok nmX10 hown hK hP hD hS 0 rfl rfl 0 (Nat.le_of_ble_eq_true rfl) (hts _ wd_491) (fun _ h9 => h9) rfl hin rfl (by decide +kernel) rfl rfl (Nat.le_of_ble_eq_true rfl) dX10_init_10 (fun H locs hP hD hS => ?_)
  have hP : va_P D classes [(h, .inr (10, [.ref q_1, .null, .int 0, .int 0, .int 0, .int 0, .int 0, .int 0, .null, .null, .null, .null, .null, .null, .int 0, .int 0, .int 0, .int 0, .int 0, .int 0, .int 0, .int 0, .int 0, .int 0, .int 0, .int 0, .int 0, .null, .null, .null, .null, .null, .int 0, .int 0, .int 0, .int 0, .null, .null, .null, .null, .int 0, .int 0, .int 0, .null, .null])), (q_1, .inl (cI, 1302, .inl z0))] H := hP
  have hD : va_D A [(h, .inr (10, [.ref q_1, .null, .int 0, .int 0, .int 0, .int 0, .int 0, .int 0, .null, .null, .null, .null, .null, .null, .int 0, .int 0, .int 0, .int 0, .int 0, .int 0, .int 0, .int 0, .int 0, .int 0, .int 0, .int 0, .int 0, .null, .null, .null, .null, .null, .int 0, .int 0, .int 0, .int 0, .null, .null, .null, .null, .int 0, .int 0, .int 0, .null, .null])), (q_1, .inl (cI, 1302, .inl z0))] := hD
  refine lv_aload_n hx hb dX10_init_13 rfl (lv_at hl 0 rfl) ?_
  refine lv_iconst (v := 2) hx hb dX10_init_14 rfl ?_
  refine va_newa (atype := .boolean) (a0 := (2, .inl z0)) (N' := 2) (ty := .boolean) hx hb (hts _ wd_695) rfl hK hP hD hS hA (fun cA => z0_bool 2 cA) (by decide +kernel) (by decide +kernel) (by decide +kernel) (Nat.le_of_ble_eq_true rfl) (Nat.le_of_ble_eq_true rfl) dX10_init_15 (fun q_2 cA_q_2 H hKn hP hD hS => ?_)
  obtain rfl := (K_bool hKn).symm
  have hP : va_P D classes [(h, .inr (10, [.ref q_1, .null, .int 0, .int 0, .int 0, .int 0, .int 0, .int 0, .null, .null, .null, .null, .null, .null, .int 0, .int 0, .int 0, .int 0, .int 0, .int 0, .int 0, .int 0, .int 0, .int 0, .int 0, .int 0, .int 0, .null, .null, .null, .null, .null, .int 0, .int 0, .int 0, .int 0, .null, .null, .null, .null, .int 0, .int 0, .int 0, .null, .null])), (q_1, .inl (cI, 1302, .inl z0)), (q_2, .inl (cZ, 2, .inl z0))] H := hP
  have hD : va_D A [(h, .inr (10, [.ref q_1, .null, .int 0, .int 0, .int 0, .int 0, .int 0, .int 0, .null, .null, .null, .null, .null, .null, .int 0, .int 0, .int 0, .int 0, .int 0, .int 0, .int 0, .int 0, .int 0, .int 0, .int 0, .int 0, .int 0, .null, .null, .null, .null, .null, .int 0, .int 0, .int 0, .int 0, .null, .null, .null, .null, .int 0, .int 0, .int 0, .null, .null])), (q_1, .inl (cI, 1302, .inl z0)), (q_2, .inl (cZ, 2, .inl z0))] := hD
  refine W.widen (k := 2) (n := 1304) (Nat.le_of_ble_eq_true rfl) (Nat.le_of_ble_eq_true rfl) ?_
  refine va_putF (D := D) (ci := 10) (v := .ref q_2) (ty := (.array .boolean)) (C := RX10) (T := TX10) (N := 45) hx hb hts iX10 tyX10 tyX10_ok nmX10 hown hK hP hD hS 0 rfl rfl 1 (Nat.le_of_ble_eq_true rfl) (hts _ wd_612) (fun _ h9 => h9) rfl hin rfl (by decide +kernel) rfl rfl (Nat.le_of_ble_eq_true rfl) dX10_init_17 (fun H locs hP hD hS => ?_)
  have hP : va_P D classes [(h, .inr (10, [.ref q_1, .ref q_2, .int 0, .int 0, .int 0, .int 0, .int 0, .int 0, .null, .null, .null, .null, .null, .null, .int 0, .int 0, .int 0, .int 0, .int 0, .int 0, .int 0, .int 0, .int 0, .int 0, .int 0, .int 0, .int 0, .null, .null, .null, .null, .null, .int 0, .int 0, .int 0, .int 0, .null, .null, .null, .null, .int 0, .int 0, .int 0, .null, .null])), (q_1, .inl (cI, 1302, .inl z0)), (q_2, .inl (cZ, 2, .inl z0))] H := hP
  have hD : va_D A [(h, .inr (10, [.ref q_1, .ref q_2, .int 0, .int 0, .int 0, .int 0, .int 0, .int 0, .null, .null, .null, .null, .null, .null, .int 0, .int 0, .int 0, .int 0, .int 0, .int 0, .int 0, .int 0, .int 0, .int 0, .int 0, .int 0, .int 0, .null, .null, .null, .null, .null, .int 0, .int 0, .int 0, .int 0, .null, .null, .null, .null, .int 0, .int 0, .int 0, .null, .null])), (q_1, .inl (cI, 1302, .inl z0)), (q_2, .inl (cZ, 2, .inl z0))] := hD
  refine lv_aload_n hx hb dX10_init_20 rfl (lv_at hl 0 rfl) ?_
  refine lv_iconst (v := 1) hx hb dX10_init_21 rfl ?_
  refine va_put (D := D) (ci := 10) (v := .int 1) (ty := .int) (C := RX10) (T := TX10) (N := 45) hx hb hts iX10 tyX10 tyX10_ok nmX10 hown hK hP hD hS 0 rfl rfl 4 (Nat.le_of_ble_eq_true rfl) (hts _ wd_500) (fun _ h9 => h9) rfl (by decide +kernel) rfl rfl (Nat.le_of_ble_eq_true rfl) dX10_init_22 (fun H locs hP hD hS => ?_)
  have hP : va_P D classes [(h, .inr (10, [.ref q_1, .ref q_2, .int 0, .int 0, .int 1, .int 0, .int 0, .int 0, .null, .null, .null, .null, .null, .null, .int 0, .int 0, .int 0, .int 0, .int 0, .int 0, .int 0, .int 0, .int 0, .int 0, .int 0, .int 0, .int 0, .null, .null, .null, .null, .null, .int 0, .int 0, .int 0, .int 0, .null, .null, .null, .null, .int 0, .int 0, .int 0, .null, .null])), (q_1, .inl (cI, 1302, .inl z0)), (q_2, .inl (cZ, 2, .inl z0))] H := hP
  have hD : va_D A [(h, .inr (10, [.ref q_1, .ref q_2, .int 0, .int 0, .int 1, .int 0, .int 0, .int 0, .null, .null, .null, .null, .null, .null, .int 0, .int 0, .int 0, .int 0, .int 0, .int 0, .int 0, .int 0, .int 0, .int 0, .int 0, .int 0, .int 0, .null, .null, .null, .null, .null, .int 0, .int 0, .int 0, .int 0, .null, .null, .null, .null, .int 0, .int 0, .int 0, .null, .null])), (q_1, .inl (cI, 1302, .inl z0)), (q_2, .inl (cZ, 2, .inl z0))] := hD
  refine lv_aload_n hx hb dX10_init_25 rfl (lv_at hl 0 rfl) ?_
  refine lv_bipush (v := 6) hx hb dX10_init_26 rfl ?_
  refine va_newa (atype := .int) (a0 := (6, .inl z0)) (N' := 6) (ty := .int) hx hb (hts _ wd_8) rfl hK hP hD hS hA (fun cA => z0_int 6 cA) (by decide +kernel) (by decide +kernel) (by decide +kernel) (Nat.le_of_ble_eq_true rfl) (Nat.le_of_ble_eq_true rfl) dX10_init_28 (fun q_3 cA_q_3 H hKn hP hD hS => ?_)
  obtain rfl := (K_int hKn).symm
  have hP : va_P D classes [(h, .inr (10, [.ref q_1, .ref q_2, .int 0, .int 0, .int 1, .int 0, .int 0, .int 0, .null, .null, .null, .null, .null, .null, .int 0, .int 0, .int 0, .int 0, .int 0, .int 0, .int 0, .int 0, .int 0, .int 0, .int 0, .int 0, .int 0, .null, .null, .null, .null, .null, .int 0, .int 0, .int 0, .int 0, .null, .null, .null, .null, .int 0, .int 0, .int 0, .null, .null])), (q_1, .inl (cI, 1302, .inl z0)), (q_2, .inl (cZ, 2, .inl z0)), (q_3, .inl (cI, 6, .inl z0))] H := hP
  have hD : va_D A [(h, .inr (10, [.ref q_1, .ref q_2, .int 0, .int 0, .int 1, .int 0, .int 0, .int 0, .null, .null, .null, .null, .null, .null, .int 0, .int 0, .int 0, .int 0, .int 0, .int 0, .int 0, .int 0, .int 0, .int 0, .int 0, .int 0, .int 0, .null, .null, .null, .null, .null, .int 0, .int 0, .int 0, .int 0, .null, .null, .null, .null, .int 0, .int 0, .int 0, .null, .null])), (q_1, .inl (cI, 1302, .inl z0)), (q_2, .inl (cZ, 2, .inl z0)), (q_3, .inl (cI, 6, .inl z0))] := hD
  refine W.widen (k := 3) (n := 1310) (Nat.le_of_ble_eq_true rfl) (Nat.le_of_ble_eq_true rfl) ?_
  refine va_putF (D := D) (ci := 10) (v := .ref q_3) (ty := (.array .int)) (C := RX10) (T := TX10) (N := 45) hx hb hts iX10 tyX10 tyX10_ok nmX10 hown hK hP hD hS 0 rfl rfl 8 (Nat.le_of_ble_eq_true rfl) (hts _ wd_579) (fun _ h9 => h9) rfl hin rfl (by decide +kernel) rfl rfl (Nat.le_of_ble_eq_true rfl) dX10_init_30 (fun H locs hP hD hS => ?_)
  have hP : va_P D classes [(h, .inr (10, [.ref q_1, .ref q_2, .int 0, .int 0, .int 1, .int 0, .int 0, .int 0, .ref q_3, .null, .null, .null, .null, .null, .int 0, .int 0, .int 0, .int 0, .int 0, .int 0, .int 0, .int 0, .int 0, .int 0, .int 0, .int 0, .int 0, .null, .null, .null, .null, .null, .int 0, .int 0, .int 0, .int 0, .null, .null, .null, .null, .int 0, .int 0, .int 0, .null, .null])), (q_1, .inl (cI, 1302, .inl z0)), (q_2, .inl (cZ, 2, .inl z0)), (q_3, .inl (cI, 6, .inl z0))] H := hP
  have hD : va_D A [(h, .inr (10, [.ref q_1, .ref q_2, .int 0, .int 0, .int 1, .int 0, .int 0, .int 0, .ref q_3, .null, .null, .null, .null, .null, .int 0, .int 0, .int 0, .int 0, .int 0, .int 0, .int 0, .int 0, .int 0, .int 0, .int 0, .int 0, .int 0, .null, .null, .null, .null, .null, .int 0, .int 0, .int 0, .int 0, .null, .null, .null, .null, .int 0, .int 0, .int 0, .null, .null])), (q_1, .inl (cI, 1302, .inl z0)), (q_2, .inl (cZ, 2, .inl z0)), (q_3, .inl (cI, 6, .inl z0))] := hD
  refine lv_aload_n hx hb dX10_init_33 rfl (lv_at hl 0 rfl) ?_
  refine lv_bipush (v := 6) hx hb dX10_init_34 rfl ?_
  refine va_newa (atype := .int) (a0 := (6, .inl z0)) (N' := 6) (ty := .int) hx hb (hts _ wd_8) rfl hK hP hD hS hA (fun cA => z0_int 6 cA) (by decide +kernel) (by decide +kernel) (by decide +kernel) (Nat.le_of_ble_eq_true rfl) (Nat.le_of_ble_eq_true rfl) dX10_init_36 (fun q_4 cA_q_4 H hKn hP hD hS => ?_)
  obtain rfl := (K_int hKn).symm
  have hP : va_P D classes [(h, .inr (10, [.ref q_1, .ref q_2, .int 0, .int 0, .int 1, .int 0, .int 0, .int 0, .ref q_3, .null, .null, .null, .null, .null, .int 0, .int 0, .int 0, .int 0, .int 0, .int 0, .int 0, .int 0, .int 0, .int 0, .int 0, .int 0, .int 0, .null, .null, .null, .null, .null, .int 0, .int 0, .int 0, .int 0, .null, .null, .null, .null, .int 0, .int 0, .int 0, .null, .null])), (q_1, .inl (cI, 1302, .inl z0)), (q_2, .inl (cZ, 2, .inl z0)), (q_3, .inl (cI, 6, .inl z0)), (q_4, .inl (cI, 6, .inl z0))] H := hP
  have hD : va_D A [(h, .inr (10, [.ref q_1, .ref q_2, .int 0, .int 0, .int 1, .int 0, .int 0, .int 0, .ref q_3, .null, .null, .null, .null, .null, .int 0, .int 0, .int 0, .int 0, .int 0, .int 0, .int 0, .int 0, .int 0, .int 0, .int 0, .int 0, .int 0, .null, .null, .null, .null, .null, .int 0, .int 0, .int 0, .int 0, .null, .null, .null, .null, .int 0, .int 0, .int 0, .null, .null])), (q_1, .inl (cI, 1302, .inl z0)), (q_2, .inl (cZ, 2, .inl z0)), (q_3, .inl (cI, 6, .inl z0)), (q_4, .inl (cI, 6, .inl z0))] := hD
  refine W.widen (k := 4) (n := 1316) (Nat.le_of_ble_eq_true rfl) (Nat.le_of_ble_eq_true rfl) ?_
  refine va_putF (D := D) (ci := 10) (v := .ref q_4) (ty := (.array .int)) (C := RX10) (T := TX10) (N := 45) hx hb hts iX10 tyX10 tyX10_ok nmX10 hown hK hP hD hS 0 rfl rfl 9 (Nat.le_of_ble_eq_true rfl) (hts _ wd_561) (fun _ h9 => h9) rfl hin rfl (by decide +kernel) rfl rfl (Nat.le_of_ble_eq_true rfl) dX10_init_38 (fun H locs hP hD hS => ?_)
  have hP : va_P D classes [(h, .inr (10, [.ref q_1, .ref q_2, .int 0, .int 0, .int 1, .int 0, .int 0, .int 0, .ref q_3, .ref q_4, .null, .null, .null, .null, .int 0, .int 0, .int 0, .int 0, .int 0, .int 0, .int 0, .int 0, .int 0, .int 0, .int 0, .int 0, .int 0, .null, .null, .null, .null, .null, .int 0, .int 0, .int 0, .int 0, .null, .null, .null, .null, .int 0, .int 0, .int 0, .null, .null])), (q_1, .inl (cI, 1302, .inl z0)), (q_2, .inl (cZ, 2, .inl z0)), (q_3, .inl (cI, 6, .inl z0)), (q_4, .inl (cI, 6, .inl z0))] H := hP
  have hD : va_D A [(h, .inr (10, [.ref q_1, .ref q_2, .int 0, .int 0, .int 1, .int 0, .int 0, .int 0, .ref q_3, .ref q_4, .null, .null, .null, .null, .int 0, .int 0, .int 0, .int 0, .int 0, .int 0, .int 0, .int 0, .int 0, .int 0, .int 0, .int 0, .int 0, .null, .null, .null, .null, .null, .int 0, .int 0, .int 0, .int 0, .null, .null, .null, .null, .int 0, .int 0, .int 0, .null, .null])), (q_1, .inl (cI, 1302, .inl z0)), (q_2, .inl (cZ, 2, .inl z0)), (q_3, .inl (cI, 6, .inl z0)), (q_4, .inl (cI, 6, .inl z0))] := hD
  refine lv_aload_n hx hb dX10_init_41 rfl (lv_at hl 0 rfl) ?_
  refine lv_bipush (v := 30) hx hb dX10_init_42 rfl ?_
  refine va_newa (atype := .int) (a0 := (30, .inl z0)) (N' := 30) (ty := .int) hx hb (hts _ wd_8) rfl hK hP hD hS hA (fun cA => z0_int 30 cA) (by decide +kernel) (by decide +kernel) (by decide +kernel) (Nat.le_of_ble_eq_true rfl) (Nat.le_of_ble_eq_true rfl) dX10_init_44 (fun q_5 cA_q_5 H hKn hP hD hS => ?_)
  obtain rfl := (K_int hKn).symm
  have hP : va_P D classes [(h, .inr (10, [.ref q_1, .ref q_2, .int 0, .int 0, .int 1, .int 0, .int 0, .int 0, .ref q_3, .ref q_4, .null, .null, .null, .null, .int 0, .int 0, .int 0, .int 0, .int 0, .int 0, .int 0, .int 0, .int 0, .int 0, .int 0, .int 0, .int 0, .null, .null, .null, .null, .null, .int 0, .int 0, .int 0, .int 0, .null, .null, .null, .null, .int 0, .int 0, .int 0, .null, .null])), (q_1, .inl (cI, 1302, .inl z0)), (q_2, .inl (cZ, 2, .inl z0)), (q_3, .inl (cI, 6, .inl z0)), (q_4, .inl (cI, 6, .inl z0)), (q_5, .inl (cI, 30, .inl z0))] H := hP
  have hD : va_D A [(h, .inr (10, [.ref q_1, .ref q_2, .int 0, .int 0, .int 1, .int 0, .int 0, .int 0, .ref q_3, .ref q_4, .null, .null, .null, .null, .int 0, .int 0, .int 0, .int 0, .int 0, .int 0, .int 0, .int 0, .int 0, .int 0, .int 0, .int 0, .int 0, .null, .null, .null, .null, .null, .int 0, .int 0, .int 0, .int 0, .null, .null, .null, .null, .int 0, .int 0, .int 0, .null, .null])), (q_1, .inl (cI, 1302, .inl z0)), (q_2, .inl (cZ, 2, .inl z0)), (q_3, .inl (cI, 6, .inl z0)), (q_4, .inl (cI, 6, .inl z0)), (q_5, .inl (cI, 30, .inl z0))] := hD
  refine W.widen (k := 5) (n := 1346) (Nat.le_of_ble_eq_true rfl) (Nat.le_of_ble_eq_true rfl) ?_
  refine va_putF (D := D) (ci := 10) (v := .ref q_5) (ty := (.array .int)) (C := RX10) (T := TX10) (N := 45) hx hb hts iX10 tyX10 tyX10_ok nmX10 hown hK hP hD hS 0 rfl rfl 10 (Nat.le_of_ble_eq_true rfl) (hts _ wd_547) (fun _ h9 => h9) rfl hin rfl (by decide +kernel) rfl rfl (Nat.le_of_ble_eq_true rfl) dX10_init_46 (fun H locs hP hD hS => ?_)
  have hP : va_P D classes [(h, .inr (10, [.ref q_1, .ref q_2, .int 0, .int 0, .int 1, .int 0, .int 0, .int 0, .ref q_3, .ref q_4, .ref q_5, .null, .null, .null, .int 0, .int 0, .int 0, .int 0, .int 0, .int 0, .int 0, .int 0, .int 0, .int 0, .int 0, .int 0, .int 0, .null, .null, .null, .null, .null, .int 0, .int 0, .int 0, .int 0, .null, .null, .null, .null, .int 0, .int 0, .int 0, .null, .null])), (q_1, .inl (cI, 1302, .inl z0)), (q_2, .inl (cZ, 2, .inl z0)), (q_3, .inl (cI, 6, .inl z0)), (q_4, .inl (cI, 6, .inl z0)), (q_5, .inl (cI, 30, .inl z0))] H := hP
  have hD : va_D A [(h, .inr (10, [.ref q_1, .ref q_2, .int 0, .int 0, .int 1, .int 0, .int 0, .int 0, .ref q_3, .ref q_4, .ref q_5, .null, .null, .null, .int 0, .int 0, .int 0, .int 0, .int 0, .int 0, .int 0, .int 0, .int 0, .int 0, .int 0, .int 0, .int 0, .null, .null, .null, .null, .null, .int 0, .int 0, .int 0, .int 0, .null, .null, .null, .null, .int 0, .int 0, .int 0, .null, .null])), (q_1, .inl (cI, 1302, .inl z0)), (q_2, .inl (cZ, 2, .inl z0)), (q_3, .inl (cI, 6, .inl z0)), (q_4, .inl (cI, 6, .inl z0)), (q_5, .inl (cI, 30, .inl z0))] := hD
  refine lv_aload_n hx hb dX10_init_49 rfl (lv_at hl 0 rfl) ?_
  refine lv_bipush (v := 7) hx hb dX10_init_50 rfl ?_
  refine va_newa (atype := .int) (a0 := (7, .inl z0)) (N' := 7) (ty := .int) hx hb (hts _ wd_8) rfl hK hP hD hS hA (fun cA => z0_int 7 cA) (by decide +kernel) (by decide +kernel) (by decide +kernel) (Nat.le_of_ble_eq_true rfl) (Nat.le_of_ble_eq_true rfl) dX10_init_52 (fun q_6 cA_q_6 H hKn hP hD hS => ?_)
  obtain rfl := (K_int hKn).symm
  have hP : va_P D classes [(h, .inr (10, [.ref q_1, .ref q_2, .int 0, .int 0, .int 1, .int 0, .int 0, .int 0, .ref q_3, .ref q_4, .ref q_5, .null, .null, .null, .int 0, .int 0, .int 0, .int 0, .int 0, .int 0, .int 0, .int 0, .int 0, .int 0, .int 0, .int 0, .int 0, .null, .null, .null, .null, .null, .int 0, .int 0, .int 0, .int 0, .null, .null, .null, .null, .int 0, .int 0, .int 0, .null, .null])), (q_1, .inl (cI, 1302, .inl z0)), (q_2, .inl (cZ, 2, .inl z0)), (q_3, .inl (cI, 6, .inl z0)), (q_4, .inl (cI, 6, .inl z0)), (q_5, .inl (cI, 30, .inl z0)), (q_6, .inl (cI, 7, .inl z0))] H := hP
  have hD : va_D A [(h, .inr (10, [.ref q_1, .ref q_2, .int 0, .int 0, .int 1, .int 0, .int 0, .int 0, .ref q_3, .ref q_4, .ref q_5, .null, .null, .null, .int 0, .int 0, .int 0, .int 0, .int 0, .int 0, .int 0, .int 0, .int 0, .int 0, .int 0, .int 0, .int 0, .null, .null, .null, .null, .null, .int 0, .int 0, .int 0, .int 0, .null, .null, .null, .null, .int 0, .int 0, .int 0, .null, .null])), (q_1, .inl (cI, 1302, .inl z0)), (q_2, .inl (cZ, 2, .inl z0)), (q_3, .inl (cI, 6, .inl z0)), (q_4, .inl (cI, 6, .inl z0)), (q_5, .inl (cI, 30, .inl z0)), (q_6, .inl (cI, 7, .inl z0))] := hD
  refine W.widen (k := 6) (n := 1353) (Nat.le_of_ble_eq_true rfl) (Nat.le_of_ble_eq_true rfl) ?_
  refine va_putF (D := D) (ci := 10) (v := .ref q_6) (ty := (.array .int)) (C := RX10) (T := TX10) (N := 45) hx hb hts iX10 tyX10 tyX10_ok nmX10 hown hK hP hD hS 0 rfl rfl 11 (Nat.le_of_ble_eq_true rfl) (hts _ wd_593) (fun _ h9 => h9) rfl hin rfl (by decide +kernel) rfl rfl (Nat.le_of_ble_eq_true rfl) dX10_init_54 (fun H locs hP hD hS => ?_)
  have hP : va_P D classes [(h, .inr (10, [.ref q_1, .ref q_2, .int 0, .int 0, .int 1, .int 0, .int 0, .int 0, .ref q_3, .ref q_4, .ref q_5, .ref q_6, .null, .null, .int 0, .int 0, .int 0, .int 0, .int 0, .int 0, .int 0, .int 0, .int 0, .int 0, .int 0, .int 0, .int 0, .null, .null, .null, .null, .null, .int 0, .int 0, .int 0, .int 0, .null, .null, .null, .null, .int 0, .int 0, .int 0, .null, .null])), (q_1, .inl (cI, 1302, .inl z0)), (q_2, .inl (cZ, 2, .inl z0)), (q_3, .inl (cI, 6, .inl z0)), (q_4, .inl (cI, 6, .inl z0)), (q_5, .inl (cI, 30, .inl z0)), (q_6, .inl (cI, 7, .inl z0))] H := hP
  have hD : va_D A [(h, .inr (10, [.ref q_1, .ref q_2, .int 0, .int 0, .int 1, .int 0, .int 0, .int 0, .ref q_3, .ref q_4, .ref q_5, .ref q_6, .null, .null, .int 0, .int 0, .int 0, .int 0, .int 0, .int 0, .int 0, .int 0, .int 0, .int 0, .int 0, .int 0, .int 0, .null, .null, .null, .null, .null, .int 0, .int 0, .int 0, .int 0, .null, .null, .null, .null, .int 0, .int 0, .int 0, .null, .null])), (q_1, .inl (cI, 1302, .inl z0)), (q_2, .inl (cZ, 2, .inl z0)), (q_3, .inl (cI, 6, .inl z0)), (q_4, .inl (cI, 6, .inl z0)), (q_5, .inl (cI, 30, .inl z0)), (q_6, .inl (cI, 7, .inl z0))] := hD
  refine lv_aload_n hx hb dX10_init_57 rfl (lv_at hl 0 rfl) ?_
  refine lv_bipush (v := 7) hx hb dX10_init_58 rfl ?_
  refine va_newa (atype := .int) (a0 := (7, .inl z0)) (N' := 7) (ty := .int) hx hb (hts _ wd_8) rfl hK hP hD hS hA (fun cA => z0_int 7 cA) (by decide +kernel) (by decide +kernel) (by decide +kernel) (Nat.le_of_ble_eq_true rfl) (Nat.le_of_ble_eq_true rfl) dX10_init_60 (fun q_7 cA_q_7 H hKn hP hD hS => ?_)
  obtain rfl := (K_int hKn).symm
  have hP : va_P D classes [(h, .inr (10, [.ref q_1, .ref q_2, .int 0, .int 0, .int 1, .int 0, .int 0, .int 0, .ref q_3, .ref q_4, .ref q_5, .ref q_6, .null, .null, .int 0, .int 0, .int 0, .int 0, .int 0, .int 0, .int 0, .int 0, .int 0, .int 0, .int 0, .int 0, .int 0, .null, .null, .null, .null, .null, .int 0, .int 0, .int 0, .int 0, .null, .null, .null, .null, .int 0, .int 0, .int 0, .null, .null])), (q_1, .inl (cI, 1302, .inl z0)), (q_2, .inl (cZ, 2, .inl z0)), (q_3, .inl (cI, 6, .inl z0)), (q_4, .inl (cI, 6, .inl z0)), (q_5, .inl (cI, 30, .inl z0)), (q_6, .inl (cI, 7, .inl z0)), (q_7, .inl (cI, 7, .inl z0))] H := hP
  have hD : va_D A [(h, .inr (10, [.ref q_1, .ref q_2, .int 0, .int 0, .int 1, .int 0, .int 0, .int 0, .ref q_3, .ref q_4, .ref q_5, .ref q_6, .null, .null, .int 0, .int 0, .int 0, .int 0, .int 0, .int 0, .int 0, .int 0, .int 0, .int 0, .int 0, .int 0, .int 0, .null, .null, .null, .null, .null, .int 0, .int 0, .int 0, .int 0, .null, .null, .null, .null, .int 0, .int 0, .int 0, .null, .null])), (q_1, .inl (cI, 1302, .inl z0)), (q_2, .inl (cZ, 2, .inl z0)), (q_3, .inl (cI, 6, .inl z0)), (q_4, .inl (cI, 6, .inl z0)), (q_5, .inl (cI, 30, .inl z0)), (q_6, .inl (cI, 7, .inl z0)), (q_7, .inl (cI, 7, .inl z0))] := hD
  refine W.widen (k := 7) (n := 1360) (Nat.le_of_ble_eq_true rfl) (Nat.le_of_ble_eq_true rfl) ?_
  refine va_putF (D := D) (ci := 10) (v := .ref q_7) (ty := (.array .int)) (C := RX10) (T := TX10) (N := 45) hx hb hts iX10 tyX10 tyX10_ok nmX10 hown hK hP hD hS 0 rfl rfl 12 (Nat.le_of_ble_eq_true rfl) (hts _ wd_594) (fun _ h9 => h9) rfl hin rfl (by decide +kernel) rfl rfl (Nat.le_of_ble_eq_true rfl) dX10_init_62 (fun H locs hP hD hS => ?_)
  have hP : va_P D classes [(h, .inr (10, [.ref q_1, .ref q_2, .int 0, .int 0, .int 1, .int 0, .int 0, .int 0, .ref q_3, .ref q_4, .ref q_5, .ref q_6, .ref q_7, .null, .int 0, .int 0, .int 0, .int 0, .int 0, .int 0, .int 0, .int 0, .int 0, .int 0, .int 0, .int 0, .int 0, .null, .null, .null, .null, .null, .int 0, .int 0, .int 0, .int 0, .null, .null, .null, .null, .int 0, .int 0, .int 0, .null, .null])), (q_1, .inl (cI, 1302, .inl z0)), (q_2, .inl (cZ, 2, .inl z0)), (q_3, .inl (cI, 6, .inl z0)), (q_4, .inl (cI, 6, .inl z0)), (q_5, .inl (cI, 30, .inl z0)), (q_6, .inl (cI, 7, .inl z0)), (q_7, .inl (cI, 7, .inl z0))] H := hP
  have hD : va_D A [(h, .inr (10, [.ref q_1, .ref q_2, .int 0, .int 0, .int 1, .int 0, .int 0, .int 0, .ref q_3, .ref q_4, .ref q_5, .ref q_6, .ref q_7, .null, .int 0, .int 0, .int 0, .int 0, .int 0, .int 0, .int 0, .int 0, .int 0, .int 0, .int 0, .int 0, .int 0, .null, .null, .null, .null, .null, .int 0, .int 0, .int 0, .int 0, .null, .null, .null, .null, .int 0, .int 0, .int 0, .null, .null])), (q_1, .inl (cI, 1302, .inl z0)), (q_2, .inl (cZ, 2, .inl z0)), (q_3, .inl (cI, 6, .inl z0)), (q_4, .inl (cI, 6, .inl z0)), (q_5, .inl (cI, 30, .inl z0)), (q_6, .inl (cI, 7, .inl z0)), (q_7, .inl (cI, 7, .inl z0))] := hD
  refine lv_aload_n hx hb dX10_init_65 rfl (lv_at hl 0 rfl) ?_
  refine lv_sipush (v := 240) hx hb dX10_init_66 rfl ?_
  refine va_newa (atype := .int) (a0 := (240, .inl z0)) (N' := 240) (ty := .int) hx hb (hts _ wd_8) rfl hK hP hD hS hA (fun cA => z0_int 240 cA) (by decide +kernel) (by decide +kernel) (by decide +kernel) (Nat.le_of_ble_eq_true rfl) (Nat.le_of_ble_eq_true rfl) dX10_init_69 (fun q_8 cA_q_8 H hKn hP hD hS => ?_)
  obtain rfl := (K_int hKn).symm
  have hP : va_P D classes [(h, .inr (10, [.ref q_1, .ref q_2, .int 0, .int 0, .int 1, .int 0, .int 0, .int 0, .ref q_3, .ref q_4, .ref q_5, .ref q_6, .ref q_7, .null, .int 0, .int 0, .int 0, .int 0, .int 0, .int 0, .int 0, .int 0, .int 0, .int 0, .int 0, .int 0, .int 0, .null, .null, .null, .null, .null, .int 0, .int 0, .int 0, .int 0, .null, .null, .null, .null, .int 0, .int 0, .int 0, .null, .null])), (q_1, .inl (cI, 1302, .inl z0)), (q_2, .inl (cZ, 2, .inl z0)), (q_3, .inl (cI, 6, .inl z0)), (q_4, .inl (cI, 6, .inl z0)), (q_5, .inl (cI, 30, .inl z0)), (q_6, .inl (cI, 7, .inl z0)), (q_7, .inl (cI, 7, .inl z0)), (q_8, .inl (cI, 240, .inl z0))] H := hP
  have hD : va_D A [(h, .inr (10, [.ref q_1, .ref q_2, .int 0, .int 0, .int 1, .int 0, .int 0, .int 0, .ref q_3, .ref q_4, .ref q_5, .ref q_6, .ref q_7, .null, .int 0, .int 0, .int 0, .int 0, .int 0, .int 0, .int 0, .int 0, .int 0, .int 0, .int 0, .int 0, .int 0, .null, .null, .null, .null, .null, .int 0, .int 0, .int 0, .int 0, .null, .null, .null, .null, .int 0, .int 0, .int 0, .null, .null])), (q_1, .inl (cI, 1302, .inl z0)), (q_2, .inl (cZ, 2, .inl z0)), (q_3, .inl (cI, 6, .inl z0)), (q_4, .inl (cI, 6, .inl z0)), (q_5, .inl (cI, 30, .inl z0)), (q_6, .inl (cI, 7, .inl z0)), (q_7, .inl (cI, 7, .inl z0)), (q_8, .inl (cI, 240, .inl z0))] := hD
  refine W.widen (k := 8) (n := 1600) (Nat.le_of_ble_eq_true rfl) (Nat.le_of_ble_eq_true rfl) ?_
  refine va_putF (D := D) (ci := 10) (v := .ref q_8) (ty := (.array .int)) (C := RX10) (T := TX10) (N := 45) hx hb hts iX10 tyX10 tyX10_ok nmX10 hown hK hP hD hS 0 rfl rfl 13 (Nat.le_of_ble_eq_true rfl) (hts _ wd_493) (fun _ h9 => h9) rfl hin rfl (by decide +kernel) rfl rfl (Nat.le_of_ble_eq_true rfl) dX10_init_71 (fun H locs hP hD hS => ?_)
  have hP : va_P D classes [(h, .inr (10, [.ref q_1, .ref q_2, .int 0, .int 0, .int 1, .int 0, .int 0, .int 0, .ref q_3, .ref q_4, .ref q_5, .ref q_6, .ref q_7, .ref q_8, .int 0, .int 0, .int 0, .int 0, .int 0, .int 0, .int 0, .int 0, .int 0, .int 0, .int 0, .int 0, .int 0, .null, .null, .null, .null, .null, .int 0, .int 0, .int 0, .int 0, .null, .null, .null, .null, .int 0, .int 0, .int 0, .null, .null])), (q_1, .inl (cI, 1302, .inl z0)), (q_2, .inl (cZ, 2, .inl z0)), (q_3, .inl (cI, 6, .inl z0)), (q_4, .inl (cI, 6, .inl z0)), (q_5, .inl (cI, 30, .inl z0)), (q_6, .inl (cI, 7, .inl z0)), (q_7, .inl (cI, 7, .inl z0)), (q_8, .inl (cI, 240, .inl z0))] H := hP
  have hD : va_D A [(h, .inr (10, [.ref q_1, .ref q_2, .int 0, .int 0, .int 1, .int 0, .int 0, .int 0, .ref q_3, .ref q_4, .ref q_5, .ref q_6, .ref q_7, .ref q_8, .int 0, .int 0, .int 0, .int 0, .int 0, .int 0, .int 0, .int 0, .int 0, .int 0, .int 0, .int 0, .int 0, .null, .null, .null, .null, .null, .int 0, .int 0, .int 0, .int 0, .null, .null, .null, .null, .int 0, .int 0, .int 0, .null, .null])), (q_1, .inl (cI, 1302, .inl z0)), (q_2, .inl (cZ, 2, .inl z0)), (q_3, .inl (cI, 6, .inl z0)), (q_4, .inl (cI, 6, .inl z0)), (q_5, .inl (cI, 30, .inl z0)), (q_6, .inl (cI, 7, .inl z0)), (q_7, .inl (cI, 7, .inl z0)), (q_8, .inl (cI, 240, .inl z0))] := hD
  refine lv_aload_n hx hb dX10_init_74 rfl (lv_at hl 0 rfl) ?_
  refine lv_iconst (v := (-1)) hx hb dX10_init_75 rfl ?_
  refine va_put (D := D) (ci := 10) (v := .int (-1)) (ty := .int) (C := RX10) (T := TX10) (N := 45) hx hb hts iX10 tyX10 tyX10_ok nmX10 hown hK hP hD hS 0 rfl rfl 19 (Nat.le_of_ble_eq_true rfl) (hts _ wd_515) (fun _ h9 => h9) rfl (by decide +kernel) rfl rfl (Nat.le_of_ble_eq_true rfl) dX10_init_76 (fun H locs hP hD hS => ?_)
  have hP : va_P D classes [(h, .inr (10, [.ref q_1, .ref q_2, .int 0, .int 0, .int 1, .int 0, .int 0, .int 0, .ref q_3, .ref q_4, .ref q_5, .ref q_6, .ref q_7, .ref q_8, .int 0, .int 0, .int 0, .int 0, .int 0, .int (-1), .int 0, .int 0, .int 0, .int 0, .int 0, .int 0, .int 0, .null, .null, .null, .null, .null, .int 0, .int 0, .int 0, .int 0, .null, .null, .null, .null, .int 0, .int 0, .int 0, .null, .null])), (q_1, .inl (cI, 1302, .inl z0)), (q_2, .inl (cZ, 2, .inl z0)), (q_3, .inl (cI, 6, .inl z0)), (q_4, .inl (cI, 6, .inl z0)), (q_5, .inl (cI, 30, .inl z0)), (q_6, .inl (cI, 7, .inl z0)), (q_7, .inl (cI, 7, .inl z0)), (q_8, .inl (cI, 240, .inl z0))] H := hP
  have hD : va_D A [(h, .inr (10, [.ref q_1, .ref q_2, .int 0, .int 0, .int 1, .int 0, .int 0, .int 0, .ref q_3, .ref q_4, .ref q_5, .ref q_6, .ref q_7, .ref q_8, .int 0, .int 0, .int 0, .int 0, .int 0, .int (-1), .int 0, .int 0, .int 0, .int 0, .int 0, .int 0, .int 0, .null, .null, .null, .null, .null, .int 0, .int 0, .int 0, .int 0, .null, .null, .null, .null, .int 0, .int 0, .int 0, .null, .null])), (q_1, .inl (cI, 1302, .inl z0)), (q_2, .inl (cZ, 2, .inl z0)), (q_3, .inl (cI, 6, .inl z0)), (q_4, .inl (cI, 6, .inl z0)), (q_5, .inl (cI, 30, .inl z0)), (q_6, .inl (cI, 7, .inl z0)), (q_7, .inl (cI, 7, .inl z0)), (q_8, .inl (cI, 240, .inl z0))] := hD
  refine lv_aload_n hx hb dX10_init_79 rfl (lv_at hl 0 rfl) ?_
  refine lv_bipush (v := 6) hx hb dX10_init_80 rfl ?_
  refine va_newa (atype := .int) (a0 := (6, .inl z0)) (N' := 6) (ty := .int) hx hb (hts _ wd_8) rfl hK hP hD hS hA (fun cA => z0_int 6 cA) (by decide +kernel) (by decide +kernel) (by decide +kernel) (Nat.le_of_ble_eq_true rfl) (Nat.le_of_ble_eq_true rfl) dX10_init_82 (fun q_9 cA_q_9 H hKn hP hD hS => ?_)
  obtain rfl := (K_int hKn).symm
  have hP : va_P D classes [(h, .inr (10, [.ref q_1, .ref q_2, .int 0, .int 0, .int 1, .int 0, .int 0, .int 0, .ref q_3, .ref q_4, .ref q_5, .ref q_6, .ref q_7, .ref q_8, .int 0, .int 0, .int 0, .int 0, .int 0, .int (-1), .int 0, .int 0, .int 0, .int 0, .int 0, .int 0, .int 0, .null, .null, .null, .null, .null, .int 0, .int 0, .int 0, .int 0, .null, .null, .null, .null, .int 0, .int 0, .int 0, .null, .null])), (q_1, .inl (cI, 1302, .inl z0)), (q_2, .inl (cZ, 2, .inl z0)), (q_3, .inl (cI, 6, .inl z0)), (q_4, .inl (cI, 6, .inl z0)), (q_5, .inl (cI, 30, .inl z0)), (q_6, .inl (cI, 7, .inl z0)), (q_7, .inl (cI, 7, .inl z0)), (q_8, .inl (cI, 240, .inl z0)), (q_9, .inl (cI, 6, .inl z0))] H := hP
  have hD : va_D A [(h, .inr (10, [.ref q_1, .ref q_2, .int 0, .int 0, .int 1, .int 0, .int 0, .int 0, .ref q_3, .ref q_4, .ref q_5, .ref q_6, .ref q_7, .ref q_8, .int 0, .int 0, .int 0, .int 0, .int 0, .int (-1), .int 0, .int 0, .int 0, .int 0, .int 0, .int 0, .int 0, .null, .null, .null, .null, .null, .int 0, .int 0, .int 0, .int 0, .null, .null, .null, .null, .int 0, .int 0, .int 0, .null, .null])), (q_1, .inl (cI, 1302, .inl z0)), (q_2, .inl (cZ, 2, .inl z0)), (q_3, .inl (cI, 6, .inl z0)), (q_4, .inl (cI, 6, .inl z0)), (q_5, .inl (cI, 30, .inl z0)), (q_6, .inl (cI, 7, .inl z0)), (q_7, .inl (cI, 7, .inl z0)), (q_8, .inl (cI, 240, .inl z0)), (q_9, .inl (cI, 6, .inl z0))] := hD
  refine W.widen (k := 9) (n := 1606) (Nat.le_of_ble_eq_true rfl) (Nat.le_of_ble_eq_true rfl) ?_
  refine va_putF (D := D) (ci := 10) (v := .ref q_9) (ty := (.array .int)) (C := RX10) (T := TX10) (N := 45) hx hb hts iX10 tyX10 tyX10_ok nmX10 hown hK hP hD hS 0 rfl rfl 27 (Nat.le_of_ble_eq_true rfl) (hts _ wd_532) (fun _ h9 => h9) rfl hin rfl (by decide +kernel) rfl rfl (Nat.le_of_ble_eq_true rfl) dX10_init_84 (fun H locs hP hD hS => ?_)
  have hP : va_P D classes [(h, .inr (10, [.ref q_1, .ref q_2, .int 0, .int 0, .int 1, .int 0, .int 0, .int 0, .ref q_3, .ref q_4, .ref q_5, .ref q_6, .ref q_7, .ref q_8, .int 0, .int 0, .int 0, .int 0, .int 0, .int (-1), .int 0, .int 0, .int 0, .int 0, .int 0, .int 0, .int 0, .ref q_9, .null, .null, .null, .null, .int 0, .int 0, .int 0, .int 0, .null, .null, .null, .null, .int 0, .int 0, .int 0, .null, .null])), (q_1, .inl (cI, 1302, .inl z0)), (q_2, .inl (cZ, 2, .inl z0)), (q_3, .inl (cI, 6, .inl z0)), (q_4, .inl (cI, 6, .inl z0)), (q_5, .inl (cI, 30, .inl z0)), (q_6, .inl (cI, 7, .inl z0)), (q_7, .inl (cI, 7, .inl z0)), (q_8, .inl (cI, 240, .inl z0)), (q_9, .inl (cI, 6, .inl z0))] H := hP
  have hD : va_D A [(h, .inr (10, [.ref q_1, .ref q_2, .int 0, .int 0, .int 1, .int 0, .int 0, .int 0, .ref q_3, .ref q_4, .ref q_5, .ref q_6, .ref q_7, .ref q_8, .int 0, .int 0, .int 0, .int 0, .int 0, .int (-1), .int 0, .int 0, .int 0, .int 0, .int 0, .int 0, .int 0, .ref q_9, .null, .null, .null, .null, .int 0, .int 0, .int 0, .int 0, .null, .null, .null, .null, .int 0, .int 0, .int 0, .null, .null])), (q_1, .inl (cI, 1302, .inl z0)), (q_2, .inl (cZ, 2, .inl z0)), (q_3, .inl (cI, 6, .inl z0)), (q_4, .inl (cI, 6, .inl z0)), (q_5, .inl (cI, 30, .inl z0)), (q_6, .inl (cI, 7, .inl z0)), (q_7, .inl (cI, 7, .inl z0)), (q_8, .inl (cI, 240, .inl z0)), (q_9, .inl (cI, 6, .inl z0))] := hD
  refine lv_aload_n hx hb dX10_init_87 rfl (lv_at hl 0 rfl) ?_
  refine lv_bipush (v := 6) hx hb dX10_init_88 rfl ?_
  refine va_newa (atype := .int) (a0 := (6, .inl z0)) (N' := 6) (ty := .int) hx hb (hts _ wd_8) rfl hK hP hD hS hA (fun cA => z0_int 6 cA) (by decide +kernel) (by decide +kernel) (by decide +kernel) (Nat.le_of_ble_eq_true rfl) (Nat.le_of_ble_eq_true rfl) dX10_init_90 (fun q_10 cA_q_10 H hKn hP hD hS => ?_)
  obtain rfl := (K_int hKn).symm
  have hP : va_P D classes [(h, .inr (10, [.ref q_1, .ref q_2, .int 0, .int 0, .int 1, .int 0, .int 0, .int 0, .ref q_3, .ref q_4, .ref q_5, .ref q_6, .ref q_7, .ref q_8, .int 0, .int 0, .int 0, .int 0, .int 0, .int (-1), .int 0, .int 0, .int 0, .int 0, .int 0, .int 0, .int 0, .ref q_9, .null, .null, .null, .null, .int 0, .int 0, .int 0, .int 0, .null, .null, .null, .null, .int 0, .int 0, .int 0, .null, .null])), (q_1, .inl (cI, 1302, .inl z0)), (q_2, .inl (cZ, 2, .inl z0)), (q_3, .inl (cI, 6, .inl z0)), (q_4, .inl (cI, 6, .inl z0)), (q_5, .inl (cI, 30, .inl z0)), (q_6, .inl (cI, 7, .inl z0)), (q_7, .inl (cI, 7, .inl z0)), (q_8, .inl (cI, 240, .inl z0)), (q_9, .inl (cI, 6, .inl z0)), (q_10, .inl (cI, 6, .inl z0))] H := hP
  have hD : va_D A [(h, .inr (10, [.ref q_1, .ref q_2, .int 0, .int 0, .int 1, .int 0, .int 0, .int 0, .ref q_3, .ref q_4, .ref q_5, .ref q_6, .ref q_7, .ref q_8, .int 0, .int 0, .int 0, .int 0, .int 0, .int (-1), .int 0, .int 0, .int 0, .int 0, .int 0, .int 0, .int 0, .ref q_9, .null, .null, .null, .null, .int 0, .int 0, .int 0, .int 0, .null, .null, .null, .null, .int 0, .int 0, .int 0, .null, .null])), (q_1, .inl (cI, 1302, .inl z0)), (q_2, .inl (cZ, 2, .inl z0)), (q_3, .inl (cI, 6, .inl z0)), (q_4, .inl (cI, 6, .inl z0)), (q_5, .inl (cI, 30, .inl z0)), (q_6, .inl (cI, 7, .inl z0)), (q_7, .inl (cI, 7, .inl z0)), (q_8, .inl (cI, 240, .inl z0)), (q_9, .inl (cI, 6, .inl z0)), (q_10, .inl (cI, 6, .inl z0))] := hD
  refine W.widen (k := 10) (n := 1612) (Nat.le_of_ble_eq_true rfl) (Nat.le_of_ble_eq_true rfl) ?_
  refine va_putF (D := D) (ci := 10) (v := .ref q_10) (ty := (.array .int)) (C := RX10) (T := TX10) (N := 45) hx hb hts iX10 tyX10 tyX10_ok nmX10 hown hK hP hD hS 0 rfl rfl 28 (Nat.le_of_ble_eq_true rfl) (hts _ wd_535) (fun _ h9 => h9) rfl hin rfl (by decide +kernel) rfl rfl (Nat.le_of_ble_eq_true rfl) dX10_init_92 (fun H locs hP hD hS => ?_)
  have hP : va_P D classes [(h, .inr (10, [.ref q_1, .ref q_2, .int 0, .int 0, .int 1, .int 0, .int 0, .int 0, .ref q_3, .ref q_4, .ref q_5, .ref q_6, .ref q_7, .ref q_8, .int 0, .int 0, .int 0, .int 0, .int 0, .int (-1), .int 0, .int 0, .int 0, .int 0, .int 0, .int 0, .int 0, .ref q_9, .ref q_10, .null, .null, .null, .int 0, .int 0, .int 0, .int 0, .null, .null, .null, .null, .int 0, .int 0, .int 0, .null, .null])), (q_1, .inl (cI, 1302, .inl z0)), (q_2, .inl (cZ, 2, .inl z0)), (q_3, .inl (cI, 6, .inl z0)), (q_4, .inl (cI, 6, .inl z0)), (q_5, .inl (cI, 30, .inl z0)), (q_6, .inl (cI, 7, .inl z0)), (q_7, .inl (cI, 7, .inl z0)), (q_8, .inl (cI, 240, .inl z0)), (q_9, .inl (cI, 6, .inl z0)), (q_10, .inl (cI, 6, .inl z0))] H := hP
  have hD : va_D A [(h, .inr (10, [.ref q_1, .ref q_2, .int 0, .int 0, .int 1, .int 0, .int 0, .int 0, .ref q_3, .ref q_4, .ref q_5, .ref q_6, .ref q_7, .ref q_8, .int 0, .int 0, .int 0, .int 0, .int 0, .int (-1), .int 0, .int 0, .int 0, .int 0, .int 0, .int 0, .int 0, .ref q_9, .ref q_10, .null, .null, .null, .int 0, .int 0, .int 0, .int 0, .null, .null, .null, .null, .int 0, .int 0, .int 0, .null, .null])), (q_1, .inl (cI, 1302, .inl z0)), (q_2, .inl (cZ, 2, .inl z0)), (q_3, .inl (cI, 6, .inl z0)), (q_4, .inl (cI, 6, .inl z0)), (q_5, .inl (cI, 30, .inl z0)), (q_6, .inl (cI, 7, .inl z0)), (q_7, .inl (cI, 7, .inl z0)), (q_8, .inl (cI, 240, .inl z0)), (q_9, .inl (cI, 6, .inl z0)), (q_10, .inl (cI, 6, .inl z0))] := hD
  refine lv_aload_n hx hb dX10_init_95 rfl (lv_at hl 0 rfl) ?_
  refine lv_bipush (v := 30) hx hb dX10_init_96 rfl ?_
  refine va_newa (atype := .int) (a0 := (30, .inl z0)) (N' := 30) (ty := .int) hx hb (hts _ wd_8) rfl hK hP hD hS hA (fun cA => z0_int 30 cA) (by decide +kernel) (by decide +kernel) (by decide +kernel) (Nat.le_of_ble_eq_true rfl) (Nat.le_of_ble_eq_true rfl) dX10_init_98 (fun q_11 cA_q_11 H hKn hP hD hS => ?_)
  obtain rfl := (K_int hKn).symm
  have hP : va_P D classes [(h, .inr (10, [.ref q_1, .ref q_2, .int 0, .int 0, .int 1, .int 0, .int 0, .int 0, .ref q_3, .ref q_4, .ref q_5, .ref q_6, .ref q_7, .ref q_8, .int 0, .int 0, .int 0, .int 0, .int 0, .int (-1), .int 0, .int 0, .int 0, .int 0, .int 0, .int 0, .int 0, .ref q_9, .ref q_10, .null, .null, .null, .int 0, .int 0, .int 0, .int 0, .null, .null, .null, .null, .int 0, .int 0, .int 0, .null, .null])), (q_1, .inl (cI, 1302, .inl z0)), (q_2, .inl (cZ, 2, .inl z0)), (q_3, .inl (cI, 6, .inl z0)), (q_4, .inl (cI, 6, .inl z0)), (q_5, .inl (cI, 30, .inl z0)), (q_6, .inl (cI, 7, .inl z0)), (q_7, .inl (cI, 7, .inl z0)), (q_8, .inl (cI, 240, .inl z0)), (q_9, .inl (cI, 6, .inl z0)), (q_10, .inl (cI, 6, .inl z0)), (q_11, .inl (cI, 30, .inl z0))] H := hP
  have hD : va_D A [(h, .inr (10, [.ref q_1, .ref q_2, .int 0, .int 0, .int 1, .int 0, .int 0, .int 0, .ref q_3, .ref q_4, .ref q_5, .ref q_6, .ref q_7, .ref q_8, .int 0, .int 0, .int 0, .int 0, .int 0, .int (-1), .int 0, .int 0, .int 0, .int 0, .int 0, .int 0, .int 0, .ref q_9, .ref q_10, .null, .null, .null, .int 0, .int 0, .int 0, .int 0, .null, .null, .null, .null, .int 0, .int 0, .int 0, .null, .null])), (q_1, .inl (cI, 1302, .inl z0)), (q_2, .inl (cZ, 2, .inl z0)), (q_3, .inl (cI, 6, .inl z0)), (q_4, .inl (cI, 6, .inl z0)), (q_5, .inl (cI, 30, .inl z0)), (q_6, .inl (cI, 7, .inl z0)), (q_7, .inl (cI, 7, .inl z0)), (q_8, .inl (cI, 240, .inl z0)), (q_9, .inl (cI, 6, .inl z0)), (q_10, .inl (cI, 6, .inl z0)), (q_11, .inl (cI, 30, .inl z0))] := hD
  refine W.widen (k := 11) (n := 1642) (Nat.le_of_ble_eq_true rfl) (Nat.le_of_ble_eq_true rfl) ?_
  refine va_putF (D := D) (ci := 10) (v := .ref q_11) (ty := (.array .int)) (C := RX10) (T := TX10) (N := 45) hx hb hts iX10 tyX10 tyX10_ok nmX10 hown hK hP hD hS 0 rfl rfl 29 (Nat.le_of_ble_eq_true rfl) (hts _ wd_537) (fun _ h9 => h9) rfl hin rfl (by decide +kernel) rfl rfl (Nat.le_of_ble_eq_true rfl) dX10_init_100 (fun H locs hP hD hS => ?_)
  have hP : va_P D classes [(h, .inr (10, [.ref q_1, .ref q_2, .int 0, .int 0, .int 1, .int 0, .int 0, .int 0, .ref q_3, .ref q_4, .ref q_5, .ref q_6, .ref q_7, .ref q_8, .int 0, .int 0, .int 0, .int 0, .int 0, .int (-1), .int 0, .int 0, .int 0, .int 0, .int 0, .int 0, .int 0, .ref q_9, .ref q_10, .ref q_11, .null, .null, .int 0, .int 0, .int 0, .int 0, .null, .null, .null, .null, .int 0, .int 0, .int 0, .null, .null])), (q_1, .inl (cI, 1302, .inl z0)), (q_2, .inl (cZ, 2, .inl z0)), (q_3, .inl (cI, 6, .inl z0)), (q_4, .inl (cI, 6, .inl z0)), (q_5, .inl (cI, 30, .inl z0)), (q_6, .inl (cI, 7, .inl z0)), (q_7, .inl (cI, 7, .inl z0)), (q_8, .inl (cI, 240, .inl z0)), (q_9, .inl (cI, 6, .inl z0)), (q_10, .inl (cI, 6, .inl z0)), (q_11, .inl (cI, 30, .inl z0))] H := hP
  have hD : va_D A [(h, .inr (10, [.ref q_1, .ref q_2, .int 0, .int 0, .int 1, .int 0, .int 0, .int 0, .ref q_3, .ref q_4, .ref q_5, .ref q_6, .ref q_7, .ref q_8, .int 0, .int 0, .int 0, .int 0, .int 0, .int (-1), .int 0, .int 0, .int 0, .int 0, .int 0, .int 0, .int 0, .ref q_9, .ref q_10, .ref q_11, .null, .null, .int 0, .int 0, .int 0, .int 0, .null, .null, .null, .null, .int 0, .int 0, .int 0, .null, .null])), (q_1, .inl (cI, 1302, .inl z0)), (q_2, .inl (cZ, 2, .inl z0)), (q_3, .inl (cI, 6, .inl z0)), (q_4, .inl (cI, 6, .inl z0)), (q_5, .inl (cI, 30, .inl z0)), (q_6, .inl (cI, 7, .inl z0)), (q_7, .inl (cI, 7, .inl z0)), (q_8, .inl (cI, 240, .inl z0)), (q_9, .inl (cI, 6, .inl z0)), (q_10, .inl (cI, 6, .inl z0)), (q_11, .inl (cI, 30, .inl z0))] := hD
  refine lv_aload_n hx hb dX10_init_103 rfl (lv_at hl 0 rfl) ?_
  refine lv_bipush (v := 7) hx hb dX10_init_104 rfl ?_
  refine va_newa (atype := .int) (a0 := (7, .inl z0)) (N' := 7) (ty := .int) hx hb (hts _ wd_8) rfl hK hP hD hS hA (fun cA => z0_int 7 cA) (by decide +kernel) (by decide +kernel) (by decide +kernel) (Nat.le_of_ble_eq_true rfl) (Nat.le_of_ble_eq_true rfl) dX10_init_106 (fun q_12 cA_q_12 H hKn hP hD hS => ?_)
  obtain rfl := (K_int hKn).symm
  have hP : va_P D classes [(h, .inr (10, [.ref q_1, .ref q_2, .int 0, .int 0, .int 1, .int 0, .int 0, .int 0, .ref q_3, .ref q_4, .ref q_5, .ref q_6, .ref q_7, .ref q_8, .int 0, .int 0, .int 0, .int 0, .int 0, .int (-1), .int 0, .int 0, .int 0, .int 0, .int 0, .int 0, .int 0, .ref q_9, .ref q_10, .ref q_11, .null, .null, .int 0, .int 0, .int 0, .int 0, .null, .null, .null, .null, .int 0, .int 0, .int 0, .null, .null])), (q_1, .inl (cI, 1302, .inl z0)), (q_2, .inl (cZ, 2, .inl z0)), (q_3, .inl (cI, 6, .inl z0)), (q_4, .inl (cI, 6, .inl z0)), (q_5, .inl (cI, 30, .inl z0)), (q_6, .inl (cI, 7, .inl z0)), (q_7, .inl (cI, 7, .inl z0)), (q_8, .inl (cI, 240, .inl z0)), (q_9, .inl (cI, 6, .inl z0)), (q_10, .inl (cI, 6, .inl z0)), (q_11, .inl (cI, 30, .inl z0)), (q_12, .inl (cI, 7, .inl z0))] H := hP
  have hD : va_D A [(h, .inr (10, [.ref q_1, .ref q_2, .int 0, .int 0, .int 1, .int 0, .int 0, .int 0, .ref q_3, .ref q_4, .ref q_5, .ref q_6, .ref q_7, .ref q_8, .int 0, .int 0, .int 0, .int 0, .int 0, .int (-1), .int 0, .int 0, .int 0, .int 0, .int 0, .int 0, .int 0, .ref q_9, .ref q_10, .ref q_11, .null, .null, .int 0, .int 0, .int 0, .int 0, .null, .null, .null, .null, .int 0, .int 0, .int 0, .null, .null])), (q_1, .inl (cI, 1302, .inl z0)), (q_2, .inl (cZ, 2, .inl z0)), (q_3, .inl (cI, 6, .inl z0)), (q_4, .inl (cI, 6, .inl z0)), (q_5, .inl (cI, 30, .inl z0)), (q_6, .inl (cI, 7, .inl z0)), (q_7, .inl (cI, 7, .inl z0)), (q_8, .inl (cI, 240, .inl z0)), (q_9, .inl (cI, 6, .inl z0)), (q_10, .inl (cI, 6, .inl z0)), (q_11, .inl (cI, 30, .inl z0)), (q_12, .inl (cI, 7, .inl z0))] := hD
  refine W.widen (k := 12) (n := 1649) (Nat.le_of_ble_eq_true rfl) (Nat.le_of_ble_eq_true rfl) ?_
  refine va_putF (D := D) (ci := 10) (v := .ref q_12) (ty := (.array .int)) (C := RX10) (T := TX10) (N := 45) hx hb hts iX10 tyX10 tyX10_ok nmX10 hown hK hP hD hS 0 rfl rfl 30 (Nat.le_of_ble_eq_true rfl) (hts _ wd_542) (fun _ h9 => h9) rfl hin rfl (by decide +kernel) rfl rfl (Nat.le_of_ble_eq_true rfl) dX10_init_108 (fun H locs hP hD hS => ?_)
  have hP : va_P D classes [(h, .inr (10, [.ref q_1, .ref q_2, .int 0, .int 0, .int 1, .int 0, .int 0, .int 0, .ref q_3, .ref q_4, .ref q_5, .ref q_6, .ref q_7, .ref q_8, .int 0, .int 0, .int 0, .int 0, .int 0, .int (-1), .int 0, .int 0, .int 0, .int 0, .int 0, .int 0, .int 0, .ref q_9, .ref q_10, .ref q_11, .ref q_12, .null, .int 0, .int 0, .int 0, .int 0, .null, .null, .null, .null, .int 0, .int 0, .int 0, .null, .null])), (q_1, .inl (cI, 1302, .inl z0)), (q_2, .inl (cZ, 2, .inl z0)), (q_3, .inl (cI, 6, .inl z0)), (q_4, .inl (cI, 6, .inl z0)), (q_5, .inl (cI, 30, .inl z0)), (q_6, .inl (cI, 7, .inl z0)), (q_7, .inl (cI, 7, .inl z0)), (q_8, .inl (cI, 240, .inl z0)), (q_9, .inl (cI, 6, .inl z0)), (q_10, .inl (cI, 6, .inl z0)), (q_11, .inl (cI, 30, .inl z0)), (q_12, .inl (cI, 7, .inl z0))] H := hP
  have hD : va_D A [(h, .inr (10, [.ref q_1, .ref q_2, .int 0, .int 0, .int 1, .int 0, .int 0, .int 0, .ref q_3, .ref q_4, .ref q_5, .ref q_6, .ref q_7, .ref q_8, .int 0, .int 0, .int 0, .int 0, .int 0, .int (-1), .int 0, .int 0, .int 0, .int 0, .int 0, .int 0, .int 0, .ref q_9, .ref q_10, .ref q_11, .ref q_12, .null, .int 0, .int 0, .int 0, .int 0, .null, .null, .null, .null, .int 0, .int 0, .int 0, .null, .null])), (q_1, .inl (cI, 1302, .inl z0)), (q_2, .inl (cZ, 2, .inl z0)), (q_3, .inl (cI, 6, .inl z0)), (q_4, .inl (cI, 6, .inl z0)), (q_5, .inl (cI, 30, .inl z0)), (q_6, .inl (cI, 7, .inl z0)), (q_7, .inl (cI, 7, .inl z0)), (q_8, .inl (cI, 240, .inl z0)), (q_9, .inl (cI, 6, .inl z0)), (q_10, .inl (cI, 6, .inl z0)), (q_11, .inl (cI, 30, .inl z0)), (q_12, .inl (cI, 7, .inl z0))] := hD
  refine lv_aload_n hx hb dX10_init_111 rfl (lv_at hl 0 rfl) ?_
  refine lv_bipush (v := 7) hx hb dX10_init_112 rfl ?_
  refine va_newa (atype := .int) (a0 := (7, .inl z0)) (N' := 7) (ty := .int) hx hb (hts _ wd_8) rfl hK hP hD hS hA (fun cA => z0_int 7 cA) (by decide +kernel) (by decide +kernel) (by decide +kernel) (Nat.le_of_ble_eq_true rfl) (Nat.le_of_ble_eq_true rfl) dX10_init_114 (fun q_13 cA_q_13 H hKn hP hD hS => ?_)
  obtain rfl := (K_int hKn).symm
  have hP : va_P D classes [(h, .inr (10, [.ref q_1, .ref q_2, .int 0, .int 0, .int 1, .int 0, .int 0, .int 0, .ref q_3, .ref q_4, .ref q_5, .ref q_6, .ref q_7, .ref q_8, .int 0, .int 0, .int 0, .int 0, .int 0, .int (-1), .int 0, .int 0, .int 0, .int 0, .int 0, .int 0, .int 0, .ref q_9, .ref q_10, .ref q_11, .ref q_12, .null, .int 0, .int 0, .int 0, .int 0, .null, .null, .null, .null, .int 0, .int 0, .int 0, .null, .null])), (q_1, .inl (cI, 1302, .inl z0)), (q_2, .inl (cZ, 2, .inl z0)), (q_3, .inl (cI, 6, .inl z0)), (q_4, .inl (cI, 6, .inl z0)), (q_5, .inl (cI, 30, .inl z0)), (q_6, .inl (cI, 7, .inl z0)), (q_7, .inl (cI, 7, .inl z0)), (q_8, .inl (cI, 240, .inl z0)), (q_9, .inl (cI, 6, .inl z0)), (q_10, .inl (cI, 6, .inl z0)), (q_11, .inl (cI, 30, .inl z0)), (q_12, .inl (cI, 7, .inl z0)), (q_13, .inl (cI, 7, .inl z0))] H := hP
  have hD : va_D A [(h, .inr (10, [.ref q_1, .ref q_2, .int 0, .int 0, .int 1, .int 0, .int 0, .int 0, .ref q_3, .ref q_4, .ref q_5, .ref q_6, .ref q_7, .ref q_8, .int 0, .int 0, .int 0, .int 0, .int 0, .int (-1), .int 0, .int 0, .int 0, .int 0, .int 0, .int 0, .int 0, .ref q_9, .ref q_10, .ref q_11, .ref q_12, .null, .int 0, .int 0, .int 0, .int 0, .null, .null, .null, .null, .int 0, .int 0, .int 0, .null, .null])), (q_1, .inl (cI, 1302, .inl z0)), (q_2, .inl (cZ, 2, .inl z0)), (q_3, .inl (cI, 6, .inl z0)), (q_4, .inl (cI, 6, .inl z0)), (q_5, .inl (cI, 30, .inl z0)), (q_6, .inl (cI, 7, .inl z0)), (q_7, .inl (cI, 7, .inl z0)), (q_8, .inl (cI, 240, .inl z0)), (q_9, .inl (cI, 6, .inl z0)), (q_10, .inl (cI, 6, .inl z0)), (q_11, .inl (cI, 30, .inl z0)), (q_12, .inl (cI, 7, .inl z0)), (q_13, .inl (cI, 7, .inl z0))] := hD
  refine W.widen (k := 13) (n := 1656) (Nat.le_of_ble_eq_true rfl) (Nat.le_of_ble_eq_true rfl) ?_
  refine va_putF (D := D) (ci := 10) (v := .ref q_13) (ty := (.array .int)) (C := RX10) (T := TX10) (N := 45) hx hb hts iX10 tyX10 tyX10_ok nmX10 hown hK hP hD hS 0 rfl rfl 31 (Nat.le_of_ble_eq_true rfl) (hts _ wd_544) (fun _ h9 => h9) rfl hin rfl (by decide +kernel) rfl rfl (Nat.le_of_ble_eq_true rfl) dX10_init_116 (fun H locs hP hD hS => ?_)
  have hP : va_P D classes [(h, .inr (10, [.ref q_1, .ref q_2, .int 0, .int 0, .int 1, .int 0, .int 0, .int 0, .ref q_3, .ref q_4, .ref q_5, .ref q_6, .ref q_7, .ref q_8, .int 0, .int 0, .int 0, .int 0, .int 0, .int (-1), .int 0, .int 0, .int 0, .int 0, .int 0, .int 0, .int 0, .ref q_9, .ref q_10, .ref q_11, .ref q_12, .ref q_13, .int 0, .int 0, .int 0, .int 0, .null, .null, .null, .null, .int 0, .int 0, .int 0, .null, .null])), (q_1, .inl (cI, 1302, .inl z0)), (q_2, .inl (cZ, 2, .inl z0)), (q_3, .inl (cI, 6, .inl z0)), (q_4, .inl (cI, 6, .inl z0)), (q_5, .inl (cI, 30, .inl z0)), (q_6, .inl (cI, 7, .inl z0)), (q_7, .inl (cI, 7, .inl z0)), (q_8, .inl (cI, 240, .inl z0)), (q_9, .inl (cI, 6, .inl z0)), (q_10, .inl (cI, 6, .inl z0)), (q_11, .inl (cI, 30, .inl z0)), (q_12, .inl (cI, 7, .inl z0)), (q_13, .inl (cI, 7, .inl z0))] H := hP
  have hD : va_D A [(h, .inr (10, [.ref q_1, .ref q_2, .int 0, .int 0, .int 1, .int 0, .int 0, .int 0, .ref q_3, .ref q_4, .ref q_5, .ref q_6, .ref q_7, .ref q_8, .int 0, .int 0, .int 0, .int 0, .int 0, .int (-1), .int 0, .int 0, .int 0, .int 0, .int 0, .int 0, .int 0, .ref q_9, .ref q_10, .ref q_11, .ref q_12, .ref q_13, .int 0, .int 0, .int 0, .int 0, .null, .null, .null, .null, .int 0, .int 0, .int 0, .null, .null])), (q_1, .inl (cI, 1302, .inl z0)), (q_2, .inl (cZ, 2, .inl z0)), (q_3, .inl (cI, 6, .inl z0)), (q_4, .inl (cI, 6, .inl z0)), (q_5, .inl (cI, 30, .inl z0)), (q_6, .inl (cI, 7, .inl z0)), (q_7, .inl (cI, 7, .inl z0)), (q_8, .inl (cI, 240, .inl z0)), (q_9, .inl (cI, 6, .inl z0)), (q_10, .inl (cI, 6, .inl z0)), (q_11, .inl (cI, 30, .inl z0)), (q_12, .inl (cI, 7, .inl z0)), (q_13, .inl (cI, 7, .inl z0))] := hD
  refine lv_aload_n hx hb dX10_init_119 rfl (lv_at hl 0 rfl) ?_
  refine lv_sipush (v := 448) hx hb dX10_init_120 rfl ?_
  refine va_newa (atype := .int) (a0 := (448, .inl z0)) (N' := 448) (ty := .int) hx hb (hts _ wd_8) rfl hK hP hD hS hA (fun cA => z0_int 448 cA) (by decide +kernel) (by decide +kernel) (by decide +kernel) (Nat.le_of_ble_eq_true rfl) (Nat.le_of_ble_eq_true rfl) dX10_init_123 (fun q_14 cA_q_14 H hKn hP hD hS => ?_)
  obtain rfl := (K_int hKn).symm
  have hP : va_P D classes [(h, .inr (10, [.ref q_1, .ref q_2, .int 0, .int 0, .int 1, .int 0, .int 0, .int 0, .ref q_3, .ref q_4, .ref q_5, .ref q_6, .ref q_7, .ref q_8, .int 0, .int 0, .int 0, .int 0, .int 0, .int (-1), .int 0, .int 0, .int 0, .int 0, .int 0, .int 0, .int 0, .ref q_9, .ref q_10, .ref q_11, .ref q_12, .ref q_13, .int 0, .int 0, .int 0, .int 0, .null, .null, .null, .null, .int 0, .int 0, .int 0, .null, .null])), (q_1, .inl (cI, 1302, .inl z0)), (q_2, .inl (cZ, 2, .inl z0)), (q_3, .inl (cI, 6, .inl z0)), (q_4, .inl (cI, 6, .inl z0)), (q_5, .inl (cI, 30, .inl z0)), (q_6, .inl (cI, 7, .inl z0)), (q_7, .inl (cI, 7, .inl z0)), (q_8, .inl (cI, 240, .inl z0)), (q_9, .inl (cI, 6, .inl z0)), (q_10, .inl (cI, 6, .inl z0)), (q_11, .inl (cI, 30, .inl z0)), (q_12, .inl (cI, 7, .inl z0)), (q_13, .inl (cI, 7, .inl z0)), (q_14, .inl (cI, 448, .inl z0))] H := hP
  have hD : va_D A [(h, .inr (10, [.ref q_1, .ref q_2, .int 0, .int 0, .int 1, .int 0, .int 0, .int 0, .ref q_3, .ref q_4, .ref q_5, .ref q_6, .ref q_7, .ref q_8, .int 0, .int 0, .int 0, .int 0, .int 0, .int (-1), .int 0, .int 0, .int 0, .int 0, .int 0, .int 0, .int 0, .ref q_9, .ref q_10, .ref q_11, .ref q_12, .ref q_13, .int 0, .int 0, .int 0, .int 0, .null, .null, .null, .null, .int 0, .int 0, .int 0, .null, .null])), (q_1, .inl (cI, 1302, .inl z0)), (q_2, .inl (cZ, 2, .inl z0)), (q_3, .inl (cI, 6, .inl z0)), (q_4, .inl (cI, 6, .inl z0)), (q_5, .inl (cI, 30, .inl z0)), (q_6, .inl (cI, 7, .inl z0)), (q_7, .inl (cI, 7, .inl z0)), (q_8, .inl (cI, 240, .inl z0)), (q_9, .inl (cI, 6, .inl z0)), (q_10, .inl (cI, 6, .inl z0)), (q_11, .inl (cI, 30, .inl z0)), (q_12, .inl (cI, 7, .inl z0)), (q_13, .inl (cI, 7, .inl z0)), (q_14, .inl (cI, 448, .inl z0))] := hD
  refine W.widen (k := 14) (n := 2104) (Nat.le_of_ble_eq_true rfl) (Nat.le_of_ble_eq_true rfl) ?_
  refine va_putF (D := D) (ci := 10) (v := .ref q_14) (ty := (.array .int)) (C := RX10) (T := TX10) (N := 45) hx hb hts iX10 tyX10 tyX10_ok nmX10 hown hK hP hD hS 0 rfl rfl 36 (Nat.le_of_ble_eq_true rfl) (hts _ wd_693) (fun _ h9 => h9) rfl hin rfl (by decide +kernel) rfl rfl (Nat.le_of_ble_eq_true rfl) dX10_init_125 (fun H locs hP hD hS => ?_)
  have hP : va_P D classes [(h, .inr (10, [.ref q_1, .ref q_2, .int 0, .int 0, .int 1, .int 0, .int 0, .int 0, .ref q_3, .ref q_4, .ref q_5, .ref q_6, .ref q_7, .ref q_8, .int 0, .int 0, .int 0, .int 0, .int 0, .int (-1), .int 0, .int 0, .int 0, .int 0, .int 0, .int 0, .int 0, .ref q_9, .ref q_10, .ref q_11, .ref q_12, .ref q_13, .int 0, .int 0, .int 0, .int 0, .ref q_14, .null, .null, .null, .int 0, .int 0, .int 0, .null, .null])), (q_1, .inl (cI, 1302, .inl z0)), (q_2, .inl (cZ, 2, .inl z0)), (q_3, .inl (cI, 6, .inl z0)), (q_4, .inl (cI, 6, .inl z0)), (q_5, .inl (cI, 30, .inl z0)), (q_6, .inl (cI, 7, .inl z0)), (q_7, .inl (cI, 7, .inl z0)), (q_8, .inl (cI, 240, .inl z0)), (q_9, .inl (cI, 6, .inl z0)), (q_10, .inl (cI, 6, .inl z0)), (q_11, .inl (cI, 30, .inl z0)), (q_12, .inl (cI, 7, .inl z0)), (q_13, .inl (cI, 7, .inl z0)), (q_14, .inl (cI, 448, .inl z0))] H := hP
  have hD : va_D A [(h, .inr (10, [.ref q_1, .ref q_2, .int 0, .int 0, .int 1, .int 0, .int 0, .int 0, .ref q_3, .ref q_4, .ref q_5, .ref q_6, .ref q_7, .ref q_8, .int 0, .int 0, .int 0, .int 0, .int 0, .int (-1), .int 0, .int 0, .int 0, .int 0, .int 0, .int 0, .int 0, .ref q_9, .ref q_10, .ref q_11, .ref q_12, .ref q_13, .int 0, .int 0, .int 0, .int 0, .ref q_14, .null, .null, .null, .int 0, .int 0, .int 0, .null, .null])), (q_1, .inl (cI, 1302, .inl z0)), (q_2, .inl (cZ, 2, .inl z0)), (q_3, .inl (cI, 6, .inl z0)), (q_4, .inl (cI, 6, .inl z0)), (q_5, .inl (cI, 30, .inl z0)), (q_6, .inl (cI, 7, .inl z0)), (q_7, .inl (cI, 7, .inl z0)), (q_8, .inl (cI, 240, .inl z0)), (q_9, .inl (cI, 6, .inl z0)), (q_10, .inl (cI, 6, .inl z0)), (q_11, .inl (cI, 30, .inl z0)), (q_12, .inl (cI, 7, .inl z0)), (q_13, .inl (cI, 7, .inl z0)), (q_14, .inl (cI, 448, .inl z0))] := hD
  refine lv_aload_n hx hb dX10_init_128 rfl (lv_at hl 0 rfl) ?_
  refine lv_bipush (v := 36) hx hb dX10_init_129 rfl ?_
  refine va_newa (atype := .int) (a0 := (36, .inl z0)) (N' := 36) (ty := .int) hx hb (hts _ wd_8) rfl hK hP hD hS hA (fun cA => z0_int 36 cA) (by decide +kernel) (by decide +kernel) (by decide +kernel) (Nat.le_of_ble_eq_true rfl) (Nat.le_of_ble_eq_true rfl) dX10_init_131 (fun q_15 cA_q_15 H hKn hP hD hS => ?_)
  obtain rfl := (K_int hKn).symm
  have hP : va_P D classes [(h, .inr (10, [.ref q_1, .ref q_2, .int 0, .int 0, .int 1, .int 0, .int 0, .int 0, .ref q_3, .ref q_4, .ref q_5, .ref q_6, .ref q_7, .ref q_8, .int 0, .int 0, .int 0, .int 0, .int 0, .int (-1), .int 0, .int 0, .int 0, .int 0, .int 0, .int 0, .int 0, .ref q_9, .ref q_10, .ref q_11, .ref q_12, .ref q_13, .int 0, .int 0, .int 0, .int 0, .ref q_14, .null, .null, .null, .int 0, .int 0, .int 0, .null, .null])), (q_1, .inl (cI, 1302, .inl z0)), (q_2, .inl (cZ, 2, .inl z0)), (q_3, .inl (cI, 6, .inl z0)), (q_4, .inl (cI, 6, .inl z0)), (q_5, .inl (cI, 30, .inl z0)), (q_6, .inl (cI, 7, .inl z0)), (q_7, .inl (cI, 7, .inl z0)), (q_8, .inl (cI, 240, .inl z0)), (q_9, .inl (cI, 6, .inl z0)), (q_10, .inl (cI, 6, .inl z0)), (q_11, .inl (cI, 30, .inl z0)), (q_12, .inl (cI, 7, .inl z0)), (q_13, .inl (cI, 7, .inl z0)), (q_14, .inl (cI, 448, .inl z0)), (q_15, .inl (cI, 36, .inl z0))] H := hP
  have hD : va_D A [(h, .inr (10, [.ref q_1, .ref q_2, .int 0, .int 0, .int 1, .int 0, .int 0, .int 0, .ref q_3, .ref q_4, .ref q_5, .ref q_6, .ref q_7, .ref q_8, .int 0, .int 0, .int 0, .int 0, .int 0, .int (-1), .int 0, .int 0, .int 0, .int 0, .int 0, .int 0, .int 0, .ref q_9, .ref q_10, .ref q_11, .ref q_12, .ref q_13, .int 0, .int 0, .int 0, .int 0, .ref q_14, .null, .null, .null, .int 0, .int 0, .int 0, .null, .null])), (q_1, .inl (cI, 1302, .inl z0)), (q_2, .inl (cZ, 2, .inl z0)), (q_3, .inl (cI, 6, .inl z0)), (q_4, .inl (cI, 6, .inl z0)), (q_5, .inl (cI, 30, .inl z0)), (q_6, .inl (cI, 7, .inl z0)), (q_7, .inl (cI, 7, .inl z0)), (q_8, .inl (cI, 240, .inl z0)), (q_9, .inl (cI, 6, .inl z0)), (q_10, .inl (cI, 6, .inl z0)), (q_11, .inl (cI, 30, .inl z0)), (q_12, .inl (cI, 7, .inl z0)), (q_13, .inl (cI, 7, .inl z0)), (q_14, .inl (cI, 448, .inl z0)), (q_15, .inl (cI, 36, .inl z0))] := hD
  refine W.widen (k := 15) (n := 2140) (Nat.le_of_ble_eq_true rfl) (Nat.le_of_ble_eq_true rfl) ?_
  refine va_putF (D := D) (ci := 10) (v := .ref q_15) (ty := (.array .int)) (C := RX10) (T := TX10) (N := 45) hx hb hts iX10 tyX10 tyX10_ok nmX10 hown hK hP hD hS 0 rfl rfl 37 (Nat.le_of_ble_eq_true rfl) (hts _ wd_672) (fun _ h9 => h9) rfl hin rfl (by decide +kernel) rfl rfl (Nat.le_of_ble_eq_true rfl) dX10_init_133 (fun H locs hP hD hS => ?_)
  have hP : va_P D classes [(h, .inr (10, [.ref q_1, .ref q_2, .int 0, .int 0, .int 1, .int 0, .int 0, .int 0, .ref q_3, .ref q_4, .ref q_5, .ref q_6, .ref q_7, .ref q_8, .int 0, .int 0, .int 0, .int 0, .int 0, .int (-1), .int 0, .int 0, .int 0, .int 0, .int 0, .int 0, .int 0, .ref q_9, .ref q_10, .ref q_11, .ref q_12, .ref q_13, .int 0, .int 0, .int 0, .int 0, .ref q_14, .ref q_15, .null, .null, .int 0, .int 0, .int 0, .null, .null])), (q_1, .inl (cI, 1302, .inl z0)), (q_2, .inl (cZ, 2, .inl z0)), (q_3, .inl (cI, 6, .inl z0)), (q_4, .inl (cI, 6, .inl z0)), (q_5, .inl (cI, 30, .inl z0)), (q_6, .inl (cI, 7, .inl z0)), (q_7, .inl (cI, 7, .inl z0)), (q_8, .inl (cI, 240, .inl z0)), (q_9, .inl (cI, 6, .inl z0)), (q_10, .inl (cI, 6, .inl z0)), (q_11, .inl (cI, 30, .inl z0)), (q_12, .inl (cI, 7, .inl z0)), (q_13, .inl (cI, 7, .inl z0)), (q_14, .inl (cI, 448, .inl z0)), (q_15, .inl (cI, 36, .inl z0))] H := hP
  have hD : va_D A [(h, .inr (10, [.ref q_1, .ref q_2, .int 0, .int 0, .int 1, .int 0, .int 0, .int 0, .ref q_3, .ref q_4, .ref q_5, .ref q_6, .ref q_7, .ref q_8, .int 0, .int 0, .int 0, .int 0, .int 0, .int (-1), .int 0, .int 0, .int 0, .int 0, .int 0, .int 0, .int 0, .ref q_9, .ref q_10, .ref q_11, .ref q_12, .ref q_13, .int 0, .int 0, .int 0, .int 0, .ref q_14, .ref q_15, .null, .null, .int 0, .int 0, .int 0, .null, .null])), (q_1, .inl (cI, 1302, .inl z0)), (q_2, .inl (cZ, 2, .inl z0)), (q_3, .inl (cI, 6, .inl z0)), (q_4, .inl (cI, 6, .inl z0)), (q_5, .inl (cI, 30, .inl z0)), (q_6, .inl (cI, 7, .inl z0)), (q_7, .inl (cI, 7, .inl z0)), (q_8, .inl (cI, 240, .inl z0)), (q_9, .inl (cI, 6, .inl z0)), (q_10, .inl (cI, 6, .inl z0)), (q_11, .inl (cI, 30, .inl z0)), (q_12, .inl (cI, 7, .inl z0)), (q_13, .inl (cI, 7, .inl z0)), (q_14, .inl (cI, 448, .inl z0)), (q_15, .inl (cI, 36, .inl z0))] := hD
  refine lv_aload_n hx hb dX10_init_136 rfl (lv_at hl 0 rfl) ?_
  refine lv_bipush (v := 8) hx hb dX10_init_137 rfl ?_
  refine va_newa (atype := .int) (a0 := (8, .inl z0)) (N' := 8) (ty := .int) hx hb (hts _ wd_8) rfl hK hP hD hS hA (fun cA => z0_int 8 cA) (by decide +kernel) (by decide +kernel) (by decide +kernel) (Nat.le_of_ble_eq_true rfl) (Nat.le_of_ble_eq_true rfl) dX10_init_139 (fun q_16 cA_q_16 H hKn hP hD hS => ?_)
  obtain rfl := (K_int hKn).symm
  have hP : va_P D classes [(h, .inr (10, [.ref q_1, .ref q_2, .int 0, .int 0, .int 1, .int 0, .int 0, .int 0, .ref q_3, .ref q_4, .ref q_5, .ref q_6, .ref q_7, .ref q_8, .int 0, .int 0, .int 0, .int 0, .int 0, .int (-1), .int 0, .int 0, .int 0, .int 0, .int 0, .int 0, .int 0, .ref q_9, .ref q_10, .ref q_11, .ref q_12, .ref q_13, .int 0, .int 0, .int 0, .int 0, .ref q_14, .ref q_15, .null, .null, .int 0, .int 0, .int 0, .null, .null])), (q_1, .inl (cI, 1302, .inl z0)), (q_2, .inl (cZ, 2, .inl z0)), (q_3, .inl (cI, 6, .inl z0)), (q_4, .inl (cI, 6, .inl z0)), (q_5, .inl (cI, 30, .inl z0)), (q_6, .inl (cI, 7, .inl z0)), (q_7, .inl (cI, 7, .inl z0)), (q_8, .inl (cI, 240, .inl z0)), (q_9, .inl (cI, 6, .inl z0)), (q_10, .inl (cI, 6, .inl z0)), (q_11, .inl (cI, 30, .inl z0)), (q_12, .inl (cI, 7, .inl z0)), (q_13, .inl (cI, 7, .inl z0)), (q_14, .inl (cI, 448, .inl z0)), (q_15, .inl (cI, 36, .inl z0)), (q_16, .inl (cI, 8, .inl z0))] H := hP
  have hD : va_D A [(h, .inr (10, [.ref q_1, .ref q_2, .int 0, .int 0, .int 1, .int 0, .int 0, .int 0, .ref q_3, .ref q_4, .ref q_5, .ref q_6, .ref q_7, .ref q_8, .int 0, .int 0, .int 0, .int 0, .int 0, .int (-1), .int 0, .int 0, .int 0, .int 0, .int 0, .int 0, .int 0, .ref q_9, .ref q_10, .ref q_11, .ref q_12, .ref q_13, .int 0, .int 0, .int 0, .int 0, .ref q_14, .ref q_15, .null, .null, .int 0, .int 0, .int 0, .null, .null])), (q_1, .inl (cI, 1302, .inl z0)), (q_2, .inl (cZ, 2, .inl z0)), (q_3, .inl (cI, 6, .inl z0)), (q_4, .inl (cI, 6, .inl z0)), (q_5, .inl (cI, 30, .inl z0)), (q_6, .inl (cI, 7, .inl z0)), (q_7, .inl (cI, 7, .inl z0)), (q_8, .inl (cI, 240, .inl z0)), (q_9, .inl (cI, 6, .inl z0)), (q_10, .inl (cI, 6, .inl z0)), (q_11, .inl (cI, 30, .inl z0)), (q_12, .inl (cI, 7, .inl z0)), (q_13, .inl (cI, 7, .inl z0)), (q_14, .inl (cI, 448, .inl z0)), (q_15, .inl (cI, 36, .inl z0)), (q_16, .inl (cI, 8, .inl z0))] := hD
  refine W.widen (k := 16) (n := 2148) (Nat.le_of_ble_eq_true rfl) (Nat.le_of_ble_eq_true rfl) ?_
  refine va_putF (D := D) (ci := 10) (v := .ref q_16) (ty := (.array .int)) (C := RX10) (T := TX10) (N := 45) hx hb hts iX10 tyX10 tyX10_ok nmX10 hown hK hP hD hS 0 rfl rfl 38 (Nat.le_of_ble_eq_true rfl) (hts _ wd_675) (fun _ h9 => h9) rfl hin rfl (by decide +kernel) rfl rfl (Nat.le_of_ble_eq_true rfl) dX10_init_141 (fun H locs hP hD hS => ?_)
  have hP : va_P D classes [(h, .inr (10, [.ref q_1, .ref q_2, .int 0, .int 0, .int 1, .int 0, .int 0, .int 0, .ref q_3, .ref q_4, .ref q_5, .ref q_6, .ref q_7, .ref q_8, .int 0, .int 0, .int 0, .int 0, .int 0, .int (-1), .int 0, .int 0, .int 0, .int 0, .int 0, .int 0, .int 0, .ref q_9, .ref q_10, .ref q_11, .ref q_12, .ref q_13, .int 0, .int 0, .int 0, .int 0, .ref q_14, .ref q_15, .ref q_16, .null, .int 0, .int 0, .int 0, .null, .null])), (q_1, .inl (cI, 1302, .inl z0)), (q_2, .inl (cZ, 2, .inl z0)), (q_3, .inl (cI, 6, .inl z0)), (q_4, .inl (cI, 6, .inl z0)), (q_5, .inl (cI, 30, .inl z0)), (q_6, .inl (cI, 7, .inl z0)), (q_7, .inl (cI, 7, .inl z0)), (q_8, .inl (cI, 240, .inl z0)), (q_9, .inl (cI, 6, .inl z0)), (q_10, .inl (cI, 6, .inl z0)), (q_11, .inl (cI, 30, .inl z0)), (q_12, .inl (cI, 7, .inl z0)), (q_13, .inl (cI, 7, .inl z0)), (q_14, .inl (cI, 448, .inl z0)), (q_15, .inl (cI, 36, .inl z0)), (q_16, .inl (cI, 8, .inl z0))] H := hP
  have hD : va_D A [(h, .inr (10, [.ref q_1, .ref q_2, .int 0, .int 0, .int 1, .int 0, .int 0, .int 0, .ref q_3, .ref q_4, .ref q_5, .ref q_6, .ref q_7, .ref q_8, .int 0, .int 0, .int 0, .int 0, .int 0, .int (-1), .int 0, .int 0, .int 0, .int 0, .int 0, .int 0, .int 0, .ref q_9, .ref q_10, .ref q_11, .ref q_12, .ref q_13, .int 0, .int 0, .int 0, .int 0, .ref q_14, .ref q_15, .ref q_16, .null, .int 0, .int 0, .int 0, .null, .null])), (q_1, .inl (cI, 1302, .inl z0)), (q_2, .inl (cZ, 2, .inl z0)), (q_3, .inl (cI, 6, .inl z0)), (q_4, .inl (cI, 6, .inl z0)), (q_5, .inl (cI, 30, .inl z0)), (q_6, .inl (cI, 7, .inl z0)), (q_7, .inl (cI, 7, .inl z0)), (q_8, .inl (cI, 240, .inl z0)), (q_9, .inl (cI, 6, .inl z0)), (q_10, .inl (cI, 6, .inl z0)), (q_11, .inl (cI, 30, .inl z0)), (q_12, .inl (cI, 7, .inl z0)), (q_13, .inl (cI, 7, .inl z0)), (q_14, .inl (cI, 448, .inl z0)), (q_15, .inl (cI, 36, .inl z0)), (q_16, .inl (cI, 8, .inl z0))] := hD
  refine lv_aload_n hx hb dX10_init_144 rfl (lv_at hl 0 rfl) ?_
  refine lv_bipush (v := 7) hx hb dX10_init_145 rfl ?_
  refine va_newa (atype := .int) (a0 := (7, .inl z0)) (N' := 7) (ty := .int) hx hb (hts _ wd_8) rfl hK hP hD hS hA (fun cA => z0_int 7 cA) (by decide +kernel) (by decide +kernel) (by decide +kernel) (Nat.le_of_ble_eq_true rfl) (Nat.le_of_ble_eq_true rfl) dX10_init_147 (fun q_17 cA_q_17 H hKn hP hD hS => ?_)
  obtain rfl := (K_int hKn).symm
  have hP : va_P D classes [(h, .inr (10, [.ref q_1, .ref q_2, .int 0, .int 0, .int 1, .int 0, .int 0, .int 0, .ref q_3, .ref q_4, .ref q_5, .ref q_6, .ref q_7, .ref q_8, .int 0, .int 0, .int 0, .int 0, .int 0, .int (-1), .int 0, .int 0, .int 0, .int 0, .int 0, .int 0, .int 0, .ref q_9, .ref q_10, .ref q_11, .ref q_12, .ref q_13, .int 0, .int 0, .int 0, .int 0, .ref q_14, .ref q_15, .ref q_16, .null, .int 0, .int 0, .int 0, .null, .null])), (q_1, .inl (cI, 1302, .inl z0)), (q_2, .inl (cZ, 2, .inl z0)), (q_3, .inl (cI, 6, .inl z0)), (q_4, .inl (cI, 6, .inl z0)), (q_5, .inl (cI, 30, .inl z0)), (q_6, .inl (cI, 7, .inl z0)), (q_7, .inl (cI, 7, .inl z0)), (q_8, .inl (cI, 240, .inl z0)), (q_9, .inl (cI, 6, .inl z0)), (q_10, .inl (cI, 6, .inl z0)), (q_11, .inl (cI, 30, .inl z0)), (q_12, .inl (cI, 7, .inl z0)), (q_13, .inl (cI, 7, .inl z0)), (q_14, .inl (cI, 448, .inl z0)), (q_15, .inl (cI, 36, .inl z0)), (q_16, .inl (cI, 8, .inl z0)), (q_17, .inl (cI, 7, .inl z0))] H := hP
  have hD : va_D A [(h, .inr (10, [.ref q_1, .ref q_2, .int 0, .int 0, .int 1, .int 0, .int 0, .int 0, .ref q_3, .ref q_4, .ref q_5, .ref q_6, .ref q_7, .ref q_8, .int 0, .int 0, .int 0, .int 0, .int 0, .int (-1), .int 0, .int 0, .int 0, .int 0, .int 0, .int 0, .int 0, .ref q_9, .ref q_10, .ref q_11, .ref q_12, .ref q_13, .int 0, .int 0, .int 0, .int 0, .ref q_14, .ref q_15, .ref q_16, .null, .int 0, .int 0, .int 0, .null, .null])), (q_1, .inl (cI, 1302, .inl z0)), (q_2, .inl (cZ, 2, .inl z0)), (q_3, .inl (cI, 6, .inl z0)), (q_4, .inl (cI, 6, .inl z0)), (q_5, .inl (cI, 30, .inl z0)), (q_6, .inl (cI, 7, .inl z0)), (q_7, .inl (cI, 7, .inl z0)), (q_8, .inl (cI, 240, .inl z0)), (q_9, .inl (cI, 6, .inl z0)), (q_10, .inl (cI, 6, .inl z0)), (q_11, .inl (cI, 30, .inl z0)), (q_12, .inl (cI, 7, .inl z0)), (q_13, .inl (cI, 7, .inl z0)), (q_14, .inl (cI, 448, .inl z0)), (q_15, .inl (cI, 36, .inl z0)), (q_16, .inl (cI, 8, .inl z0)), (q_17, .inl (cI, 7, .inl z0))] := hD
  refine W.widen (k := 17) (n := 2155) (Nat.le_of_ble_eq_true rfl) (Nat.le_of_ble_eq_true rfl) ?_
  refine va_putF (D := D) (ci := 10) (v := .ref q_17) (ty := (.array .int)) (C := RX10) (T := TX10) (N := 45) hx hb hts iX10 tyX10 tyX10_ok nmX10 hown hK hP hD hS 0 rfl rfl 39 (Nat.le_of_ble_eq_true rfl) (hts _ wd_676) (fun _ h9 => h9) rfl hin rfl (by decide +kernel) rfl rfl (Nat.le_of_ble_eq_true rfl) dX10_init_149 (fun H locs hP hD hS => ?_)
  have hP : va_P D classes [(h, .inr (10, [.ref q_1, .ref q_2, .int 0, .int 0, .int 1, .int 0, .int 0, .int 0, .ref q_3, .ref q_4, .ref q_5, .ref q_6, .ref q_7, .ref q_8, .int 0, .int 0, .int 0, .int 0, .int 0, .int (-1), .int 0, .int 0, .int 0, .int 0, .int 0, .int 0, .int 0, .ref q_9, .ref q_10, .ref q_11, .ref q_12, .ref q_13, .int 0, .int 0, .int 0, .int 0, .ref q_14, .ref q_15, .ref q_16, .ref q_17, .int 0, .int 0, .int 0, .null, .null])), (q_1, .inl (cI, 1302, .inl z0)), (q_2, .inl (cZ, 2, .inl z0)), (q_3, .inl (cI, 6, .inl z0)), (q_4, .inl (cI, 6, .inl z0)), (q_5, .inl (cI, 30, .inl z0)), (q_6, .inl (cI, 7, .inl z0)), (q_7, .inl (cI, 7, .inl z0)), (q_8, .inl (cI, 240, .inl z0)), (q_9, .inl (cI, 6, .inl z0)), (q_10, .inl (cI, 6, .inl z0)), (q_11, .inl (cI, 30, .inl z0)), (q_12, .inl (cI, 7, .inl z0)), (q_13, .inl (cI, 7, .inl z0)), (q_14, .inl (cI, 448, .inl z0)), (q_15, .inl (cI, 36, .inl z0)), (q_16, .inl (cI, 8, .inl z0)), (q_17, .inl (cI, 7, .inl z0))] H := hP
  have hD : va_D A [(h, .inr (10, [.ref q_1, .ref q_2, .int 0, .int 0, .int 1, .int 0, .int 0, .int 0, .ref q_3, .ref q_4, .ref q_5, .ref q_6, .ref q_7, .ref q_8, .int 0, .int 0, .int 0, .int 0, .int 0, .int (-1), .int 0, .int 0, .int 0, .int 0, .int 0, .int 0, .int 0, .ref q_9, .ref q_10, .ref q_11, .ref q_12, .ref q_13, .int 0, .int 0, .int 0, .int 0, .ref q_14, .ref q_15, .ref q_16, .ref q_17, .int 0, .int 0, .int 0, .null, .null])), (q_1, .inl (cI, 1302, .inl z0)), (q_2, .inl (cZ, 2, .inl z0)), (q_3, .inl (cI, 6, .inl z0)), (q_4, .inl (cI, 6, .inl z0)), (q_5, .inl (cI, 30, .inl z0)), (q_6, .inl (cI, 7, .inl z0)), (q_7, .inl (cI, 7, .inl z0)), (q_8, .inl (cI, 240, .inl z0)), (q_9, .inl (cI, 6, .inl z0)), (q_10, .inl (cI, 6, .inl z0)), (q_11, .inl (cI, 30, .inl z0)), (q_12, .inl (cI, 7, .inl z0)), (q_13, .inl (cI, 7, .inl z0)), (q_14, .inl (cI, 448, .inl z0)), (q_15, .inl (cI, 36, .inl z0)), (q_16, .inl (cI, 8, .inl z0)), (q_17, .inl (cI, 7, .inl z0))] := hD
  refine lv_aload_n hx hb dX10_init_152 rfl (lv_at hl 0 rfl) ?_
  refine lv_bipush (v := 15) hx hb dX10_init_153 rfl ?_
  refine va_newa (atype := .int) (a0 := (15, .inl z0)) (N' := 15) (ty := .int) hx hb (hts _ wd_8) rfl hK hP hD hS hA (fun cA => z0_int 15 cA) (by decide +kernel) (by decide +kernel) (by decide +kernel) (Nat.le_of_ble_eq_true rfl) (Nat.le_of_ble_eq_true rfl) dX10_init_155 (fun q_18 cA_q_18 H hKn hP hD hS => ?_)
  obtain rfl := (K_int hKn).symm
  have hP : va_P D classes [(h, .inr (10, [.ref q_1, .ref q_2, .int 0, .int 0, .int 1, .int 0, .int 0, .int 0, .ref q_3, .ref q_4, .ref q_5, .ref q_6, .ref q_7, .ref q_8, .int 0, .int 0, .int 0, .int 0, .int 0, .int (-1), .int 0, .int 0, .int 0, .int 0, .int 0, .int 0, .int 0, .ref q_9, .ref q_10, .ref q_11, .ref q_12, .ref q_13, .int 0, .int 0, .int 0, .int 0, .ref q_14, .ref q_15, .ref q_16, .ref q_17, .int 0, .int 0, .int 0, .null, .null])), (q_1, .inl (cI, 1302, .inl z0)), (q_2, .inl (cZ, 2, .inl z0)), (q_3, .inl (cI, 6, .inl z0)), (q_4, .inl (cI, 6, .inl z0)), (q_5, .inl (cI, 30, .inl z0)), (q_6, .inl (cI, 7, .inl z0)), (q_7, .inl (cI, 7, .inl z0)), (q_8, .inl (cI, 240, .inl z0)), (q_9, .inl (cI, 6, .inl z0)), (q_10, .inl (cI, 6, .inl z0)), (q_11, .inl (cI, 30, .inl z0)), (q_12, .inl (cI, 7, .inl z0)), (q_13, .inl (cI, 7, .inl z0)), (q_14, .inl (cI, 448, .inl z0)), (q_15, .inl (cI, 36, .inl z0)), (q_16, .inl (cI, 8, .inl z0)), (q_17, .inl (cI, 7, .inl z0)), (q_18, .inl (cI, 15, .inl z0))] H := hP
  have hD : va_D A [(h, .inr (10, [.ref q_1, .ref q_2, .int 0, .int 0, .int 1, .int 0, .int 0, .int 0, .ref q_3, .ref q_4, .ref q_5, .ref q_6, .ref q_7, .ref q_8, .int 0, .int 0, .int 0, .int 0, .int 0, .int (-1), .int 0, .int 0, .int 0, .int 0, .int 0, .int 0, .int 0, .ref q_9, .ref q_10, .ref q_11, .ref q_12, .ref q_13, .int 0, .int 0, .int 0, .int 0, .ref q_14, .ref q_15, .ref q_16, .ref q_17, .int 0, .int 0, .int 0, .null, .null])), (q_1, .inl (cI, 1302, .inl z0)), (q_2, .inl (cZ, 2, .inl z0)), (q_3, .inl (cI, 6, .inl z0)), (q_4, .inl (cI, 6, .inl z0)), (q_5, .inl (cI, 30, .inl z0)), (q_6, .inl (cI, 7, .inl z0)), (q_7, .inl (cI, 7, .inl z0)), (q_8, .inl (cI, 240, .inl z0)), (q_9, .inl (cI, 6, .inl z0)), (q_10, .inl (cI, 6, .inl z0)), (q_11, .inl (cI, 30, .inl z0)), (q_12, .inl (cI, 7, .inl z0)), (q_13, .inl (cI, 7, .inl z0)), (q_14, .inl (cI, 448, .inl z0)), (q_15, .inl (cI, 36, .inl z0)), (q_16, .inl (cI, 8, .inl z0)), (q_17, .inl (cI, 7, .inl z0)), (q_18, .inl (cI, 15, .inl z0))] := hD
  refine W.widen (k := 18) (n := 2170) (Nat.le_of_ble_eq_true rfl) (Nat.le_of_ble_eq_true rfl) ?_
  refine va_putF (D := D) (ci := 10) (v := .ref q_18) (ty := (.array .int)) (C := RX10) (T := TX10) (N := 45) hx hb hts iX10 tyX10 tyX10_ok nmX10 hown hK hP hD hS 0 rfl rfl 43 (Nat.le_of_ble_eq_true rfl) (hts _ wd_610) (fun _ h9 => h9) rfl hin rfl (by decide +kernel) rfl rfl (Nat.le_of_ble_eq_true rfl) dX10_init_157 (fun H locs hP hD hS => ?_)
  have hP : va_P D classes [(h, .inr (10, [.ref q_1, .ref q_2, .int 0, .int 0, .int 1, .int 0, .int 0, .int 0, .ref q_3, .ref q_4, .ref q_5, .ref q_6, .ref q_7, .ref q_8, .int 0, .int 0, .int 0, .int 0, .int 0, .int (-1), .int 0, .int 0, .int 0, .int 0, .int 0, .int 0, .int 0, .ref q_9, .ref q_10, .ref q_11, .ref q_12, .ref q_13, .int 0, .int 0, .int 0, .int 0, .ref q_14, .ref q_15, .ref q_16, .ref q_17, .int 0, .int 0, .int 0, .ref q_18, .null])), (q_1, .inl (cI, 1302, .inl z0)), (q_2, .inl (cZ, 2, .inl z0)), (q_3, .inl (cI, 6, .inl z0)), (q_4, .inl (cI, 6, .inl z0)), (q_5, .inl (cI, 30, .inl z0)), (q_6, .inl (cI, 7, .inl z0)), (q_7, .inl (cI, 7, .inl z0)), (q_8, .inl (cI, 240, .inl z0)), (q_9, .inl (cI, 6, .inl z0)), (q_10, .inl (cI, 6, .inl z0)), (q_11, .inl (cI, 30, .inl z0)), (q_12, .inl (cI, 7, .inl z0)), (q_13, .inl (cI, 7, .inl z0)), (q_14, .inl (cI, 448, .inl z0)), (q_15, .inl (cI, 36, .inl z0)), (q_16, .inl (cI, 8, .inl z0)), (q_17, .inl (cI, 7, .inl z0)), (q_18, .inl (cI, 15, .inl z0))] H := hP
  have hD : va_D A [(h, .inr (10, [.ref q_1, .ref q_2, .int 0, .int 0, .int 1, .int 0, .int 0, .int 0, .ref q_3, .ref q_4, .ref q_5, .ref q_6, .ref q_7, .ref q_8, .int 0, .int 0, .int 0, .int 0, .int 0, .int (-1), .int 0, .int 0, .int 0, .int 0, .int 0, .int 0, .int 0, .ref q_9, .ref q_10, .ref q_11, .ref q_12, .ref q_13, .int 0, .int 0, .int 0, .int 0, .ref q_14, .ref q_15, .ref q_16, .ref q_17, .int 0, .int 0, .int 0, .ref q_18, .null])), (q_1, .inl (cI, 1302, .inl z0)), (q_2, .inl (cZ, 2, .inl z0)), (q_3, .inl (cI, 6, .inl z0)), (q_4, .inl (cI, 6, .inl z0)), (q_5, .inl (cI, 30, .inl z0)), (q_6, .inl (cI, 7, .inl z0)), (q_7, .inl (cI, 7, .inl z0)), (q_8, .inl (cI, 240, .inl z0)), (q_9, .inl (cI, 6, .inl z0)), (q_10, .inl (cI, 6, .inl z0)), (q_11, .inl (cI, 30, .inl z0)), (q_12, .inl (cI, 7, .inl z0)), (q_13, .inl (cI, 7, .inl z0)), (q_14, .inl (cI, 448, .inl z0)), (q_15, .inl (cI, 36, .inl z0)), (q_16, .inl (cI, 8, .inl z0)), (q_17, .inl (cI, 7, .inl z0)), (q_18, .inl (cI, 15, .inl z0))] := hD
  refine lv_aload_n hx hb dX10_init_160 rfl (lv_at hl 0 rfl) ?_
  refine lv_bipush (v := 15) hx hb dX10_init_161 rfl ?_
  refine va_newa (atype := .int) (a0 := (15, .inl z0)) (N' := 15) (ty := .int) hx hb (hts _ wd_8) rfl hK hP hD hS hA (fun cA => z0_int 15 cA) (by decide +kernel) (by decide +kernel) (by decide +kernel) (Nat.le_of_ble_eq_true rfl) (Nat.le_of_ble_eq_true rfl) dX10_init_163 (fun q_19 cA_q_19 H hKn hP hD hS => ?_)
  obtain rfl := (K_int hKn).symm
  have hP : va_P D classes [(h, .inr (10, [.ref q_1, .ref q_2, .int 0, .int 0, .int 1, .int 0, .int 0, .int 0, .ref q_3, .ref q_4, .ref q_5, .ref q_6, .ref q_7, .ref q_8, .int 0, .int 0, .int 0, .int 0, .int 0, .int (-1), .int 0, .int 0, .int 0, .int 0, .int 0, .int 0, .int 0, .ref q_9, .ref q_10, .ref q_11, .ref q_12, .ref q_13, .int 0, .int 0, .int 0, .int 0, .ref q_14, .ref q_15, .ref q_16, .ref q_17, .int 0, .int 0, .int 0, .ref q_18, .null])), (q_1, .inl (cI, 1302, .inl z0)), (q_2, .inl (cZ, 2, .inl z0)), (q_3, .inl (cI, 6, .inl z0)), (q_4, .inl (cI, 6, .inl z0)), (q_5, .inl (cI, 30, .inl z0)), (q_6, .inl (cI, 7, .inl z0)), (q_7, .inl (cI, 7, .inl z0)), (q_8, .inl (cI, 240, .inl z0)), (q_9, .inl (cI, 6, .inl z0)), (q_10, .inl (cI, 6, .inl z0)), (q_11, .inl (cI, 30, .inl z0)), (q_12, .inl (cI, 7, .inl z0)), (q_13, .inl (cI, 7, .inl z0)), (q_14, .inl (cI, 448, .inl z0)), (q_15, .inl (cI, 36, .inl z0)), (q_16, .inl (cI, 8, .inl z0)), (q_17, .inl (cI, 7, .inl z0)), (q_18, .inl (cI, 15, .inl z0)), (q_19, .inl (cI, 15, .inl z0))] H := hP
  have hD : va_D A [(h, .inr (10, [.ref q_1, .ref q_2, .int 0, .int 0, .int 1, .int 0, .int 0, .int 0, .ref q_3, .ref q_4, .ref q_5, .ref q_6, .ref q_7, .ref q_8, .int 0, .int 0, .int 0, .int 0, .int 0, .int (-1), .int 0, .int 0, .int 0, .int 0, .int 0, .int 0, .int 0, .ref q_9, .ref q_10, .ref q_11, .ref q_12, .ref q_13, .int 0, .int 0, .int 0, .int 0, .ref q_14, .ref q_15, .ref q_16, .ref q_17, .int 0, .int 0, .int 0, .ref q_18, .null])), (q_1, .inl (cI, 1302, .inl z0)), (q_2, .inl (cZ, 2, .inl z0)), (q_3, .inl (cI, 6, .inl z0)), (q_4, .inl (cI, 6, .inl z0)), (q_5, .inl (cI, 30, .inl z0)), (q_6, .inl (cI, 7, .inl z0)), (q_7, .inl (cI, 7, .inl z0)), (q_8, .inl (cI, 240, .inl z0)), (q_9, .inl (cI, 6, .inl z0)), (q_10, .inl (cI, 6, .inl z0)), (q_11, .inl (cI, 30, .inl z0)), (q_12, .inl (cI, 7, .inl z0)), (q_13, .inl (cI, 7, .inl z0)), (q_14, .inl (cI, 448, .inl z0)), (q_15, .inl (cI, 36, .inl z0)), (q_16, .inl (cI, 8, .inl z0)), (q_17, .inl (cI, 7, .inl z0)), (q_18, .inl (cI, 15, .inl z0)), (q_19, .inl (cI, 15, .inl z0))] := hD
  refine W.widen (k := 19) (n := 2185) (Nat.le_of_ble_eq_true rfl) (Nat.le_of_ble_eq_true rfl) ?_
  refine va_putF (D := D) (ci := 10) (v := .ref q_19) (ty := (.array .int)) (C := RX10) (T := TX10) (N := 45) hx hb hts iX10 tyX10 tyX10_ok nmX10 hown hK hP hD hS 0 rfl rfl 44 (Nat.le_of_ble_eq_true rfl) (hts _ wd_611) (fun _ h9 => h9) rfl hin rfl (by decide +kernel) rfl rfl (Nat.le_of_ble_eq_true rfl) dX10_init_165 (fun H locs hP hD hS => ?_)
  have hP : va_P D classes [(h, .inr (10, [.ref q_1, .ref q_2, .int 0, .int 0, .int 1, .int 0, .int 0, .int 0, .ref q_3, .ref q_4, .ref q_5, .ref q_6, .ref q_7, .ref q_8, .int 0, .int 0, .int 0, .int 0, .int 0, .int (-1), .int 0, .int 0, .int 0, .int 0, .int 0, .int 0, .int 0, .ref q_9, .ref q_10, .ref q_11, .ref q_12, .ref q_13, .int 0, .int 0, .int 0, .int 0, .ref q_14, .ref q_15, .ref q_16, .ref q_17, .int 0, .int 0, .int 0, .ref q_18, .ref q_19])), (q_1, .inl (cI, 1302, .inl z0)), (q_2, .inl (cZ, 2, .inl z0)), (q_3, .inl (cI, 6, .inl z0)), (q_4, .inl (cI, 6, .inl z0)), (q_5, .inl (cI, 30, .inl z0)), (q_6, .inl (cI, 7, .inl z0)), (q_7, .inl (cI, 7, .inl z0)), (q_8, .inl (cI, 240, .inl z0)), (q_9, .inl (cI, 6, .inl z0)), (q_10, .inl (cI, 6, .inl z0)), (q_11, .inl (cI, 30, .inl z0)), (q_12, .inl (cI, 7, .inl z0)), (q_13, .inl (cI, 7, .inl z0)), (q_14, .inl (cI, 448, .inl z0)), (q_15, .inl (cI, 36, .inl z0)), (q_16, .inl (cI, 8, .inl z0)), (q_17, .inl (cI, 7, .inl z0)), (q_18, .inl (cI, 15, .inl z0)), (q_19, .inl (cI, 15, .inl z0))] H := hP
  have hD : va_D A [(h, .inr (10, [.ref q_1, .ref q_2, .int 0, .int 0, .int 1, .int 0, .int 0, .int 0, .ref q_3, .ref q_4, .ref q_5, .ref q_6, .ref q_7, .ref q_8, .int 0, .int 0, .int 0, .int 0, .int 0, .int (-1), .int 0, .int 0, .int 0, .int 0, .int 0, .int 0, .int 0, .ref q_9, .ref q_10, .ref q_11, .ref q_12, .ref q_13, .int 0, .int 0, .int 0, .int 0, .ref q_14, .ref q_15, .ref q_16, .ref q_17, .int 0, .int 0, .int 0, .ref q_18, .ref q_19])), (q_1, .inl (cI, 1302, .inl z0)), (q_2, .inl (cZ, 2, .inl z0)), (q_3, .inl (cI, 6, .inl z0)), (q_4, .inl (cI, 6, .inl z0)), (q_5, .inl (cI, 30, .inl z0)), (q_6, .inl (cI, 7, .inl z0)), (q_7, .inl (cI, 7, .inl z0)), (q_8, .inl (cI, 240, .inl z0)), (q_9, .inl (cI, 6, .inl z0)), (q_10, .inl (cI, 6, .inl z0)), (q_11, .inl (cI, 30, .inl z0)), (q_12, .inl (cI, 7, .inl z0)), (q_13, .inl (cI, 7, .inl z0)), (q_14, .inl (cI, 448, .inl z0)), (q_15, .inl (cI, 36, .inl z0)), (q_16, .inl (cI, 8, .inl z0)), (q_17, .inl (cI, 7, .inl z0)), (q_18, .inl (cI, 15, .inl z0)), (q_19, .inl (cI, 15, .inl z0))] := hD
  refine lv_aload_n hx hb dX10_init_168 rfl (lv_at hl 0 rfl) ?_
  refine cVv (wr := [(q_2, .inl (cZ, 2, .inl z0)), (q_3, .inl (cI, 6, .inl z0)), (q_4, .inl (cI, 6, .inl z0)), (q_5, .inl (cI, 30, .inl z0)), (q_6, .inl (cI, 7, .inl z0)), (q_7, .inl (cI, 7, .inl z0)), (q_8, .inl (cI, 240, .inl z0)), (q_9, .inl (cI, 6, .inl z0)), (q_10, .inl (cI, 6, .inl z0)), (q_11, .inl (cI, 30, .inl z0)), (q_12, .inl (cI, 7, .inl z0)), (q_13, .inl (cI, 7, .inl z0)), (q_14, .inl (cI, 448, .inl z0)), (q_15, .inl (cI, 36, .inl z0)), (q_16, .inl (cI, 8, .inl z0)), (q_17, .inl (cI, 7, .inl z0)), (q_18, .inl (cI, 15, .inl z0)), (q_19, .inl (cI, 15, .inl z0))]) (rest := []) (k_begins h q_1 q_2 q_3 q_4 q_5 q_6 q_7 q_8 q_9 q_10 q_11 q_12 q_13 q_14 q_15 q_16 q_17 q_18 q_19 0 0 1 0 0 0 0 0 0 0 (-1) 0 0 0 0 0 0 0 0 0 0 0 0 0 0 z0) okV_X10_begins wd_681 hx hb hml hown hts hK hP hD hS hA hN hl.1 [0, 1] [2, 3, 4, 5, 6, 7, 8, 9, 10, 11, 12, 13, 14, 15, 16, 17, 18, 19] rfl rfl rfl rfl (of_decide_eq_true rfl) rfl rfl rfl (Nat.le_of_ble_eq_true rfl) (Nat.le_of_ble_eq_true rfl) (Nat.le_of_ble_eq_true rfl) (Nat.le_of_ble_eq_true rfl) (Nat.le_of_ble_eq_true rfl) dX10_init_169 (fun u_20 H locs hw_u_20 hP hD hS => ?_)
  have hP : va_P D classes [(q_2, .inl (cZ, 2, .inl z0)), (q_3, .inl (cI, 6, .inl z0)), (q_4, .inl (cI, 6, .inl z0)), (q_5, .inl (cI, 30, .inl z0)), (q_6, .inl (cI, 7, .inl z0)), (q_7, .inl (cI, 7, .inl z0)), (q_8, .inl (cI, 240, .inl z0)), (q_9, .inl (cI, 6, .inl z0)), (q_10, .inl (cI, 6, .inl z0)), (q_11, .inl (cI, 30, .inl z0)), (q_12, .inl (cI, 7, .inl z0)), (q_13, .inl (cI, 7, .inl z0)), (q_14, .inl (cI, 448, .inl z0)), (q_15, .inl (cI, 36, .inl z0)), (q_16, .inl (cI, 8, .inl z0)), (q_17, .inl (cI, 7, .inl z0)), (q_18, .inl (cI, 15, .inl z0)), (q_19, .inl (cI, 15, .inl z0)), (h, .inr (10, [.ref q_1, .ref q_2, .int 0, .int 0, .int 1, .int 0, .int 0, .int 0, .ref q_3, .ref q_4, .ref q_5, .ref q_6, .ref q_7, .ref q_8, .int 0, .int 0, .int 0, .int 0, .int 0, .int (-1), .int 0, .int 0, .int 0, .int 0, .int 0, .int 0, .int 0, .ref q_9, .ref q_10, .ref q_11, .ref q_12, .ref q_13, .int 0, .int 0, .int 0, .int 0, .ref q_14, .ref q_15, .ref q_16, .ref q_17, .int 0, .int 0, .int 0, .ref q_18, .ref q_19])), (q_1, .inl (cI, 1302, .inl (upd (wC z0 7) (41 : Int32).toNatClampNeg (z0 (41 : Int32).toNatClampNeg))))] H := hP
  have hD : va_D A [(q_2, .inl (cZ, 2, .inl z0)), (q_3, .inl (cI, 6, .inl z0)), (q_4, .inl (cI, 6, .inl z0)), (q_5, .inl (cI, 30, .inl z0)), (q_6, .inl (cI, 7, .inl z0)), (q_7, .inl (cI, 7, .inl z0)), (q_8, .inl (cI, 240, .inl z0)), (q_9, .inl (cI, 6, .inl z0)), (q_10, .inl (cI, 6, .inl z0)), (q_11, .inl (cI, 30, .inl z0)), (q_12, .inl (cI, 7, .inl z0)), (q_13, .inl (cI, 7, .inl z0)), (q_14, .inl (cI, 448, .inl z0)), (q_15, .inl (cI, 36, .inl z0)), (q_16, .inl (cI, 8, .inl z0)), (q_17, .inl (cI, 7, .inl z0)), (q_18, .inl (cI, 15, .inl z0)), (q_19, .inl (cI, 15, .inl z0)), (h, .inr (10, [.ref q_1, .ref q_2, .int 0, .int 0, .int 1, .int 0, .int 0, .int 0, .ref q_3, .ref q_4, .ref q_5, .ref q_6, .ref q_7, .ref q_8, .int 0, .int 0, .int 0, .int 0, .int 0, .int (-1), .int 0, .int 0, .int 0, .int 0, .int 0, .int 0, .int 0, .ref q_9, .ref q_10, .ref q_11, .ref q_12, .ref q_13, .int 0, .int 0, .int 0, .int 0, .ref q_14, .ref q_15, .ref q_16, .ref q_17, .int 0, .int 0, .int 0, .ref q_18, .ref q_19])), (q_1, .inl (cI, 1302, .inl (upd (wC z0 7) (41 : Int32).toNatClampNeg (z0 (41 : Int32).toNatClampNeg))))] := hD
  refine W.widen (k := rm_k_M_init.cells) (n := rm_k_M_init.slots) (Nat.le_of_ble_eq_true rfl) (Nat.le_of_ble_eq_true rfl) ?_
  exact hret ⟨q_1, q_2, q_3, q_4, q_5, q_6, q_7, q_8, q_9, q_10, q_11, q_12, q_13, q_14, q_15, q_16, q_17, q_18, q_19⟩ _ _ _ _ dX10_init_172 trivial hP hD hS
end
section
theorem permP {D : va_G} {ws ws' : va_W} {H : Heap} (h : List.Perm ws ws') (hP : va_P D classes ws H) : va_P D classes ws' H := by
  intro k q hk
  obtain ⟨i, hi⟩ := List.mem_iff_getElem?.mp (h.mem_iff.mpr (List.mem_of_getElem? hk))
  exact hP i q hi
theorem va_D_cons {A : Nat → Prop} {a : Nat × va_E} {ws : va_W} : va_D A (a :: ws) ↔ (∀ q ∈ ws, a.1 ≠ q.1) ∧ A a.1 ∧ va_D A ws := by
  constructor
  · intro h
    refine ⟨fun q hq e => ?_, h.2 0 a rfl, fun i j p q hi hj e => Nat.succ.inj (h.1 (i + 1) (j + 1) p q hi hj e), fun k q hk => h.2 (k + 1) q hk⟩
    obtain ⟨i, hi⟩ := List.mem_iff_getElem?.mp hq
    exact absurd (h.1 0 (i + 1) a q rfl hi e) (by omega)
  · intro h
    refine ⟨fun i j p q hi hj e => ?_, fun k q hk => ?_⟩
    · cases i with
      | zero =>
        cases hi
        cases j with
        | zero => rfl
        | succ j => exact absurd e (h.1 q (List.mem_of_getElem? (show ws[j]? = some q from hj)))
      | succ i =>
        cases j with
        | zero =>
          cases hj
          exact absurd e.symm (h.1 p (List.mem_of_getElem? (show ws[i]? = some p from hi)))
        | succ j => exact congrArg Nat.succ (h.2.2.1 i j p q hi hj e)
    · cases k with
      | zero => cases hk; exact h.2.1
      | succ k => exact h.2.2.2 k q hk
theorem permD {A : Nat → Prop} {ws ws' : va_W} (h : List.Perm ws ws') : va_D A ws → va_D A ws' := by
  induction h with
  | nil => exact id
  | cons x p ih =>
    intro h
    rw [va_D_cons] at h ⊢
    exact ⟨fun q hq => h.1 q (p.mem_iff.mpr hq), h.2.1, ih h.2.2⟩
  | swap x y l =>
    intro h
    rw [va_D_cons, va_D_cons] at h ⊢
    obtain ⟨h1, h2, h3, h4, h5⟩ := h
    refine ⟨fun q hq => ?_, h4, fun q hq => h1 q (List.mem_cons_of_mem _ hq), h2, h5⟩
    rcases List.mem_cons.mp hq with e | e
    · rw [e]
      exact (h1 x List.mem_cons_self).symm
    · exact h3 q e
  | trans p1 p2 ih1 ih2 => exact fun h => ih2 (ih1 h)
/-- the cell at i comes first -/
noncomputable def mv (ws : va_W) : Nat → va_W := List.rec (motive := fun _ => Nat → va_W) (fun _ => []) (fun a l ih i => Nat.rec (motive := fun _ => va_W) (a :: l) (fun j _ => List.rec (motive := fun _ => va_W) [a] (fun q r _ => q :: a :: r) (ih j)) i) ws
theorem mv_perm (ws : va_W) : ∀ i, List.Perm (mv ws i) ws := by
  induction ws with
  | nil => intro i; exact List.Perm.refl _
  | cons a l ih =>
    intro i
    cases i with
    | zero => exact List.Perm.refl _
    | succ j =>
      show List.Perm (List.rec (motive := fun _ => va_W) [a] (fun q r _ => q :: a :: r) (mv l j)) (a :: l)
      have h := ih j
      cases hm : mv l j with
      | nil =>
        rw [hm] at h
        have := h.symm.eq_nil
        subst this
        exact List.Perm.refl _
      | cons q r =>
        rw [hm] at h
        exact (List.Perm.swap a q r).trans (h.cons a)
noncomputable def mvs (is : List Nat) : va_W → va_W := List.rec (motive := fun _ => va_W → va_W) (fun ws => ws) (fun i _ ih ws => List.rec (motive := fun _ => va_W) [] (fun q r _ => q :: ih r) (mv ws i)) is
theorem mvs_perm (is : List Nat) : ∀ ws, List.Perm (mvs is ws) ws := by
  induction is with
  | nil => intro ws; exact List.Perm.refl _
  | cons i is ih =>
    intro ws
    show List.Perm (List.rec (motive := fun _ => va_W) [] (fun q r _ => q :: mvs is r) (mv ws i)) ws
    have h := mv_perm ws i
    cases hm : mv ws i with
    | nil => rw [hm] at h; exact h
    | cons q r =>
      rw [hm] at h
      exact ((ih r).cons q).trans h
theorem rot {a b c : va_W} : List.Perm ((c ++ a) ++ b) (a ++ (b ++ c)) := by
  rw [List.append_assoc, ← List.append_assoc a b c]
  exact List.perm_append_comm
theorem takeP {D : va_G} {a b : va_W} {H : Heap} (h : va_P D classes (a ++ b) H) : va_P D classes a H := fun k q hk => h k q (by rw [List.getElem?_append_left (List.getElem?_eq_some_iff.mp hk).1]; exact hk)
theorem takeD {A : Nat → Prop} {a b : va_W} (h : va_D A (a ++ b)) : va_D A a := by
  have g : ∀ (k : Nat) (q : Nat × va_E), a[k]? = some q → (a ++ b)[k]? = some q := fun k q hk => by
    rw [List.getElem?_append_left (List.getElem?_eq_some_iff.mp hk).1]
    exact hk
  exact ⟨fun i j p q hi hj e => h.1 i j p q (g i p hi) (g j q hj) e, fun k q hk => h.2 k q (g k q hk)⟩
def rfL (l : List Nat) (k : Nat) : Nat := l.getD k 0
theorem mapC (a b : va_W) : (List.range' 0 a.length).map (fun i => (a ++ b)[i]?) = a.map some := by
  apply List.ext_getElem?
  intro i
  rw [List.getElem?_map, List.getElem?_map]
  by_cases h : i < a.length
  · rw [List.getElem?_range' h, List.getElem?_eq_getElem h]
    simp [List.getElem?_append_left h, List.getElem?_eq_getElem h]
  · rw [List.getElem?_eq_none (by rw [List.length_range']; omega), List.getElem?_eq_none (by omega)]
    rfl
theorem mapR (a b : va_W) : (List.range' a.length b.length).map (fun i => (a ++ b)[i]?) = b.map some := by
  apply List.ext_getElem?
  intro i
  rw [List.getElem?_map, List.getElem?_map]
  by_cases h : i < b.length
  · rw [List.getElem?_range' h, List.getElem?_eq_getElem h]
    simp [List.getElem?_append_right, List.getElem?_eq_getElem h]
  · rw [List.getElem?_eq_none (by rw [List.length_range']; omega), List.getElem?_eq_none (by omega)]
    rfl
theorem nd_range (n : Nat) : ∀ k, va_nd (List.range' k n) = true := by
  induction n with
  | zero => intro k; rfl
  | succ n ih =>
    intro k
    rw [List.range'_succ]
    simp only [va_nd, Bool.and_eq_true, decide_eq_true_eq]
    refine ⟨fun h => ?_, ih _⟩
    have := List.mem_range'_1.mp h
    omega
section CALLA
variable {p : Program} {l : Launch} {e : Env} {R : Room} {s : State} {m : MethodId} {args : Array Value} {below : List Frame} {meth : Method} {c : Code} {H H0 : Heap} {locs : List Loc} {cells slots : Nat} {Q : State → Prop} {D : va_G} {cI cZ : ClassId} {A : Nat → Prop} {wc wr : va_W} {rm : Room} {pc : Nat} {ls : Array Slot} {st0 rest : List Value} {S : Type} {cc : ByteArray} {own : String} {y : MethodName} {bytes : ByteArray} {maxL nL index : Nat} {ret : Option FieldType} {As : List Value} {b : Nat}
theorem cVa {post : Int32 → S → Prop} {w1 : S → va_W} (hM : KI l y bytes maxL ret rm D cI cZ (.ref b :: As) H.size wc post w1) (ok : okV y bytes maxL ret As.length) (hlink : Cond.methodLink own index y ∈ BG) (hx : p.tables.exec = Jvm.exec) (hb : c.code = cc) (hml : c.maxLocals = nL) (hown : s.vm.findClass own = some m.cls) (hts : ∀ w ∈ BG, w.before args s = true) (hK : va_K D classes (TYS cI cZ) s) (hP : va_P D classes (wc ++ wr) H) (hD : va_D A (wc ++ wr)) (hS : va_S A H0 H locs) (hA : ∀ q, H0.size ≤ q → A q) (hN : zN s) (hsz : ls.size = nL) {ci : Nat} {fs : List Value} {T : u_T} {N : Nat} (hrec : wc[0]? = some (b, .inr (ci, fs))) (hcl : classes[ci]? = some (y.cls, T, N)) (hst : st0 = As.reverse ++ .ref b :: rest) (hroom : (rest.map fun v => v.category).sum ≤ 8) (hR1 : rm.frames + 1 ≤ R.frames) (hR2 : 8 + (maxL + 11) + rm.locals ≤ R.locals) (hR3 : cells + rm.cells ≤ R.cells) (hR4 : slots + rm.slots ≤ R.slots) (hdg : decode cc pc = .ok (.invokevirtual index, 3))
    (kk : ∀ (r : Int32) (u : S) (H1 : Heap) (locs1 : List Loc), post r u → va_P D classes (wr ++ w1 u) H1 → va_D A (wr ++ w1 u) → va_S A H0 H1 locs1 → W p l e R s m args below meth c H1 locs1 (cells + rm.cells) (slots + rm.slots) Q (F0 m (pc + 3) ls (.int r :: rest))) : W p l e R s m args below meth c H locs cells slots Q (F0 m pc ls st0) :=
  cVi hM ok hlink hx hb hml hown hts hK hP hD hS hA hN hsz (List.range' 0 wc.length) (List.range' wc.length wr.length) (mapC wc wr) (mapR wc wr) (nd_range _ _) (nd_range _ _) (fun i hi hj => by
    have h1 := List.mem_range'_1.mp hi
    have h2 := List.mem_range'_1.mp hj
    omega) hrec hcl hst hroom hR1 hR2 hR3 hR4 hdg kk
end CALLA
def IW (cI cZ : ClassId) (xh yh : Nat) (v_x : Nat) (v_q1 : Int32) (v_q2 : Int32) (v_rd : Nat) (v_t : Nat) (v_d : Nat) (v_nw : Nat) (v_ps : Nat) (v_im : Nat) (v_is_ : Nat) (v_q10 : Int32) (v_bk : Nat) (v_q12 : Int32) (v_qr : Nat) (v_pr : Nat) (v_cv : Nat) (v_ft : Nat) (v_ftx : Nat → Int32) (v_r0 : Int32) (v_r1 : Int32) (v_u0 : Nat) (v_r3 : Int32) (v_r4 : Int32) (v_r5 : Int32) (v_r6 : Int32) (v_t0 : Int32) (v_t1 : Int32) (v_t2 : Int32) (v_t3 : Int32) (v_t4 : Int32) (v_ta : Nat) (v_tb : Nat) (v_tc : Nat) (v_td : Nat) (v_te : Nat) (v_fta : Nat → Int32) (v_ftb : Nat → Int32) (v_ftc : Nat → Int32) (v_ftd : Nat → Int32) (v_fte : Nat → Int32) (v_d0 : Int32) (v_d1 : Int32) (v_d2 : Int32) (v_d3 : Int32) (v_d4 : Int32) (v_da : Nat) (v_db : Nat) (v_dc : Nat) (v_dd : Nat) (v_de : Nat) (v_fda : Nat → Int32) (v_fdb : Nat → Int32) (v_fdc : Nat → Int32) (v_fdd : Nat → Int32) (v_fde : Nat → Int32) (v_nwc : Nat) (v_fn : Nat → Int32) (v_sh : Nat) (v_p1 : Int32) (v_p2 : Int32) (v_shc : Nat) (v_fsh : Nat → Int32) (v_imc : Nat) (v_fim : Nat → Int32) (v_fis : Nat → Int32) (v_b0 : Int32) (v_bka : Nat) (v_bkb : Nat) (v_fba : Nat → Int32) (v_fbb : Nat → Int32) (v_k0 : Int32) (v_k1 : Int32) (v_k2 : Int32) (v_k3 : Int32) (v_k4 : Int32) (v_pra : Nat) (v_prb : Nat) (v_prc : Nat) (v_fpa : Nat → Int32) (v_fpb : Nat → Int32) (v_fpc : Nat → Int32) (v_v0 : Int32) (v_c1 : Nat) (v_c2 : Nat) (v_c3 : Nat) (v_c4 : Nat) (v_c5 : Nat) (v_c6 : Nat) (v_v7 : Int32) (v_v8 : Int32) (v_cvt : Value) (v_fc1 : Nat → Int32) (v_fc2 : Nat → Int32) (v_fc3 : Nat → Int32) (v_fc4 : Nat → Int32) (v_fc5 : Nat → Int32) (v_fc6 : Nat → Int32) (v_fft : Nat → Int32) (Rf : Nat → Nat) (G : Nat → Int32) (f0 : Nat → Int32) (f1 : Nat → Int32) (f8 : Nat → Int32) (f9 : Nat → Int32) (f10 : Nat → Int32) (f11 : Nat → Int32) (f12 : Nat → Int32) (f13 : Nat → Int32) (f27 : Nat → Int32) (f28 : Nat → Int32) (f29 : Nat → Int32) (f30 : Nat → Int32) (f31 : Nat → Int32) (f36 : Nat → Int32) (f37 : Nat → Int32) (f38 : Nat → Int32) (f39 : Nat → Int32) (f43 : Nat → Int32) (f44 : Nat → Int32) : va_W := [(xh, .inr (9, [.ref v_x, .int v_q1, .int v_q2, .ref v_rd, .ref v_t, .ref v_d, .ref v_nw, .ref v_ps, .ref v_im, .ref v_is_, .int v_q10, .ref v_bk, .int v_q12, .ref v_qr, .ref v_pr, .ref v_cv, .ref v_ft])), (v_x, .inl (cI, 240, .inl v_ftx)), (v_rd, .inr (5, [.int v_r0, .int v_r1, .ref v_u0, .int v_r3, .int v_r4, .int v_r5, .int v_r6])), (v_t, .inr (8, [.int v_t0, .int v_t1, .int v_t2, .int v_t3, .int v_t4, .ref v_ta, .ref v_tb, .ref v_tc, .ref v_td, .ref v_te])), (v_ta, .inl (cI, 6, .inl v_fta)), (v_tb, .inl (cI, 6, .inl v_ftb)), (v_tc, .inl (cI, 30, .inl v_ftc)), (v_td, .inl (cI, 7, .inl v_ftd)), (v_te, .inl (cI, 7, .inl v_fte)), (v_d, .inr (8, [.int v_d0, .int v_d1, .int v_d2, .int v_d3, .int v_d4, .ref v_da, .ref v_db, .ref v_dc, .ref v_dd, .ref v_de])), (v_da, .inl (cI, 6, .inl v_fda)), (v_db, .inl (cI, 6, .inl v_fdb)), (v_dc, .inl (cI, 30, .inl v_fdc)), (v_dd, .inl (cI, 7, .inl v_fdd)), (v_de, .inl (cI, 7, .inl v_fde)), (v_nw, .inr (7, [.ref v_nwc])), (v_nwc, .inl (cI, 41, .inl v_fn)), (v_ps, .inr (2, [.ref v_sh, .int v_p1, .int v_p2])), (v_sh, .inr (6, [.int 20, .ref v_shc])), (v_shc, .inl (cI, 820, .inl v_fsh)), (v_im, .inr (6, [.int 2, .ref v_imc])), (v_imc, .inl (cI, 82, .inl v_fim)), (v_is_, .inl (cI, 2, .inl v_fis)), (v_bk, .inr (0, [.int v_b0, .ref v_bka, .ref v_bkb])), (v_bka, .inl (cI, 15, .inl v_fba)), (v_bkb, .inl (cI, 15, .inl v_fbb)), (v_qr, .inr (4, [.int v_k0, .int v_k1, .int v_k2, .int v_k3, .int v_k4])), (v_pr, .inr (3, [.ref v_pra, .ref v_prb, .ref v_prc])), (v_pra, .inl (cI, 36, .inl v_fpa)), (v_prb, .inl (cI, 64, .inl v_fpb)), (v_prc, .inl (cI, 64, .inl v_fpc)), (v_cv, .inr (1, [.int v_v0, .ref v_c1, .ref v_c2, .ref v_c3, .ref v_c4, .ref v_c5, .ref v_c6, .int v_v7, .int v_v8, v_cvt])), (v_c1, .inl (cI, 7, .inl v_fc1)), (v_c2, .inl (cI, 6, .inl v_fc2)), (v_c3, .inl (cI, 48, .inl v_fc3)), (v_c4, .inl (cI, 128, .inl v_fc4)), (v_c5, .inl (cI, 128, .inl v_fc5)), (v_c6, .inl (cI, 128, .inl v_fc6)), (v_ft, .inl (cI, 30, .inl v_fft)), (yh, .inr (10, ML G Rf)), ((Rf 0), .inl (cI, 1302, .inl f0)), ((Rf 1), .inl (cZ, 2, .inl f1)), ((Rf 8), .inl (cI, 6, .inl f8)), ((Rf 9), .inl (cI, 6, .inl f9)), ((Rf 10), .inl (cI, 30, .inl f10)), ((Rf 11), .inl (cI, 7, .inl f11)), ((Rf 12), .inl (cI, 7, .inl f12)), ((Rf 13), .inl (cI, 240, .inl f13)), ((Rf 27), .inl (cI, 6, .inl f27)), ((Rf 28), .inl (cI, 6, .inl f28)), ((Rf 29), .inl (cI, 30, .inl f29)), ((Rf 30), .inl (cI, 7, .inl f30)), ((Rf 31), .inl (cI, 7, .inl f31)), ((Rf 36), .inl (cI, 448, .inl f36)), ((Rf 37), .inl (cI, 36, .inl f37)), ((Rf 38), .inl (cI, 8, .inl f38)), ((Rf 39), .inl (cI, 7, .inl f39)), ((Rf 43), .inl (cI, 15, .inl f43)), ((Rf 44), .inl (cI, 15, .inl f44))]
theorem keep_eq {q1 q2 q10 q12 p1 p2 i_ r r' : Int32} {fim fis fn G f0 f1 : Nat → Int32} {u : Int32 × (Nat → Int32) × (Nat → Int32) × Int32} {u' : (Nat → Int32) × (Nat → Int32) × (Nat → Int32)} (h1 : (r, u) = f_e_keep_x9 q1 q2 q10 q12 fim fis fn p1 p2 i_) (h2 : (r', u') = f_m_keep G f0 f1 i_) : r = r' := by
  unfold f_e_keep_x9 at h1
  unfold f_m_keep at h2
  by_cases c1 : f_m_in i_.toInt64 0 1 = 0
  · rw [if_pos c1] at h2
    have e2 := congrArg Prod.fst h2
    rw [i_in, Int32.toInt_toInt64] at c1
    simp only [Int64.reduceToInt] at c1
    by_cases c2 : i_ < 0
    · rw [if_pos c2] at h1
      exact (congrArg Prod.fst h1).trans e2.symm
    · rw [if_neg c2] at h1
      by_cases c3 : i_ < 2
      · simp only [i_lt, Int32.reduceToInt] at c2 c3
        omega
      · rw [if_neg c3] at h1
        exact (congrArg Prod.fst h1).trans e2.symm
  · rw [if_neg c1] at h2
    have e2 := congrArg Prod.fst h2
    rw [i_in, Int32.toInt_toInt64] at c1
    simp only [Int64.reduceToInt] at c1
    by_cases c2 : i_ < 0
    · simp only [i_lt, Int32.reduceToInt] at c2
      omega
    · rw [if_neg c2] at h1
      by_cases c3 : i_ < 2
      · rw [if_pos c3] at h1
        exact (congrArg Prod.fst h1).trans e2.symm
      · simp only [i_lt, Int32.reduceToInt] at c2 c3
        omega
theorem town_td {t : Nat} {d : Nat} {q1 : Int32} {q2 : Int32} {q10 : Int32} {q12 : Int32} {r0 : Int32} {r1 : Int32} {r3 : Int32} {r4 : Int32} {r5 : Int32} {r6 : Int32} {ftx : Nat → Int32} {d0 : Int32} {d1 : Int32} {d2 : Int32} {d3 : Int32} {d4 : Int32} {fda : Nat → Int32} {fdb : Nat → Int32} {fdc : Nat → Int32} {fdd : Nat → Int32} {fde : Nat → Int32} {fn : Nat → Int32} {p1 : Int32} {p2 : Int32} {b0 : Int32} {r : Int32} {o0 : Int32} {o1 : Int32} {o2 : Nat} {o3 : Nat} {o4 : Int32} {o5 : Int32} {o6 : Int32} {o7 : Int32} {o8 : Int32} {o9 : Int32} {o10 : Int32} {o11 : Int32} {o12 : Int32} {o13 : Int32} {o14 : Int32} {o15 : Int32} {o16 : (Nat → Int32)} {o17 : (Nat → Int32)} {o18 : (Nat → Int32)} {o19 : (Nat → Int32)} {o20 : (Nat → Int32)} {o21 : (Nat → Int32)} {o22 : Int32} {o23 : Int32} (e : (r, o0, o1, o2, o3, o4, o5, o6, o7, o8, o9, o10, o11, o12, o13, o14, o15, o16, o17, o18, o19, o20, o21, o22, o23) = f_e_town_x9 t d q1 q2 q10 q12 r0 r1 r3 r4 r5 r6 ftx d0 d1 d2 d3 d4 fda fdb fdc fdd fde fn p1 p2 b0) : (d = o2 ∧ t = o3) ∨ (t = o2 ∧ d = o3) := by
  unfold f_e_town_x9 at e
  generalize f_e_read_x5 _ _ _ _ _ _ _ _ _ _ _ _ _ _ _ _ _ _ = z at e
  obtain ⟨z0, z1, z2, z3, z4, z5, z6, z7, z8, z9, z10, z11, z12, z13, z14, z15⟩ := z
  dsimp only at e
  split at e
  · simp only [Prod.mk.injEq] at e
    obtain ⟨yr, y0, y1, y2, y3, y4, y5, y6, y7, y8, y9, y10, y11, y12, y13, y14, y15, y16, y17, y18, y19, y20, y21, y22, y23⟩ := e
    exact Or.inl ⟨y2.symm, y3.symm⟩
  · simp only [Prod.mk.injEq] at e
    obtain ⟨yr, y0, y1, y2, y3, y4, y5, y6, y7, y8, y9, y10, y11, y12, y13, y14, y15, y16, y17, y18, y19, y20, y21, y22, y23⟩ := e
    exact Or.inr ⟨y2.symm, y3.symm⟩
def G00 : Nat → Int32 := fun k => if k = 4 then 1 else if k = 19 then -1 else 0
theorem GI_00 : GI G00 := by
  unfold GI
  decide
theorem WI_z0 : WI z0 := fun _ => OKv.z
theorem RI_z0 : RI z0 := fun _ => by
  show 0 ≤ (0 : Int32).toInt ∧ (0 : Int32).toInt ≤ 5
  decide
theorem WI_fillZ (n : Nat) : WI (fillZ z0 n) := by
  induction n with
  | zero => exact WI_z0
  | succ n ih => exact WI_upd ih OKv.z
theorem ix_nI (a k : Nat) (h : a + k < 2 ^ 31) : (nI a + nI k).toNatClampNeg = a + k := by
  rw [nI_add, nI_clamp h]
theorem WI_wB (k : Nat) (hk : k ≤ 6) : WI (wB z0 k) := by
  induction k with
  | zero => exact WI_fillZ 42
  | succ k ih =>
    refine WI_upd (WI_upd (ih (by omega)) OKv.z) (OKv.out ?_)
    have := ix_nI 6 k (by omega)
    rw [show (6 : Int32) = nI 6 from rfl, this]
    omega
theorem WI_wC (k : Nat) (hk : k ≤ 7) : WI (wC z0 k) := by
  induction k with
  | zero => exact WI_wB 6 (by omega)
  | succ k ih =>
    refine WI_upd (WI_upd (ih (by omega)) (OKv.out ?_)) (OKv.out ?_)
    · have := ix_nI 27 k (by omega)
      rw [show (27 : Int32) = nI 27 from rfl, this]
      omega
    · have := ix_nI 34 k (by omega)
      rw [show (34 : Int32) = nI 34 from rfl, this]
      omega
theorem WI_w0 : WI (upd (wC z0 7) (41 : Int32).toNatClampNeg (z0 (41 : Int32).toNatClampNeg)) := WI_upd (WI_wC 7 (by omega)) (WI_z0 _)
theorem AG_00 (x y : Nat → Int32) (lo hi : Int) : AG x y (0 : Int32).toInt lo hi := fun k hk => absurd (show (k : Int) < 0 from hk) (by omega)
theorem RS_00 : RS 0 (-1) z0 z0 0 1 0 0 0 z0 z0 z0 z0 z0 z0 z0 z0 z0 z0 0 z0 z0 z0 z0 G00 := ⟨⟨rfl, rfl, rfl⟩, ⟨rfl, rfl, rfl, rfl, rfl, by decide, Or.inl rfl, AG_00 _ _ _ _, AG_00 _ _ _ _, fun c t hc _ => absurd (show (c : Int) < 0 from hc) (by omega), AG_00 _ _ _ _, AG_00 _ _ _ _⟩, ⟨rfl, rfl, rfl⟩⟩
theorem W00_v : ∀ i : Fin 42, upd (wC z0 7) (41 : Int32).toNatClampNeg (z0 (41 : Int32).toNatClampNeg) i.val = (if i.val < 6 then 0 else if i.val < 12 then -1 else if i.val < 27 then 0 else if i.val < 41 then -1 else 0) := by decide +kernel
theorem W00_s : ∀ i : Fin 41, cB2 z0 7 i.val = upd (wC z0 7) (41 : Int32).toNatClampNeg (z0 (41 : Int32).toNatClampNeg) (cx i.val) := by decide +kernel
theorem DY_00 : DY 0 0 0 0 (cB2 z0 7) z0 z0 z0 z0 G00 (upd (wC z0 7) (41 : Int32).toNatClampNeg (z0 (41 : Int32).toNatClampNeg)) := by
  have hs := W00_s
  have hv := W00_v
  generalize upd (wC z0 7) (41 : Int32).toNatClampNeg (z0 (41 : Int32).toNatClampNeg) = W at hs hv
  have v : ∀ k : Nat, k < 42 → W k = (if k < 6 then 0 else if k < 12 then -1 else if k < 27 then 0 else if k < 41 then -1 else 0) := fun k hk => hv ⟨k, hk⟩
  refine ⟨⟨fun i hi => ?_, ?_, ?_⟩, UR_nil (G := G00) (by decide) (by decide) rfl, IR_0 rfl rfl⟩
  · rw [Nat.zero_add, Nat.zero_add]
    exact hs ⟨i, hi⟩
  · unfold BI
    simp only [Nat.zero_add]
    have a : ∀ c : Nat, c < 6 → W c = 0 := fun c hc => by rw [v c (by omega), if_pos hc]
    have b : ∀ c : Nat, c < 6 → W (6 + c) = -1 := fun c hc => by rw [v _ (by omega), if_neg (by omega), if_pos (by omega)]
    have m : ∀ k : Nat, 12 ≤ k → k < 27 → W k = 0 := fun k h1 h2 => by rw [v k (by omega), if_neg (by omega), if_neg (by omega), if_pos h2]
    have t : ∀ k : Nat, 27 ≤ k → k < 41 → W k = -1 := fun k h1 h2 => by rw [v k (by omega), if_neg (by omega), if_neg (by omega), if_neg (by omega), if_pos h2]
    refine ⟨fun c hc => by rw [a c hc]; decide, fun c hc _ => ⟨a c hc, b c hc⟩, fun c hc => by rw [b c hc]; decide, fun c d hc hd _ _ => b c hc, fun c hc => by rw [m _ (by omega) (by omega)]; decide, fun c h0 h1 hh => ?_, fun v' hv _ => ⟨t _ (by omega) (by omega), t _ (by omega) (by omega)⟩, fun v' hv _ => m _ (by omega) (by omega), by rw [m 18 (by decide) (by decide)]; decide⟩
    exact a _ (clN h0 h1)
  · rw [v 41 (by decide)]
    rfl
end
section
def fw_cL_law : List (List Nat) := [[187, 0, 7, 89, 183, 0, 9, 76, 187, 0, 10, 89, 183, 0, 12, 77, 3, 62], [3, 62, 29, 42, 190, 8, 100, 163, 3, 230, 42, 29, 46, 16, 31, 126, 170, 0], [170, 0, 0, 0, 0, 0, 3, 215, 0, 0, 0, 0, 0, 0, 0, 30, 0, 0], [0, 0, 0, 140, 0, 0, 0, 163, 0, 0, 0, 176, 0, 0, 0, 189, 0, 0], [0, 0, 0, 212, 0, 0, 0, 245, 0, 0, 1, 22, 0, 0, 1, 55, 0, 0], [0, 0, 1, 88, 0, 0, 1, 131, 0, 0, 1, 154, 0, 0, 1, 177, 0, 0], [0, 0, 1, 210, 0, 0, 1, 233, 0, 0, 1, 246, 0, 0, 2, 43, 0, 0], [0, 0, 2, 76, 0, 0, 2, 109, 0, 0, 2, 132, 0, 0, 2, 175, 0, 0], [0, 0, 2, 208, 0, 0, 2, 221, 0, 0, 2, 244, 0, 0, 3, 21, 0, 0], [0, 0, 3, 64, 0, 0, 3, 87, 0, 0, 3, 120, 0, 0, 3, 133, 0, 0], [0, 0, 3, 146, 0, 0, 3, 169, 0, 0, 3, 192, 43, 42, 29, 4, 96, 46], [96, 46, 182, 0, 13, 87, 44, 42, 29, 4, 96, 46, 182, 0, 17, 87, 167, 3], [167, 3, 55, 43, 182, 0, 18, 87, 44, 182, 0, 22, 87, 167, 3, 42, 43, 182], [43, 182, 0, 23, 87, 44, 182, 0, 26, 87, 167, 3, 29, 43, 42, 29, 4, 96], [4, 96, 46, 182, 0, 27, 87, 44, 42, 29, 4, 96, 46, 182, 0, 30, 87, 167], [87, 167, 3, 6, 43, 42, 29, 4, 96, 46, 42, 29, 5, 96, 46, 182, 0, 31], [0, 31, 87, 44, 42, 29, 4, 96, 46, 42, 29, 5, 96, 46, 182, 0, 35, 87], [35, 87, 167, 2, 229, 43, 42, 29, 4, 96, 46, 42, 29, 5, 96, 46, 182, 0], [182, 0, 36, 87, 44, 42, 29, 4, 96, 46, 42, 29, 5, 96, 46, 182, 0, 39], [0, 39, 87, 167, 2, 196, 43, 42, 29, 4, 96, 46, 42, 29, 5, 96, 46, 182], [46, 182, 0, 40, 87, 44, 42, 29, 4, 96, 46, 42, 29, 5, 96, 46, 182, 0], [182, 0, 43, 87, 167, 2, 163, 43, 42, 29, 4, 96, 46, 42, 29, 5, 96, 46], [96, 46, 182, 0, 44, 87, 44, 42, 29, 4, 96, 46, 42, 29, 5, 96, 46, 182], [46, 182, 0, 47, 87, 167, 2, 130, 43, 42, 29, 4, 96, 46, 42, 29, 5, 96], [5, 96, 46, 42, 29, 6, 96, 46, 182, 0, 48, 87, 44, 42, 29, 4, 96, 46], [96, 46, 42, 29, 5, 96, 46, 42, 29, 6, 96, 46, 182, 0, 52, 87, 167, 2], [167, 2, 87, 43, 42, 29, 4, 96, 46, 182, 0, 53, 87, 44, 42, 29, 4, 96], [4, 96, 46, 182, 0, 56, 87, 167, 2, 64, 43, 42, 29, 4, 96, 46, 182, 0], [182, 0, 57, 87, 44, 42, 29, 4, 96, 46, 182, 0, 60, 87, 167, 2, 41, 43], [41, 43, 42, 29, 4, 96, 46, 42, 29, 5, 96, 46, 182, 0, 61, 87, 44, 42], [44, 42, 29, 4, 96, 46, 42, 29, 5, 96, 46, 182, 0, 64, 87, 167, 2, 8], [2, 8, 43, 42, 29, 4, 96, 46, 182, 0, 65, 87, 44, 42, 29, 4, 96, 46], [96, 46, 182, 0, 68, 87, 167, 1, 241, 43, 182, 0, 69, 87, 44, 182, 0, 72], [0, 72, 87, 167, 1, 228, 43, 42, 29, 4, 96, 46, 42, 29, 5, 96, 46, 42], [46, 42, 29, 6, 96, 46, 42, 29, 7, 96, 46, 182, 0, 73, 87, 44, 42, 29], [42, 29, 4, 96, 46, 42, 29, 5, 96, 46, 42, 29, 6, 96, 46, 42, 29, 7], [29, 7, 96, 46, 182, 0, 77, 87, 167, 1, 175, 43, 42, 29, 4, 96, 46, 42], [46, 42, 29, 5, 96, 46, 182, 0, 78, 87, 44, 42, 29, 4, 96, 46, 42, 29], [42, 29, 5, 96, 46, 182, 0, 81, 87, 167, 1, 142, 43, 42, 29, 4, 96, 46], [96, 46, 42, 29, 5, 96, 46, 182, 0, 82, 87, 44, 42, 29, 4, 96, 46, 42], [46, 42, 29, 5, 96, 46, 182, 0, 85, 87, 167, 1, 109, 43, 42, 29, 4, 96], [4, 96, 46, 182, 0, 86, 87, 44, 42, 29, 4, 96, 46, 182, 0, 89, 87, 167], [87, 167, 1, 86, 43, 42, 29, 4, 96, 46, 42, 29, 5, 96, 46, 42, 29, 6], [29, 6, 96, 46, 182, 0, 90, 87, 44, 42, 29, 4, 96, 46, 42, 29, 5, 96], [5, 96, 46, 42, 29, 6, 96, 46, 182, 0, 93, 87, 167, 1, 43, 43, 42, 29], [42, 29, 4, 96, 46, 42, 29, 5, 96, 46, 182, 0, 94, 87, 44, 42, 29, 4], [29, 4, 96, 46, 42, 29, 5, 96, 46, 182, 0, 97, 87, 167, 1, 10, 43, 182], [43, 182, 0, 98, 87, 44, 182, 0, 101, 87, 167, 0, 253, 43, 42, 29, 4, 96], [4, 96, 46, 182, 0, 102, 87, 44, 42, 29, 4, 96, 46, 182, 0, 105, 87, 167], [87, 167, 0, 230, 43, 42, 29, 4, 96, 46, 42, 29, 5, 96, 46, 182, 0, 106], [0, 106, 87, 44, 42, 29, 4, 96, 46, 42, 29, 5, 96, 46, 182, 0, 109, 87], [109, 87, 167, 0, 197, 43, 42, 29, 4, 96, 46, 42, 29, 5, 96, 46, 42, 29], [42, 29, 6, 96, 46, 182, 0, 110, 87, 44, 42, 29, 4, 96, 46, 42, 29, 5], [29, 5, 96, 46, 42, 29, 6, 96, 46, 182, 0, 113, 87, 167, 0, 154, 43, 42], [43, 42, 29, 4, 96, 46, 182, 0, 114, 87, 44, 42, 29, 4, 96, 46, 182, 0], [182, 0, 117, 87, 167, 0, 131, 43, 42, 29, 4, 96, 46, 42, 29, 5, 96, 46], [96, 46, 182, 0, 118, 87, 44, 42, 29, 4, 96, 46, 42, 29, 5, 96, 46, 182], [46, 182, 0, 121, 87, 167, 0, 98, 43, 182, 0, 122, 87, 44, 182, 0, 125, 87], [125, 87, 167, 0, 85, 43, 182, 0, 126, 87, 44, 182, 0, 129, 87, 167, 0, 72], [0, 72, 43, 42, 29, 4, 96, 46, 182, 0, 130, 44, 42, 29, 4, 96, 46, 182], [46, 182, 0, 133, 159, 0, 51, 3, 172, 43, 42, 29, 4, 96, 46, 182, 0, 134], [0, 134, 87, 44, 42, 29, 4, 96, 46, 182, 0, 137, 87, 167, 0, 26, 43, 42], [43, 42, 29, 4, 96, 46, 182, 0, 138, 87, 44, 42, 29, 4, 96, 46, 182, 0], [182, 0, 141, 87, 167, 0, 3, 132, 3, 5, 167, 252, 24, 4, 172]]
theorem fW_cL_law : fq_wins 64 cL_law.data.toList = fw_cL_law := by decide +kernel
theorem fk_cL_law_63 : fq_ck cL_law 1008 [182, 0, 141, 87, 167, 0, 3, 132, 3, 5, 167, 252, 24, 4, 172] := fq_of fW_cL_law 63 rfl rfl
theorem dL_law_1021 : decode cL_law 1021 = .ok (.iconst 1, 1) := fq_4 fk_cL_law_63 13 rfl rfl
theorem dL_law_1022 : decode cL_law 1022 = .ok (.ireturn, 1) := fq_172 fk_cL_law_63 14 rfl rfl
/-! THE CLAIM OUT OF ONE WALK OF THE LAW'S BODY. Your part is whole_start (and what it stands on); all else here is the same for every law, but numbers. -/
def R_law : String := "QuarrelBridgesLaw"
def lw_P (b : Addr) (xs : List Int32) (args : Array Value) (s : State) : Prop := args = #[.ref b] ∧ s.IntsAt b xs ∧ xs.length ≤ 320 ∧ (Jvm.Cond.and given_1 narrow_1).before args s = true
def lw_Q (_ : Array Value) (s : State) (o : Outcome) (t : State) : Prop := o = .returned (some (.int 1)) ∧ Framed s o t [] 600000 7302250
def lw_Z (below : List Frame) (a : Array Value) (s : State) : State → Prop := fun t => ∃ o, t.status = .running ∧ Ended t below o ∧ lw_Q a s o t
/-- the law's own end, with 1 on the stack, nothing written that was there before, its room as the claim has it -/
theorem lw_ret {p : Program} {l : Launch} {e : Env} {s : State} {m : MethodId} {below : List Frame} {meth : Method} {c : Code} {b : Nat} (hx : p.tables.exec = Jvm.exec) (hb : c.code = code) (hr : meth.sig.returnType = ret) (hlocks : meth.locks = false) {pc : Nat} {H : Heap} {ls : Array Slot} (hdg : decode code pc = .ok (.ireturn, 1)) : W p l e room_1 s m #[Value.ref b] below meth c H [] 600000 7302250 (lw_Z below #[Value.ref b] s) (F0 m pc ls [.int 1]) := by
  intro T hT X
  obtain ⟨fs, hret, hrun, hended, hW, hframe⟩ := X.leave (v := some (.int 1)) (hlocks := hlocks) (fun h => by rw [hr] at h; cases h)
  have hmeth' : T.vm.method? m = some meth := X.method'
  refine ⟨T.setFrames fs, ?_, .returned (some (.int 1)), hrun, hended, rfl, ⟨_, rfl⟩, hW, hframe⟩
  jvm_step X.here [X.here.top, hx, hb, hdg, hmeth', hr, ret, narrow_b1]
  (try refine ⟨rfl, ?_⟩); (try refine ⟨rfl, ?_⟩)
  first | (intro acts; rw [hret _ acts rfl rfl rfl]) | rw [hret _ _ rfl rfl rfl]
  exact Steps.refl _
/-- what holds at the law's entry: the machine, the code, the tables' words (any of lw_tbl by 'hts w (by decide +kernel)'), the script of L ints xs at the cell b, what the Statement gives of the start (any of its parts by flat_of_before) -/
def lw_At (p : Program) (s : State) (m : MethodId) (meth : Method) (c : Code) (b L : Nat) (xs : Nat → Int32) : Prop :=
  p.tables.exec = Jvm.exec ∧ c.code = code ∧ meth.sig.returnType = ret ∧ c.maxLocals = 4 ∧ s.vm.findClass R_law = some m.cls ∧ (∀ w ∈ lw_tbl, w.before #[Value.ref b] s = true) ∧ va_X b L xs s s.heap ∧ b < s.heap.size ∧ meth.locks = false ∧ (Jvm.Cond.and given_1 narrow_1).before #[Value.ref b] s = true
abbrev lw_A (s : State) : Nat → Prop := fun q => s.heap.size ≤ q
/-- what the law has at hand -/
def lw_C (p : Program) (s : State) (m : MethodId) (meth : Method) (c : Code) (b L : Nat) (xs : Nat → Int32) : Prop :=
  p.tables.exec = Jvm.exec ∧ c.code = cL_law ∧ meth.sig.returnType = ret ∧ c.maxLocals = 4 ∧ s.vm.findClass RL = some m.cls ∧ (∀ w ∈ BG, w.before #[Value.ref b] s = true) ∧ va_X b L xs s s.heap ∧ b < s.heap.size ∧ meth.locks = false ∧ zN s
theorem lw_C.of {p : Program} {s : State} {m : MethodId} {meth : Method} {c : Code} {b L : Nat} {xs : Nat → Int32} (h : lw_At p s m meth c b L xs) : lw_C p s m meth c b L xs :=
  ⟨h.1, h.2.1, h.2.2.1, h.2.2.2.1, h.2.2.2.2.1, fun w hw => h.2.2.2.2.2.1 w (BG_tbl hw), h.2.2.2.2.2.2.1, h.2.2.2.2.2.2.2.1, h.2.2.2.2.2.2.2.2.1, fun q hq => va_Nw.of rfl (h.2.2.2.2.2.1 _ (NM_tbl q hq))⟩
theorem and31 (v : Int32) : ∃ k : Nat, k < 32 ∧ v &&& 31 = nI k := by
  refine ⟨(v.toBitVec &&& 31#32).toNat, ?_, ?_⟩
  · rw [BitVec.toNat_and]
    exact Nat.lt_of_le_of_lt Nat.and_le_right (by decide)
  · apply Int32.toBitVec_inj.mp
    show v.toBitVec &&& 31#32 = (Int32.ofNat (v.toBitVec &&& 31#32).toNat).toBitVec
    rw [Int32.toBitVec_ofNat', BitVec.ofNat_toNat, BitVec.setWidth_eq]
theorem sc_in {iv : Int32} {L : Nat} (k : Int32) (hk : 0 ≤ k.toInt ∧ k.toInt ≤ 4) (h0 : 0 ≤ iv.toInt) (h1 : iv.toInt + 5 ≤ L) (hL : L ≤ 320) : ¬ ((iv + k) < 0 ∨ L ≤ (iv + k).toNatClampNeg) := by
  have e : (iv + k).toInt = iv.toInt + k.toInt := by
    simp (disch := omega) only [Int32.toInt_add, bm32]
  rw [i_lt, i_clamp, e]
  simp only [Int32.reduceToInt]
  omega
theorem sc_in0 {iv : Int32} {L : Nat} (h0 : 0 ≤ iv.toInt) (h1 : iv.toInt + 5 ≤ L) : ¬ (iv < 0 ∨ L ≤ iv.toNatClampNeg) := by
  rw [i_lt, i_clamp]
  simp only [Int32.reduceToInt]
  omega
theorem sc_len {iv : Int32} {L : Nat} (hL : L ≤ 320) (h0 : 0 ≤ iv.toInt) (c : ¬ (Int32.ofNat L - 5) < iv) : iv.toInt + 5 ≤ L := by
  have e1 : (Int32.ofNat L).toInt = (L : Int) := nI_toInt (n := L) (by omega)
  have e : (Int32.ofNat L - 5).toInt = (L : Int) - 5 := by
    simp (disch := omega) only [Int32.toInt_sub, e1, bm32, Int32.reduceToInt]
  rw [i_lt, e] at c
  omega
set_option maxHeartbeats 4000000 in
set_option maxRecDepth 100000 in
theorem law_end {p : Program} {l : Launch} {e : Env} {s : State} {m : MethodId} {below : List Frame} {meth : Method} {c : Code} {b : Nat} {xs : Nat → Int32} {L : Nat} (C0 : lw_C p s m meth c b L xs) {H : Heap} {locs : List Loc} {ls : Array Slot} (hS : va_S (lw_A s) s.heap H locs) : W p l e room_1 s m #[Value.ref b] below meth c H locs 60 4269 (lw_Z below #[Value.ref b] s) (F0 m 1021 ls []) := by
  obtain ⟨hx, hb, hr, hml, hown, hts, hX, hbl, hlocks, hN⟩ := C0
  have hA : ∀ q, s.heap.size ≤ q → lw_A s q := fun _ h => h
  have hbA : ¬ lw_A s b := Nat.not_le.mpr hbl
  refine lv_iconst (v := 1) hx hb dL_law_1021 rfl ?_
  refine va_forget (fun q hq => hS.2.2 q hq) ?_
  refine W.widen (k := 600000) (n := 7302250) (Nat.le_of_ble_eq_true rfl) (Nat.le_of_ble_eq_true rfl) ?_
  exact lw_ret hx hb hr hlocks dL_law_1022
end
section
theorem fk_cL_law_10 : fq_ck cL_law 160 [0, 0, 3, 146, 0, 0, 3, 169, 0, 0, 3, 192, 43, 42, 29, 4, 96, 46] := fq_of fW_cL_law 10 rfl rfl
theorem dL_law_172 : decode cL_law 172 = .ok (.aload_n 1, 1) := fq_43 fk_cL_law_10 12 rfl rfl
theorem dL_law_173 : decode cL_law 173 = .ok (.aload_n 0, 1) := fq_42 fk_cL_law_10 13 rfl rfl
theorem dL_law_174 : decode cL_law 174 = .ok (.iload_n 3, 1) := fq_29 fk_cL_law_10 14 rfl rfl
theorem dL_law_175 : decode cL_law 175 = .ok (.iconst 1, 1) := fq_4 fk_cL_law_10 15 rfl rfl
theorem fk_cL_law_11 : fq_ck cL_law 176 [96, 46, 182, 0, 13, 87, 44, 42, 29, 4, 96, 46, 182, 0, 17, 87, 167, 3] := fq_of fW_cL_law 11 rfl rfl
theorem dL_law_176 : decode cL_law 176 = .ok (.iadd, 1) := fq_96 fk_cL_law_11 0 rfl rfl
theorem dL_law_177 : decode cL_law 177 = .ok (.iaload, 1) := fq_46 fk_cL_law_11 1 rfl rfl
theorem dL_law_178 : decode cL_law 178 = .ok (.invokevirtual 13, 3) := fq_182 fk_cL_law_11 2 rfl rfl rfl rfl rfl
theorem wd_696 : Cond.methodLink RL 13 yX9_feed ∈ BG := BG_at2 87 (by decide +kernel) rfl
theorem wd_697 : Cond.code yX9_feed cX9_feed 2 (some .int) ∈ BG := BG_at2 90 rfl rfl
theorem wd_698 : Cond.instanceMethod yX9_feed ∈ BG := BG_at2 88 (by decide +kernel) rfl
theorem wd_699 : Cond.selects RX9 yX9_feed yX9_feed ∈ BG := BG_at2 89 (by decide +kernel) rfl
theorem okV_X9_feed : okV yX9_feed cX9_feed 2 (some .int) 1 := ⟨⟨wd_697, wd_71, by decide +kernel⟩, wd_698, wd_699⟩
theorem dL_law_181 : decode cL_law 181 = .ok (.pop, 1) := fq_87 fk_cL_law_11 5 rfl rfl
theorem dL_law_182 : decode cL_law 182 = .ok (.aload_n 2, 1) := fq_44 fk_cL_law_11 6 rfl rfl
theorem dL_law_183 : decode cL_law 183 = .ok (.aload_n 0, 1) := fq_42 fk_cL_law_11 7 rfl rfl
theorem dL_law_184 : decode cL_law 184 = .ok (.iload_n 3, 1) := fq_29 fk_cL_law_11 8 rfl rfl
theorem dL_law_185 : decode cL_law 185 = .ok (.iconst 1, 1) := fq_4 fk_cL_law_11 9 rfl rfl
theorem dL_law_186 : decode cL_law 186 = .ok (.iadd, 1) := fq_96 fk_cL_law_11 10 rfl rfl
theorem dL_law_187 : decode cL_law 187 = .ok (.iaload, 1) := fq_46 fk_cL_law_11 11 rfl rfl
theorem dL_law_188 : decode cL_law 188 = .ok (.invokevirtual 17, 3) := fq_182 fk_cL_law_11 12 rfl rfl rfl rfl rfl
theorem wd_700 : Cond.methodLink RL 17 yX10_feed ∈ BG := BG_at4 200 (by decide +kernel) rfl
theorem wd_701 : Cond.code yX10_feed cX10_feed 2 (some .int) ∈ BG := BG_at4 203 rfl rfl
theorem wd_702 : Cond.instanceMethod yX10_feed ∈ BG := BG_at4 201 (by decide +kernel) rfl
theorem wd_703 : Cond.selects RX10 yX10_feed yX10_feed ∈ BG := BG_at4 202 (by decide +kernel) rfl
theorem okV_X10_feed : okV yX10_feed cX10_feed 2 (some .int) 1 := ⟨⟨wd_701, wd_497, by decide +kernel⟩, wd_702, wd_703⟩
theorem dL_law_191 : decode cL_law 191 = .ok (.pop, 1) := fq_87 fk_cL_law_11 15 rfl rfl
theorem fk_cL_law_12 : fq_ck cL_law 192 [167, 3, 55, 43, 182, 0, 18, 87, 44, 182, 0, 22, 87, 167, 3, 42, 43, 182] := fq_of fW_cL_law 12 rfl rfl
theorem dL_law_192 : decode cL_law 192 = .ok (.goto 823, 3) := fq_167 fk_cL_law_12 0 rfl rfl rfl rfl rfl
theorem dL_law_195 : decode cL_law 195 = .ok (.aload_n 1, 1) := fq_43 fk_cL_law_12 3 rfl rfl
theorem dL_law_196 : decode cL_law 196 = .ok (.invokevirtual 18, 3) := fq_182 fk_cL_law_12 4 rfl rfl rfl rfl rfl
theorem wd_704 : Cond.methodLink RL 18 yX9_town ∈ BG := BG_at2 94 (by decide +kernel) rfl
theorem wd_705 : Cond.code yX9_town cX9_town 2 (some .int) ∈ BG := BG_at2 97 rfl rfl
theorem wd_706 : Cond.instanceMethod yX9_town ∈ BG := BG_at2 95 (by decide +kernel) rfl
theorem wd_707 : Cond.selects RX9 yX9_town yX9_town ∈ BG := BG_at2 96 (by decide +kernel) rfl
theorem okV_X9_town : okV yX9_town cX9_town 2 (some .int) 0 := ⟨⟨wd_705, wd_71, by decide +kernel⟩, wd_706, wd_707⟩
theorem dL_law_199 : decode cL_law 199 = .ok (.pop, 1) := fq_87 fk_cL_law_12 7 rfl rfl
theorem dL_law_200 : decode cL_law 200 = .ok (.aload_n 2, 1) := fq_44 fk_cL_law_12 8 rfl rfl
theorem dL_law_201 : decode cL_law 201 = .ok (.invokevirtual 22, 3) := fq_182 fk_cL_law_12 9 rfl rfl rfl rfl rfl
theorem wd_708 : Cond.methodLink RL 22 yX10_town ∈ BG := BG_at4 210 (by decide +kernel) rfl
theorem wd_709 : Cond.code yX10_town cX10_town 3 (some .int) ∈ BG := BG_at4 213 rfl rfl
theorem wd_710 : Cond.instanceMethod yX10_town ∈ BG := BG_at4 211 (by decide +kernel) rfl
theorem wd_711 : Cond.selects RX10 yX10_town yX10_town ∈ BG := BG_at4 212 (by decide +kernel) rfl
theorem okV_X10_town : okV yX10_town cX10_town 3 (some .int) 0 := ⟨⟨wd_709, wd_497, by decide +kernel⟩, wd_710, wd_711⟩
theorem dL_law_204 : decode cL_law 204 = .ok (.pop, 1) := fq_87 fk_cL_law_12 12 rfl rfl
theorem dL_law_205 : decode cL_law 205 = .ok (.goto 810, 3) := fq_167 fk_cL_law_12 13 rfl rfl rfl rfl rfl
theorem fk_cL_law_13 : fq_ck cL_law 208 [43, 182, 0, 23, 87, 44, 182, 0, 26, 87, 167, 3, 29, 43, 42, 29, 4, 96] := fq_of fW_cL_law 13 rfl rfl
theorem dL_law_208 : decode cL_law 208 = .ok (.aload_n 1, 1) := fq_43 fk_cL_law_13 0 rfl rfl
theorem dL_law_209 : decode cL_law 209 = .ok (.invokevirtual 23, 3) := fq_182 fk_cL_law_13 1 rfl rfl rfl rfl rfl
theorem wd_712 : Cond.methodLink RL 23 yX9_fault ∈ BG := BG_at2 159 (by decide +kernel) rfl
theorem wd_713 : Cond.code yX9_fault cX9_fault 1 (some .int) ∈ BG := BG_at2 162 rfl rfl
theorem wd_714 : Cond.instanceMethod yX9_fault ∈ BG := BG_at2 160 (by decide +kernel) rfl
theorem wd_715 : Cond.selects RX9 yX9_fault yX9_fault ∈ BG := BG_at2 161 (by decide +kernel) rfl
theorem okV_X9_fault : okV yX9_fault cX9_fault 1 (some .int) 0 := ⟨⟨wd_713, wd_71, by decide +kernel⟩, wd_714, wd_715⟩
theorem dL_law_212 : decode cL_law 212 = .ok (.pop, 1) := fq_87 fk_cL_law_13 4 rfl rfl
theorem dL_law_213 : decode cL_law 213 = .ok (.aload_n 2, 1) := fq_44 fk_cL_law_13 5 rfl rfl
theorem dL_law_214 : decode cL_law 214 = .ok (.invokevirtual 26, 3) := fq_182 fk_cL_law_13 6 rfl rfl rfl rfl rfl
theorem wd_716 : Cond.methodLink RL 26 yX10_fault ∈ BG := BG_at5 20 (by decide +kernel) rfl
theorem wd_717 : Cond.code yX10_fault cX10_fault 1 (some .int) ∈ BG := BG_at5 23 rfl rfl
theorem wd_718 : Cond.instanceMethod yX10_fault ∈ BG := BG_at5 21 (by decide +kernel) rfl
theorem wd_719 : Cond.selects RX10 yX10_fault yX10_fault ∈ BG := BG_at5 22 (by decide +kernel) rfl
theorem okV_X10_fault : okV yX10_fault cX10_fault 1 (some .int) 0 := ⟨⟨wd_717, wd_497, by decide +kernel⟩, wd_718, wd_719⟩
theorem dL_law_217 : decode cL_law 217 = .ok (.pop, 1) := fq_87 fk_cL_law_13 9 rfl rfl
theorem dL_law_218 : decode cL_law 218 = .ok (.goto 797, 3) := fq_167 fk_cL_law_13 10 rfl rfl rfl rfl rfl
theorem dL_law_221 : decode cL_law 221 = .ok (.aload_n 1, 1) := fq_43 fk_cL_law_13 13 rfl rfl
theorem dL_law_222 : decode cL_law 222 = .ok (.aload_n 0, 1) := fq_42 fk_cL_law_13 14 rfl rfl
theorem dL_law_223 : decode cL_law 223 = .ok (.iload_n 3, 1) := fq_29 fk_cL_law_13 15 rfl rfl
theorem fk_cL_law_14 : fq_ck cL_law 224 [4, 96, 46, 182, 0, 27, 87, 44, 42, 29, 4, 96, 46, 182, 0, 30, 87, 167] := fq_of fW_cL_law 14 rfl rfl
theorem dL_law_224 : decode cL_law 224 = .ok (.iconst 1, 1) := fq_4 fk_cL_law_14 0 rfl rfl
theorem dL_law_225 : decode cL_law 225 = .ok (.iadd, 1) := fq_96 fk_cL_law_14 1 rfl rfl
theorem dL_law_226 : decode cL_law 226 = .ok (.iaload, 1) := fq_46 fk_cL_law_14 2 rfl rfl
theorem dL_law_227 : decode cL_law 227 = .ok (.invokevirtual 27, 3) := fq_182 fk_cL_law_14 3 rfl rfl rfl rfl rfl
theorem wd_720 : Cond.methodLink RL 27 yX9_told ∈ BG := BG_at2 163 (by decide +kernel) rfl
theorem wd_721 : Cond.code yX9_told cX9_told 2 (some .int) ∈ BG := BG_at2 166 rfl rfl
theorem wd_722 : Cond.instanceMethod yX9_told ∈ BG := BG_at2 164 (by decide +kernel) rfl
theorem wd_723 : Cond.selects RX9 yX9_told yX9_told ∈ BG := BG_at2 165 (by decide +kernel) rfl
theorem okV_X9_told : okV yX9_told cX9_told 2 (some .int) 1 := ⟨⟨wd_721, wd_71, by decide +kernel⟩, wd_722, wd_723⟩
theorem dL_law_230 : decode cL_law 230 = .ok (.pop, 1) := fq_87 fk_cL_law_14 6 rfl rfl
theorem dL_law_231 : decode cL_law 231 = .ok (.aload_n 2, 1) := fq_44 fk_cL_law_14 7 rfl rfl
theorem dL_law_232 : decode cL_law 232 = .ok (.aload_n 0, 1) := fq_42 fk_cL_law_14 8 rfl rfl
theorem dL_law_233 : decode cL_law 233 = .ok (.iload_n 3, 1) := fq_29 fk_cL_law_14 9 rfl rfl
theorem dL_law_234 : decode cL_law 234 = .ok (.iconst 1, 1) := fq_4 fk_cL_law_14 10 rfl rfl
theorem dL_law_235 : decode cL_law 235 = .ok (.iadd, 1) := fq_96 fk_cL_law_14 11 rfl rfl
theorem dL_law_236 : decode cL_law 236 = .ok (.iaload, 1) := fq_46 fk_cL_law_14 12 rfl rfl
theorem dL_law_237 : decode cL_law 237 = .ok (.invokevirtual 30, 3) := fq_182 fk_cL_law_14 13 rfl rfl rfl rfl rfl
theorem wd_724 : Cond.methodLink RL 30 yX10_told ∈ BG := BG_at5 24 (by decide +kernel) rfl
theorem wd_725 : Cond.code yX10_told cX10_told 2 (some .int) ∈ BG := BG_at5 27 rfl rfl
theorem wd_726 : Cond.instanceMethod yX10_told ∈ BG := BG_at5 25 (by decide +kernel) rfl
theorem wd_727 : Cond.selects RX10 yX10_told yX10_told ∈ BG := BG_at5 26 (by decide +kernel) rfl
theorem okV_X10_told : okV yX10_told cX10_told 2 (some .int) 1 := ⟨⟨wd_725, wd_497, by decide +kernel⟩, wd_726, wd_727⟩
theorem fk_cL_law_15 : fq_ck cL_law 240 [87, 167, 3, 6, 43, 42, 29, 4, 96, 46, 42, 29, 5, 96, 46, 182, 0, 31] := fq_of fW_cL_law 15 rfl rfl
theorem dL_law_240 : decode cL_law 240 = .ok (.pop, 1) := fq_87 fk_cL_law_15 0 rfl rfl
theorem dL_law_241 : decode cL_law 241 = .ok (.goto 774, 3) := fq_167 fk_cL_law_15 1 rfl rfl rfl rfl rfl
theorem dL_law_244 : decode cL_law 244 = .ok (.aload_n 1, 1) := fq_43 fk_cL_law_15 4 rfl rfl
theorem dL_law_245 : decode cL_law 245 = .ok (.aload_n 0, 1) := fq_42 fk_cL_law_15 5 rfl rfl
theorem dL_law_246 : decode cL_law 246 = .ok (.iload_n 3, 1) := fq_29 fk_cL_law_15 6 rfl rfl
theorem dL_law_247 : decode cL_law 247 = .ok (.iconst 1, 1) := fq_4 fk_cL_law_15 7 rfl rfl
theorem dL_law_248 : decode cL_law 248 = .ok (.iadd, 1) := fq_96 fk_cL_law_15 8 rfl rfl
theorem dL_law_249 : decode cL_law 249 = .ok (.iaload, 1) := fq_46 fk_cL_law_15 9 rfl rfl
theorem dL_law_250 : decode cL_law 250 = .ok (.aload_n 0, 1) := fq_42 fk_cL_law_15 10 rfl rfl
theorem dL_law_251 : decode cL_law 251 = .ok (.iload_n 3, 1) := fq_29 fk_cL_law_15 11 rfl rfl
theorem dL_law_252 : decode cL_law 252 = .ok (.iconst 2, 1) := fq_5 fk_cL_law_15 12 rfl rfl
theorem dL_law_253 : decode cL_law 253 = .ok (.iadd, 1) := fq_96 fk_cL_law_15 13 rfl rfl
theorem dL_law_254 : decode cL_law 254 = .ok (.iaload, 1) := fq_46 fk_cL_law_15 14 rfl rfl
theorem dL_law_255 : decode cL_law 255 = .ok (.invokevirtual 31, 3) := fq_182 fk_cL_law_15 15 rfl rfl rfl rfl rfl
theorem wd_728 : Cond.methodLink RL 31 yX9_bridge ∈ BG := BG_at2 195 (by decide +kernel) rfl
theorem wd_729 : Cond.code yX9_bridge cX9_bridge 3 (some .int) ∈ BG := BG_at2 198 rfl rfl
theorem wd_730 : Cond.instanceMethod yX9_bridge ∈ BG := BG_at2 196 (by decide +kernel) rfl
theorem wd_731 : Cond.selects RX9 yX9_bridge yX9_bridge ∈ BG := BG_at2 197 (by decide +kernel) rfl
theorem okV_X9_bridge : okV yX9_bridge cX9_bridge 3 (some .int) 2 := ⟨⟨wd_729, wd_71, by decide +kernel⟩, wd_730, wd_731⟩
theorem fk_cL_law_16 : fq_ck cL_law 256 [0, 31, 87, 44, 42, 29, 4, 96, 46, 42, 29, 5, 96, 46, 182, 0, 35, 87] := fq_of fW_cL_law 16 rfl rfl
theorem dL_law_258 : decode cL_law 258 = .ok (.pop, 1) := fq_87 fk_cL_law_16 2 rfl rfl
theorem dL_law_259 : decode cL_law 259 = .ok (.aload_n 2, 1) := fq_44 fk_cL_law_16 3 rfl rfl
theorem dL_law_260 : decode cL_law 260 = .ok (.aload_n 0, 1) := fq_42 fk_cL_law_16 4 rfl rfl
theorem dL_law_261 : decode cL_law 261 = .ok (.iload_n 3, 1) := fq_29 fk_cL_law_16 5 rfl rfl
theorem dL_law_262 : decode cL_law 262 = .ok (.iconst 1, 1) := fq_4 fk_cL_law_16 6 rfl rfl
theorem dL_law_263 : decode cL_law 263 = .ok (.iadd, 1) := fq_96 fk_cL_law_16 7 rfl rfl
theorem dL_law_264 : decode cL_law 264 = .ok (.iaload, 1) := fq_46 fk_cL_law_16 8 rfl rfl
theorem dL_law_265 : decode cL_law 265 = .ok (.aload_n 0, 1) := fq_42 fk_cL_law_16 9 rfl rfl
theorem dL_law_266 : decode cL_law 266 = .ok (.iload_n 3, 1) := fq_29 fk_cL_law_16 10 rfl rfl
theorem dL_law_267 : decode cL_law 267 = .ok (.iconst 2, 1) := fq_5 fk_cL_law_16 11 rfl rfl
theorem dL_law_268 : decode cL_law 268 = .ok (.iadd, 1) := fq_96 fk_cL_law_16 12 rfl rfl
theorem dL_law_269 : decode cL_law 269 = .ok (.iaload, 1) := fq_46 fk_cL_law_16 13 rfl rfl
theorem dL_law_270 : decode cL_law 270 = .ok (.invokevirtual 35, 3) := fq_182 fk_cL_law_16 14 rfl rfl rfl rfl rfl
theorem wd_732 : Cond.methodLink RL 35 yX10_bridge ∈ BG := BG_at5 41 (by decide +kernel) rfl
theorem wd_733 : Cond.code yX10_bridge cX10_bridge 3 (some .int) ∈ BG := BG_at5 44 rfl rfl
theorem wd_734 : Cond.instanceMethod yX10_bridge ∈ BG := BG_at5 42 (by decide +kernel) rfl
theorem wd_735 : Cond.selects RX10 yX10_bridge yX10_bridge ∈ BG := BG_at5 43 (by decide +kernel) rfl
theorem okV_X10_bridge : okV yX10_bridge cX10_bridge 3 (some .int) 2 := ⟨⟨wd_733, wd_497, by decide +kernel⟩, wd_734, wd_735⟩
theorem fk_cL_law_17 : fq_ck cL_law 272 [35, 87, 167, 2, 229, 43, 42, 29, 4, 96, 46, 42, 29, 5, 96, 46, 182, 0] := fq_of fW_cL_law 17 rfl rfl
theorem dL_law_273 : decode cL_law 273 = .ok (.pop, 1) := fq_87 fk_cL_law_17 1 rfl rfl
theorem dL_law_274 : decode cL_law 274 = .ok (.goto 741, 3) := fq_167 fk_cL_law_17 2 rfl rfl rfl rfl rfl
theorem dL_law_277 : decode cL_law 277 = .ok (.aload_n 1, 1) := fq_43 fk_cL_law_17 5 rfl rfl
theorem dL_law_278 : decode cL_law 278 = .ok (.aload_n 0, 1) := fq_42 fk_cL_law_17 6 rfl rfl
theorem dL_law_279 : decode cL_law 279 = .ok (.iload_n 3, 1) := fq_29 fk_cL_law_17 7 rfl rfl
theorem dL_law_280 : decode cL_law 280 = .ok (.iconst 1, 1) := fq_4 fk_cL_law_17 8 rfl rfl
theorem dL_law_281 : decode cL_law 281 = .ok (.iadd, 1) := fq_96 fk_cL_law_17 9 rfl rfl
theorem dL_law_282 : decode cL_law 282 = .ok (.iaload, 1) := fq_46 fk_cL_law_17 10 rfl rfl
theorem dL_law_283 : decode cL_law 283 = .ok (.aload_n 0, 1) := fq_42 fk_cL_law_17 11 rfl rfl
theorem dL_law_284 : decode cL_law 284 = .ok (.iload_n 3, 1) := fq_29 fk_cL_law_17 12 rfl rfl
theorem dL_law_285 : decode cL_law 285 = .ok (.iconst 2, 1) := fq_5 fk_cL_law_17 13 rfl rfl
theorem dL_law_286 : decode cL_law 286 = .ok (.iadd, 1) := fq_96 fk_cL_law_17 14 rfl rfl
theorem dL_law_287 : decode cL_law 287 = .ok (.iaload, 1) := fq_46 fk_cL_law_17 15 rfl rfl
theorem fk_cL_law_18 : fq_ck cL_law 288 [182, 0, 36, 87, 44, 42, 29, 4, 96, 46, 42, 29, 5, 96, 46, 182, 0, 39] := fq_of fW_cL_law 18 rfl rfl
theorem dL_law_288 : decode cL_law 288 = .ok (.invokevirtual 36, 3) := fq_182 fk_cL_law_18 0 rfl rfl rfl rfl rfl
theorem wd_736 : Cond.methodLink RL 36 yX9_couple ∈ BG := BG_at2 213 (by decide +kernel) rfl
theorem wd_737 : Cond.code yX9_couple cX9_couple 3 (some .int) ∈ BG := BG_at2 216 rfl rfl
theorem wd_738 : Cond.instanceMethod yX9_couple ∈ BG := BG_at2 214 (by decide +kernel) rfl
theorem wd_739 : Cond.selects RX9 yX9_couple yX9_couple ∈ BG := BG_at2 215 (by decide +kernel) rfl
theorem okV_X9_couple : okV yX9_couple cX9_couple 3 (some .int) 2 := ⟨⟨wd_737, wd_71, by decide +kernel⟩, wd_738, wd_739⟩
theorem dL_law_291 : decode cL_law 291 = .ok (.pop, 1) := fq_87 fk_cL_law_18 3 rfl rfl
theorem dL_law_292 : decode cL_law 292 = .ok (.aload_n 2, 1) := fq_44 fk_cL_law_18 4 rfl rfl
theorem dL_law_293 : decode cL_law 293 = .ok (.aload_n 0, 1) := fq_42 fk_cL_law_18 5 rfl rfl
theorem dL_law_294 : decode cL_law 294 = .ok (.iload_n 3, 1) := fq_29 fk_cL_law_18 6 rfl rfl
theorem dL_law_295 : decode cL_law 295 = .ok (.iconst 1, 1) := fq_4 fk_cL_law_18 7 rfl rfl
theorem dL_law_296 : decode cL_law 296 = .ok (.iadd, 1) := fq_96 fk_cL_law_18 8 rfl rfl
theorem dL_law_297 : decode cL_law 297 = .ok (.iaload, 1) := fq_46 fk_cL_law_18 9 rfl rfl
theorem dL_law_298 : decode cL_law 298 = .ok (.aload_n 0, 1) := fq_42 fk_cL_law_18 10 rfl rfl
theorem dL_law_299 : decode cL_law 299 = .ok (.iload_n 3, 1) := fq_29 fk_cL_law_18 11 rfl rfl
theorem dL_law_300 : decode cL_law 300 = .ok (.iconst 2, 1) := fq_5 fk_cL_law_18 12 rfl rfl
theorem dL_law_301 : decode cL_law 301 = .ok (.iadd, 1) := fq_96 fk_cL_law_18 13 rfl rfl
theorem dL_law_302 : decode cL_law 302 = .ok (.iaload, 1) := fq_46 fk_cL_law_18 14 rfl rfl
theorem dL_law_303 : decode cL_law 303 = .ok (.invokevirtual 39, 3) := fq_182 fk_cL_law_18 15 rfl rfl rfl rfl rfl
theorem wd_740 : Cond.methodLink RL 39 yX10_couple ∈ BG := BG_at5 54 (by decide +kernel) rfl
theorem wd_741 : Cond.code yX10_couple cX10_couple 3 (some .int) ∈ BG := BG_at5 57 rfl rfl
theorem wd_742 : Cond.instanceMethod yX10_couple ∈ BG := BG_at5 55 (by decide +kernel) rfl
theorem wd_743 : Cond.selects RX10 yX10_couple yX10_couple ∈ BG := BG_at5 56 (by decide +kernel) rfl
theorem okV_X10_couple : okV yX10_couple cX10_couple 3 (some .int) 2 := ⟨⟨wd_741, wd_497, by decide +kernel⟩, wd_742, wd_743⟩
theorem fk_cL_law_19 : fq_ck cL_law 304 [0, 39, 87, 167, 2, 196, 43, 42, 29, 4, 96, 46, 42, 29, 5, 96, 46, 182] := fq_of fW_cL_law 19 rfl rfl
theorem dL_law_306 : decode cL_law 306 = .ok (.pop, 1) := fq_87 fk_cL_law_19 2 rfl rfl
theorem dL_law_307 : decode cL_law 307 = .ok (.goto 708, 3) := fq_167 fk_cL_law_19 3 rfl rfl rfl rfl rfl
theorem dL_law_310 : decode cL_law 310 = .ok (.aload_n 1, 1) := fq_43 fk_cL_law_19 6 rfl rfl
theorem dL_law_311 : decode cL_law 311 = .ok (.aload_n 0, 1) := fq_42 fk_cL_law_19 7 rfl rfl
theorem dL_law_312 : decode cL_law 312 = .ok (.iload_n 3, 1) := fq_29 fk_cL_law_19 8 rfl rfl
theorem dL_law_313 : decode cL_law 313 = .ok (.iconst 1, 1) := fq_4 fk_cL_law_19 9 rfl rfl
theorem dL_law_314 : decode cL_law 314 = .ok (.iadd, 1) := fq_96 fk_cL_law_19 10 rfl rfl
theorem dL_law_315 : decode cL_law 315 = .ok (.iaload, 1) := fq_46 fk_cL_law_19 11 rfl rfl
theorem dL_law_316 : decode cL_law 316 = .ok (.aload_n 0, 1) := fq_42 fk_cL_law_19 12 rfl rfl
theorem dL_law_317 : decode cL_law 317 = .ok (.iload_n 3, 1) := fq_29 fk_cL_law_19 13 rfl rfl
theorem dL_law_318 : decode cL_law 318 = .ok (.iconst 2, 1) := fq_5 fk_cL_law_19 14 rfl rfl
theorem dL_law_319 : decode cL_law 319 = .ok (.iadd, 1) := fq_96 fk_cL_law_19 15 rfl rfl
theorem fk_cL_law_20 : fq_ck cL_law 320 [46, 182, 0, 40, 87, 44, 42, 29, 4, 96, 46, 42, 29, 5, 96, 46, 182, 0] := fq_of fW_cL_law 20 rfl rfl
theorem dL_law_320 : decode cL_law 320 = .ok (.iaload, 1) := fq_46 fk_cL_law_20 0 rfl rfl
theorem dL_law_321 : decode cL_law 321 = .ok (.invokevirtual 40, 3) := fq_182 fk_cL_law_20 1 rfl rfl rfl rfl rfl
theorem wd_744 : Cond.methodLink RL 40 yX9_force ∈ BG := BG_at2 232 (by decide +kernel) rfl
theorem wd_745 : Cond.code yX9_force cX9_force 3 (some .int) ∈ BG := BG_at2 235 rfl rfl
theorem wd_746 : Cond.instanceMethod yX9_force ∈ BG := BG_at2 233 (by decide +kernel) rfl
theorem wd_747 : Cond.selects RX9 yX9_force yX9_force ∈ BG := BG_at2 234 (by decide +kernel) rfl
theorem okV_X9_force : okV yX9_force cX9_force 3 (some .int) 2 := ⟨⟨wd_745, wd_71, by decide +kernel⟩, wd_746, wd_747⟩
theorem dL_law_324 : decode cL_law 324 = .ok (.pop, 1) := fq_87 fk_cL_law_20 4 rfl rfl
theorem dL_law_325 : decode cL_law 325 = .ok (.aload_n 2, 1) := fq_44 fk_cL_law_20 5 rfl rfl
theorem dL_law_326 : decode cL_law 326 = .ok (.aload_n 0, 1) := fq_42 fk_cL_law_20 6 rfl rfl
theorem dL_law_327 : decode cL_law 327 = .ok (.iload_n 3, 1) := fq_29 fk_cL_law_20 7 rfl rfl
theorem dL_law_328 : decode cL_law 328 = .ok (.iconst 1, 1) := fq_4 fk_cL_law_20 8 rfl rfl
theorem dL_law_329 : decode cL_law 329 = .ok (.iadd, 1) := fq_96 fk_cL_law_20 9 rfl rfl
theorem dL_law_330 : decode cL_law 330 = .ok (.iaload, 1) := fq_46 fk_cL_law_20 10 rfl rfl
theorem dL_law_331 : decode cL_law 331 = .ok (.aload_n 0, 1) := fq_42 fk_cL_law_20 11 rfl rfl
theorem dL_law_332 : decode cL_law 332 = .ok (.iload_n 3, 1) := fq_29 fk_cL_law_20 12 rfl rfl
theorem dL_law_333 : decode cL_law 333 = .ok (.iconst 2, 1) := fq_5 fk_cL_law_20 13 rfl rfl
theorem dL_law_334 : decode cL_law 334 = .ok (.iadd, 1) := fq_96 fk_cL_law_20 14 rfl rfl
theorem dL_law_335 : decode cL_law 335 = .ok (.iaload, 1) := fq_46 fk_cL_law_20 15 rfl rfl
theorem fk_cL_law_21 : fq_ck cL_law 336 [182, 0, 43, 87, 167, 2, 163, 43, 42, 29, 4, 96, 46, 42, 29, 5, 96, 46] := fq_of fW_cL_law 21 rfl rfl
theorem dL_law_336 : decode cL_law 336 = .ok (.invokevirtual 43, 3) := fq_182 fk_cL_law_21 0 rfl rfl rfl rfl rfl
theorem wd_748 : Cond.methodLink RL 43 yX10_force ∈ BG := BG_at5 66 (by decide +kernel) rfl
theorem wd_749 : Cond.code yX10_force cX10_force 3 (some .int) ∈ BG := BG_at5 69 rfl rfl
theorem wd_750 : Cond.instanceMethod yX10_force ∈ BG := BG_at5 67 (by decide +kernel) rfl
theorem wd_751 : Cond.selects RX10 yX10_force yX10_force ∈ BG := BG_at5 68 (by decide +kernel) rfl
theorem okV_X10_force : okV yX10_force cX10_force 3 (some .int) 2 := ⟨⟨wd_749, wd_497, by decide +kernel⟩, wd_750, wd_751⟩
theorem dL_law_339 : decode cL_law 339 = .ok (.pop, 1) := fq_87 fk_cL_law_21 3 rfl rfl
theorem dL_law_340 : decode cL_law 340 = .ok (.goto 675, 3) := fq_167 fk_cL_law_21 4 rfl rfl rfl rfl rfl
theorem dL_law_343 : decode cL_law 343 = .ok (.aload_n 1, 1) := fq_43 fk_cL_law_21 7 rfl rfl
theorem dL_law_344 : decode cL_law 344 = .ok (.aload_n 0, 1) := fq_42 fk_cL_law_21 8 rfl rfl
theorem dL_law_345 : decode cL_law 345 = .ok (.iload_n 3, 1) := fq_29 fk_cL_law_21 9 rfl rfl
theorem dL_law_346 : decode cL_law 346 = .ok (.iconst 1, 1) := fq_4 fk_cL_law_21 10 rfl rfl
theorem dL_law_347 : decode cL_law 347 = .ok (.iadd, 1) := fq_96 fk_cL_law_21 11 rfl rfl
theorem dL_law_348 : decode cL_law 348 = .ok (.iaload, 1) := fq_46 fk_cL_law_21 12 rfl rfl
theorem dL_law_349 : decode cL_law 349 = .ok (.aload_n 0, 1) := fq_42 fk_cL_law_21 13 rfl rfl
theorem dL_law_350 : decode cL_law 350 = .ok (.iload_n 3, 1) := fq_29 fk_cL_law_21 14 rfl rfl
theorem dL_law_351 : decode cL_law 351 = .ok (.iconst 2, 1) := fq_5 fk_cL_law_21 15 rfl rfl
theorem fk_cL_law_22 : fq_ck cL_law 352 [96, 46, 182, 0, 44, 87, 44, 42, 29, 4, 96, 46, 42, 29, 5, 96, 46, 182] := fq_of fW_cL_law 22 rfl rfl
theorem dL_law_352 : decode cL_law 352 = .ok (.iadd, 1) := fq_96 fk_cL_law_22 0 rfl rfl
theorem dL_law_353 : decode cL_law 353 = .ok (.iaload, 1) := fq_46 fk_cL_law_22 1 rfl rfl
theorem dL_law_354 : decode cL_law 354 = .ok (.invokevirtual 44, 3) := fq_182 fk_cL_law_22 2 rfl rfl rfl rfl rfl
theorem wd_752 : Cond.methodLink RL 44 yX9_barge ∈ BG := BG_at3 5 (by decide +kernel) rfl
theorem wd_753 : Cond.code yX9_barge cX9_barge 3 (some .int) ∈ BG := BG_at3 8 rfl rfl
theorem wd_754 : Cond.instanceMethod yX9_barge ∈ BG := BG_at3 6 (by decide +kernel) rfl
theorem wd_755 : Cond.selects RX9 yX9_barge yX9_barge ∈ BG := BG_at3 7 (by decide +kernel) rfl
theorem okV_X9_barge : okV yX9_barge cX9_barge 3 (some .int) 2 := ⟨⟨wd_753, wd_71, by decide +kernel⟩, wd_754, wd_755⟩
theorem dL_law_357 : decode cL_law 357 = .ok (.pop, 1) := fq_87 fk_cL_law_22 5 rfl rfl
theorem dL_law_358 : decode cL_law 358 = .ok (.aload_n 2, 1) := fq_44 fk_cL_law_22 6 rfl rfl
theorem dL_law_359 : decode cL_law 359 = .ok (.aload_n 0, 1) := fq_42 fk_cL_law_22 7 rfl rfl
theorem dL_law_360 : decode cL_law 360 = .ok (.iload_n 3, 1) := fq_29 fk_cL_law_22 8 rfl rfl
theorem dL_law_361 : decode cL_law 361 = .ok (.iconst 1, 1) := fq_4 fk_cL_law_22 9 rfl rfl
theorem dL_law_362 : decode cL_law 362 = .ok (.iadd, 1) := fq_96 fk_cL_law_22 10 rfl rfl
theorem dL_law_363 : decode cL_law 363 = .ok (.iaload, 1) := fq_46 fk_cL_law_22 11 rfl rfl
theorem dL_law_364 : decode cL_law 364 = .ok (.aload_n 0, 1) := fq_42 fk_cL_law_22 12 rfl rfl
theorem dL_law_365 : decode cL_law 365 = .ok (.iload_n 3, 1) := fq_29 fk_cL_law_22 13 rfl rfl
theorem dL_law_366 : decode cL_law 366 = .ok (.iconst 2, 1) := fq_5 fk_cL_law_22 14 rfl rfl
theorem dL_law_367 : decode cL_law 367 = .ok (.iadd, 1) := fq_96 fk_cL_law_22 15 rfl rfl
theorem fk_cL_law_23 : fq_ck cL_law 368 [46, 182, 0, 47, 87, 167, 2, 130, 43, 42, 29, 4, 96, 46, 42, 29, 5, 96] := fq_of fW_cL_law 23 rfl rfl
theorem dL_law_368 : decode cL_law 368 = .ok (.iaload, 1) := fq_46 fk_cL_law_23 0 rfl rfl
theorem dL_law_369 : decode cL_law 369 = .ok (.invokevirtual 47, 3) := fq_182 fk_cL_law_23 1 rfl rfl rfl rfl rfl
theorem wd_756 : Cond.methodLink RL 47 yX10_barge ∈ BG := BG_at5 74 (by decide +kernel) rfl
theorem wd_757 : Cond.code yX10_barge cX10_barge 3 (some .int) ∈ BG := BG_at5 77 rfl rfl
theorem wd_758 : Cond.instanceMethod yX10_barge ∈ BG := BG_at5 75 (by decide +kernel) rfl
theorem wd_759 : Cond.selects RX10 yX10_barge yX10_barge ∈ BG := BG_at5 76 (by decide +kernel) rfl
theorem okV_X10_barge : okV yX10_barge cX10_barge 3 (some .int) 2 := ⟨⟨wd_757, wd_497, by decide +kernel⟩, wd_758, wd_759⟩
theorem dL_law_372 : decode cL_law 372 = .ok (.pop, 1) := fq_87 fk_cL_law_23 4 rfl rfl
theorem dL_law_373 : decode cL_law 373 = .ok (.goto 642, 3) := fq_167 fk_cL_law_23 5 rfl rfl rfl rfl rfl
end
section
def Wx_feed (cI cZ : ClassId) (xh : Nat) (v_x : Nat) (v_q1 : Int32) (v_q2 : Int32) (v_rd : Nat) (v_t : Nat) (v_d : Nat) (v_nw : Nat) (v_ps : Nat) (v_im : Nat) (v_is_ : Nat) (v_q10 : Int32) (v_bk : Nat) (v_q12 : Int32) (v_qr : Nat) (v_pr : Nat) (v_cv : Nat) (v_ft : Nat) (v_ftx : Nat → Int32) : va_W := [(xh, .inr (9, [.ref v_x, .int v_q1, .int v_q2, .ref v_rd, .ref v_t, .ref v_d, .ref v_nw, .ref v_ps, .ref v_im, .ref v_is_, .int v_q10, .ref v_bk, .int v_q12, .ref v_qr, .ref v_pr, .ref v_cv, .ref v_ft])), (v_x, .inl (cI, 240, .inl v_ftx))]
def Wm_feed (cI cZ : ClassId) (yh : Nat) (Rf : Nat → Nat) (G : Nat → Int32) (f13 : Nat → Int32) : va_W := [(yh, .inr (10, ML G Rf)), ((Rf 13), .inl (cI, 240, .inl f13))]
set_option maxHeartbeats 4000000 in
set_option maxRecDepth 100000 in
theorem law_feed {p : Program} {l : Launch} {e : Env} {s : State} {m : MethodId} {below : List Frame} {meth : Method} {c : Code} {D : va_G} {cI cZ : ClassId} {b : Nat} {xs : Nat → Int32} {L : Nat} (wr : va_W) (v_x : Nat) (v_q1 : Int32) (v_q2 : Int32) (v_rd : Nat) (v_t : Nat) (v_d : Nat) (v_nw : Nat) (v_ps : Nat) (v_im : Nat) (v_is_ : Nat) (v_q10 : Int32) (v_bk : Nat) (v_q12 : Int32) (v_qr : Nat) (v_pr : Nat) (v_cv : Nat) (v_ft : Nat) (v_ftx : Nat → Int32) (Rf : Nat → Nat) (G : Nat → Int32) (f13 : Nat → Int32) {xh yh : Nat} {iv : Int32} (C0 : lw_C p s m meth c b L xs) {H : Heap} {locs : List Loc} {ls : Array Slot} (hi1 : ¬ ((iv + 1) < 0 ∨ L ≤ (iv + 1 : Int32).toNatClampNeg)) (hi2 : ¬ ((iv + 2) < 0 ∨ L ≤ (iv + 2 : Int32).toNatClampNeg)) (hi3 : ¬ ((iv + 3) < 0 ∨ L ≤ (iv + 3 : Int32).toNatClampNeg)) (hi4 : ¬ ((iv + 4) < 0 ∨ L ≤ (iv + 4 : Int32).toNatClampNeg)) (hK : va_K D classes (TYS cI cZ) s) (hs : S_m_feed G f13 (xs ((iv + 1) : Int32).toNatClampNeg)) (hP : va_P D classes ((Wx_feed cI cZ xh v_x v_q1 v_q2 v_rd v_t v_d v_nw v_ps v_im v_is_ v_q10 v_bk v_q12 v_qr v_pr v_cv v_ft v_ftx) ++ ((Wm_feed cI cZ yh Rf G f13) ++ wr)) H) (hD : va_D (lw_A s) ((Wx_feed cI cZ xh v_x v_q1 v_q2 v_rd v_t v_d v_nw v_ps v_im v_is_ v_q10 v_bk v_q12 v_qr v_pr v_cv v_ft v_ftx) ++ ((Wm_feed cI cZ yh Rf G f13) ++ wr))) (hS : va_S (lw_A s) s.heap H locs) (hl : lv_has ls 4 [(0, .ref b), (1, .ref xh), (2, .ref yh), (3, .int iv)]) (hnext : ∀ (rx : Int32) (x0 : Int32) (x1 : (Nat → Int32)) (ry : Int32) (y0 : (Nat → Int32)) (y1 : (Nat → Int32)) (H : Heap) (locs : List Loc) (ls : Array Slot), (rx, x0, x1) = (f_e_feed_x9 v_q1 v_q2 v_q10 v_q12 v_ftx (xs ((iv + 1) : Int32).toNatClampNeg)) → (ry, y0, y1) = (f_m_feed G f13 (xs ((iv + 1) : Int32).toNatClampNeg)) → va_P D classes ((Wx_feed cI cZ xh v_x x0 v_q2 v_rd v_t v_d v_nw v_ps v_im v_is_ v_q10 v_bk v_q12 v_qr v_pr v_cv v_ft x1) ++ ((Wm_feed cI cZ yh Rf y0 y1) ++ wr)) H → va_D (lw_A s) ((Wx_feed cI cZ xh v_x x0 v_q2 v_rd v_t v_d v_nw v_ps v_im v_is_ v_q10 v_bk v_q12 v_qr v_pr v_cv v_ft x1) ++ ((Wm_feed cI cZ yh Rf y0 y1) ++ wr)) → va_S (lw_A s) s.heap H locs → lv_has ls 4 [(0, .ref b), (1, .ref xh), (2, .ref yh), (3, .int iv)] → W p l e room_1 s m #[Value.ref b] below meth c H locs 60 4269 (lw_Z below #[Value.ref b] s) (F0 m 1015 ls [])) : W p l e room_1 s m #[Value.ref b] below meth c H locs 60 4269 (lw_Z below #[Value.ref b] s) (F0 m 172 ls []) := by
  obtain ⟨hx, hb, hr, hml, hown, hts, hX, hbl, hlocks, hN⟩ := C0
  have hA : ∀ q, s.heap.size ≤ q → lw_A s q := fun _ h => h
  have hbA : ¬ lw_A s b := Nat.not_le.mpr hbl
  refine lv_aload_n hx hb dL_law_172 rfl (lv_at hl 1 rfl) ?_
  refine lv_aload_n hx hb dL_law_173 rfl (lv_at hl 0 rfl) ?_
  refine lv_iload_n hx hb dL_law_174 rfl (lv_at hl 3 rfl) ?_
  refine lv_iconst (v := 1) hx hb dL_law_175 rfl ?_
  refine lv_iadd hx hb dL_law_176 ?_
  refine va_sld hx hb hX hbl hbA hS hi1 dL_law_177 ?_
  refine cVa (wc := (Wx_feed cI cZ xh v_x v_q1 v_q2 v_rd v_t v_d v_nw v_ps v_im v_is_ v_q10 v_bk v_q12 v_qr v_pr v_cv v_ft v_ftx)) (wr := ((Wm_feed cI cZ yh Rf G f13) ++ wr)) (rest := []) (e_feed_x9 xh v_x v_rd v_t v_d v_nw v_ps v_im v_is_ v_bk v_qr v_pr v_cv v_ft v_q1 v_q2 v_q10 v_q12 v_ftx (xs ((iv + 1) : Int32).toNatClampNeg)) okV_X9_feed wd_696 hx hb hml hown hts hK hP hD hS hA hN hl.1 rfl rfl rfl (Nat.le_of_ble_eq_true rfl) (Nat.le_of_ble_eq_true rfl) (Nat.le_of_ble_eq_true rfl) (Nat.le_of_ble_eq_true rfl) (Nat.le_of_ble_eq_true rfl) dL_law_178 (fun rx u1 H locs ex hP hD hS => ?_)
  obtain ⟨x0, x1⟩ := u1
  replace ex : (rx, x0, x1) = (f_e_feed_x9 v_q1 v_q2 v_q10 v_q12 v_ftx (xs ((iv + 1) : Int32).toNatClampNeg)) := ex
  have hP : va_P D classes (((Wm_feed cI cZ yh Rf G f13) ++ wr) ++ (Wx_feed cI cZ xh v_x x0 v_q2 v_rd v_t v_d v_nw v_ps v_im v_is_ v_q10 v_bk v_q12 v_qr v_pr v_cv v_ft x1)) H := hP
  have hD : va_D (lw_A s) (((Wm_feed cI cZ yh Rf G f13) ++ wr) ++ (Wx_feed cI cZ xh v_x x0 v_q2 v_rd v_t v_d v_nw v_ps v_im v_is_ v_q10 v_bk v_q12 v_qr v_pr v_cv v_ft x1)) := hD
  rw [List.append_assoc] at hP hD
  refine lv_pop hx hb dL_law_181 rfl ?_
  refine lv_aload_n hx hb dL_law_182 rfl (lv_at hl 2 rfl) ?_
  refine lv_aload_n hx hb dL_law_183 rfl (lv_at hl 0 rfl) ?_
  refine lv_iload_n hx hb dL_law_184 rfl (lv_at hl 3 rfl) ?_
  refine lv_iconst (v := 1) hx hb dL_law_185 rfl ?_
  refine lv_iadd hx hb dL_law_186 ?_
  refine va_sld hx hb hX hbl hbA hS hi1 dL_law_187 ?_
  refine cVa (wc := (Wm_feed cI cZ yh Rf G f13)) (wr := (wr ++ (Wx_feed cI cZ xh v_x x0 v_q2 v_rd v_t v_d v_nw v_ps v_im v_is_ v_q10 v_bk v_q12 v_qr v_pr v_cv v_ft x1))) (rest := []) (m_feed Rf yh G f13 (xs ((iv + 1) : Int32).toNatClampNeg) hs) okV_X10_feed wd_700 hx hb hml hown hts hK hP hD hS hA hN hl.1 rfl rfl rfl (Nat.le_of_ble_eq_true rfl) (Nat.le_of_ble_eq_true rfl) (Nat.le_of_ble_eq_true rfl) (Nat.le_of_ble_eq_true rfl) (Nat.le_of_ble_eq_true rfl) dL_law_188 (fun ry u2 H locs em hP hD hS => ?_)
  obtain ⟨y0, y1⟩ := u2
  replace em : (ry, y0, y1) = (f_m_feed G f13 (xs ((iv + 1) : Int32).toNatClampNeg)) := em
  have hP : va_P D classes ((wr ++ (Wx_feed cI cZ xh v_x x0 v_q2 v_rd v_t v_d v_nw v_ps v_im v_is_ v_q10 v_bk v_q12 v_qr v_pr v_cv v_ft x1)) ++ (Wm_feed cI cZ yh Rf y0 y1)) H := hP
  have hD : va_D (lw_A s) ((wr ++ (Wx_feed cI cZ xh v_x x0 v_q2 v_rd v_t v_d v_nw v_ps v_im v_is_ v_q10 v_bk v_q12 v_qr v_pr v_cv v_ft x1)) ++ (Wm_feed cI cZ yh Rf y0 y1)) := hD
  refine lv_pop hx hb dL_law_191 rfl ?_
  refine lv_goto (tgt := 1015) hx hb dL_law_192 rfl ?_
  exact hnext rx x0 x1 ry y0 y1 _ _ _ ex em (permP rot hP) (permD rot hD) hS hl
def Wx_town (cI cZ : ClassId) (xh : Nat) (v_x : Nat) (v_q1 : Int32) (v_q2 : Int32) (v_rd : Nat) (v_d : Nat) (v_nw : Nat) (v_ps : Nat) (v_im : Nat) (v_is_ : Nat) (v_q10 : Int32) (v_bk : Nat) (v_q12 : Int32) (v_qr : Nat) (v_pr : Nat) (v_cv : Nat) (v_ft : Nat) (v_ftx : Nat → Int32) (v_r0 : Int32) (v_r1 : Int32) (v_u0 : Nat) (v_r3 : Int32) (v_r4 : Int32) (v_r5 : Int32) (v_r6 : Int32) (v_d0 : Int32) (v_d1 : Int32) (v_d2 : Int32) (v_d3 : Int32) (v_d4 : Int32) (v_da : Nat) (v_db : Nat) (v_dc : Nat) (v_dd : Nat) (v_de : Nat) (v_fda : Nat → Int32) (v_fdb : Nat → Int32) (v_fdc : Nat → Int32) (v_fdd : Nat → Int32) (v_fde : Nat → Int32) (v_nwc : Nat) (v_fn : Nat → Int32) (v_sh : Nat) (v_p1 : Int32) (v_p2 : Int32) (v_b0 : Int32) (v_bka : Nat) (v_bkb : Nat) (w_t : Nat) (w_d : Nat) : va_W := [(xh, .inr (9, [.ref v_x, .int v_q1, .int v_q2, .ref v_rd, .ref w_t, .ref w_d, .ref v_nw, .ref v_ps, .ref v_im, .ref v_is_, .int v_q10, .ref v_bk, .int v_q12, .ref v_qr, .ref v_pr, .ref v_cv, .ref v_ft])), (v_rd, .inr (5, [.int v_r0, .int v_r1, .ref v_u0, .int v_r3, .int v_r4, .int v_r5, .int v_r6])), (v_x, .inl (cI, 240, .inl v_ftx)), (v_d, .inr (8, [.int v_d0, .int v_d1, .int v_d2, .int v_d3, .int v_d4, .ref v_da, .ref v_db, .ref v_dc, .ref v_dd, .ref v_de])), (v_da, .inl (cI, 6, .inl v_fda)), (v_db, .inl (cI, 6, .inl v_fdb)), (v_dc, .inl (cI, 30, .inl v_fdc)), (v_dd, .inl (cI, 7, .inl v_fdd)), (v_de, .inl (cI, 7, .inl v_fde)), (v_nw, .inr (7, [.ref v_nwc])), (v_nwc, .inl (cI, 41, .inl v_fn)), (v_ps, .inr (2, [.ref v_sh, .int v_p1, .int v_p2])), (v_bk, .inr (0, [.int v_b0, .ref v_bka, .ref v_bkb]))]
def Wm_town (cI cZ : ClassId) (yh : Nat) (Rf : Nat → Nat) (G : Nat → Int32) (f0 : Nat → Int32) (f1 : Nat → Int32) (f8 : Nat → Int32) (f9 : Nat → Int32) (f10 : Nat → Int32) (f11 : Nat → Int32) (f12 : Nat → Int32) (f13 : Nat → Int32) (f27 : Nat → Int32) (f28 : Nat → Int32) (f29 : Nat → Int32) (f30 : Nat → Int32) (f31 : Nat → Int32) : va_W := [(yh, .inr (10, ML G Rf)), ((Rf 0), .inl (cI, 1302, .inl f0)), ((Rf 1), .inl (cZ, 2, .inl f1)), ((Rf 8), .inl (cI, 6, .inl f8)), ((Rf 9), .inl (cI, 6, .inl f9)), ((Rf 10), .inl (cI, 30, .inl f10)), ((Rf 11), .inl (cI, 7, .inl f11)), ((Rf 12), .inl (cI, 7, .inl f12)), ((Rf 13), .inl (cI, 240, .inl f13)), ((Rf 27), .inl (cI, 6, .inl f27)), ((Rf 28), .inl (cI, 6, .inl f28)), ((Rf 29), .inl (cI, 30, .inl f29)), ((Rf 30), .inl (cI, 7, .inl f30)), ((Rf 31), .inl (cI, 7, .inl f31))]
set_option maxHeartbeats 4000000 in
set_option maxRecDepth 100000 in
theorem law_town {p : Program} {l : Launch} {e : Env} {s : State} {m : MethodId} {below : List Frame} {meth : Method} {c : Code} {D : va_G} {cI cZ : ClassId} {b : Nat} {xs : Nat → Int32} {L : Nat} (wr : va_W) (v_x : Nat) (v_q1 : Int32) (v_q2 : Int32) (v_rd : Nat) (v_t : Nat) (v_d : Nat) (v_nw : Nat) (v_ps : Nat) (v_im : Nat) (v_is_ : Nat) (v_q10 : Int32) (v_bk : Nat) (v_q12 : Int32) (v_qr : Nat) (v_pr : Nat) (v_cv : Nat) (v_ft : Nat) (v_ftx : Nat → Int32) (v_r0 : Int32) (v_r1 : Int32) (v_u0 : Nat) (v_r3 : Int32) (v_r4 : Int32) (v_r5 : Int32) (v_r6 : Int32) (v_d0 : Int32) (v_d1 : Int32) (v_d2 : Int32) (v_d3 : Int32) (v_d4 : Int32) (v_da : Nat) (v_db : Nat) (v_dc : Nat) (v_dd : Nat) (v_de : Nat) (v_fda : Nat → Int32) (v_fdb : Nat → Int32) (v_fdc : Nat → Int32) (v_fdd : Nat → Int32) (v_fde : Nat → Int32) (v_nwc : Nat) (v_fn : Nat → Int32) (v_sh : Nat) (v_p1 : Int32) (v_p2 : Int32) (v_b0 : Int32) (v_bka : Nat) (v_bkb : Nat) (Rf : Nat → Nat) (G : Nat → Int32) (f0 : Nat → Int32) (f1 : Nat → Int32) (f8 : Nat → Int32) (f9 : Nat → Int32) (f10 : Nat → Int32) (f11 : Nat → Int32) (f12 : Nat → Int32) (f13 : Nat → Int32) (f27 : Nat → Int32) (f28 : Nat → Int32) (f29 : Nat → Int32) (f30 : Nat → Int32) (f31 : Nat → Int32) {xh yh : Nat} {iv : Int32} (C0 : lw_C p s m meth c b L xs) {H : Heap} {locs : List Loc} {ls : Array Slot} (hi1 : ¬ ((iv + 1) < 0 ∨ L ≤ (iv + 1 : Int32).toNatClampNeg)) (hi2 : ¬ ((iv + 2) < 0 ∨ L ≤ (iv + 2 : Int32).toNatClampNeg)) (hi3 : ¬ ((iv + 3) < 0 ∨ L ≤ (iv + 3 : Int32).toNatClampNeg)) (hi4 : ¬ ((iv + 4) < 0 ∨ L ≤ (iv + 4 : Int32).toNatClampNeg)) (hK : va_K D classes (TYS cI cZ) s) (hs : S_m_town G f0 f1 f8 f9 f10 f11 f12 f13 f27 f28 f29 f30 f31) (hP : va_P D classes ((Wx_town cI cZ xh v_x v_q1 v_q2 v_rd v_d v_nw v_ps v_im v_is_ v_q10 v_bk v_q12 v_qr v_pr v_cv v_ft v_ftx v_r0 v_r1 v_u0 v_r3 v_r4 v_r5 v_r6 v_d0 v_d1 v_d2 v_d3 v_d4 v_da v_db v_dc v_dd v_de v_fda v_fdb v_fdc v_fdd v_fde v_nwc v_fn v_sh v_p1 v_p2 v_b0 v_bka v_bkb v_t v_d) ++ ((Wm_town cI cZ yh Rf G f0 f1 f8 f9 f10 f11 f12 f13 f27 f28 f29 f30 f31) ++ wr)) H) (hD : va_D (lw_A s) ((Wx_town cI cZ xh v_x v_q1 v_q2 v_rd v_d v_nw v_ps v_im v_is_ v_q10 v_bk v_q12 v_qr v_pr v_cv v_ft v_ftx v_r0 v_r1 v_u0 v_r3 v_r4 v_r5 v_r6 v_d0 v_d1 v_d2 v_d3 v_d4 v_da v_db v_dc v_dd v_de v_fda v_fdb v_fdc v_fdd v_fde v_nwc v_fn v_sh v_p1 v_p2 v_b0 v_bka v_bkb v_t v_d) ++ ((Wm_town cI cZ yh Rf G f0 f1 f8 f9 f10 f11 f12 f13 f27 f28 f29 f30 f31) ++ wr))) (hS : va_S (lw_A s) s.heap H locs) (hl : lv_has ls 4 [(0, .ref b), (1, .ref xh), (2, .ref yh), (3, .int iv)]) (hnext : ∀ (rx : Int32) (x0 : Int32) (x1 : Int32) (x2 : Nat) (x3 : Nat) (x4 : Int32) (x5 : Int32) (x6 : Int32) (x7 : Int32) (x8 : Int32) (x9 : Int32) (x10 : Int32) (x11 : Int32) (x12 : Int32) (x13 : Int32) (x14 : Int32) (x15 : Int32) (x16 : (Nat → Int32)) (x17 : (Nat → Int32)) (x18 : (Nat → Int32)) (x19 : (Nat → Int32)) (x20 : (Nat → Int32)) (x21 : (Nat → Int32)) (x22 : Int32) (x23 : Int32) (ry : Int32) (y0 : (Nat → Int32)) (y1 : (Nat → Int32)) (y2 : (Nat → Int32)) (y3 : (Nat → Int32)) (y4 : (Nat → Int32)) (y5 : (Nat → Int32)) (y6 : (Nat → Int32)) (y7 : (Nat → Int32)) (y8 : (Nat → Int32)) (y9 : (Nat → Int32)) (y10 : (Nat → Int32)) (y11 : (Nat → Int32)) (y12 : (Nat → Int32)) (H : Heap) (locs : List Loc) (ls : Array Slot), (rx, x0, x1, x2, x3, x4, x5, x6, x7, x8, x9, x10, x11, x12, x13, x14, x15, x16, x17, x18, x19, x20, x21, x22, x23) = (f_e_town_x9 v_t v_d v_q1 v_q2 v_q10 v_q12 v_r0 v_r1 v_r3 v_r4 v_r5 v_r6 v_ftx v_d0 v_d1 v_d2 v_d3 v_d4 v_fda v_fdb v_fdc v_fdd v_fde v_fn v_p1 v_p2 v_b0) → (ry, y0, y1, y2, y3, y4, y5, y6, y7, y8, y9, y10, y11, y12) = (f_m_town G f0 f1 f8 f9 f10 f11 f12 f13 f27 f28 f29 f30 f31) → va_P D classes ((Wx_town cI cZ xh v_x x0 x1 v_rd v_d v_nw v_ps v_im v_is_ x4 v_bk v_q12 v_qr v_pr v_cv v_ft v_ftx x5 x6 v_x x7 x8 x9 x10 x11 x12 x13 x14 x15 v_da v_db v_dc v_dd v_de x16 x17 x18 x19 x20 v_nwc x21 v_sh v_p1 x22 x23 v_bka v_bkb x2 x3) ++ ((Wm_town cI cZ yh Rf y0 y1 y2 y3 y4 y5 y6 y7 f13 y8 y9 y10 y11 y12) ++ wr)) H → va_D (lw_A s) ((Wx_town cI cZ xh v_x x0 x1 v_rd v_d v_nw v_ps v_im v_is_ x4 v_bk v_q12 v_qr v_pr v_cv v_ft v_ftx x5 x6 v_x x7 x8 x9 x10 x11 x12 x13 x14 x15 v_da v_db v_dc v_dd v_de x16 x17 x18 x19 x20 v_nwc x21 v_sh v_p1 x22 x23 v_bka v_bkb x2 x3) ++ ((Wm_town cI cZ yh Rf y0 y1 y2 y3 y4 y5 y6 y7 f13 y8 y9 y10 y11 y12) ++ wr)) → va_S (lw_A s) s.heap H locs → lv_has ls 4 [(0, .ref b), (1, .ref xh), (2, .ref yh), (3, .int iv)] → W p l e room_1 s m #[Value.ref b] below meth c H locs 60 4269 (lw_Z below #[Value.ref b] s) (F0 m 1015 ls [])) : W p l e room_1 s m #[Value.ref b] below meth c H locs 60 4269 (lw_Z below #[Value.ref b] s) (F0 m 195 ls []) := by
  obtain ⟨hx, hb, hr, hml, hown, hts, hX, hbl, hlocks, hN⟩ := C0
  have hA : ∀ q, s.heap.size ≤ q → lw_A s q := fun _ h => h
  have hbA : ¬ lw_A s b := Nat.not_le.mpr hbl
  refine lv_aload_n hx hb dL_law_195 rfl (lv_at hl 1 rfl) ?_
  refine cVa (wc := (Wx_town cI cZ xh v_x v_q1 v_q2 v_rd v_d v_nw v_ps v_im v_is_ v_q10 v_bk v_q12 v_qr v_pr v_cv v_ft v_ftx v_r0 v_r1 v_u0 v_r3 v_r4 v_r5 v_r6 v_d0 v_d1 v_d2 v_d3 v_d4 v_da v_db v_dc v_dd v_de v_fda v_fdb v_fdc v_fdd v_fde v_nwc v_fn v_sh v_p1 v_p2 v_b0 v_bka v_bkb v_t v_d)) (wr := ((Wm_town cI cZ yh Rf G f0 f1 f8 f9 f10 f11 f12 f13 f27 f28 f29 f30 f31) ++ wr)) (rest := []) (e_town_x9 xh v_x v_rd v_nw v_ps v_im v_is_ v_bk v_qr v_pr v_cv v_ft v_u0 v_da v_db v_dc v_dd v_de v_nwc v_sh v_bka v_bkb v_t v_d v_q1 v_q2 v_q10 v_q12 v_r0 v_r1 v_r3 v_r4 v_r5 v_r6 v_ftx v_d0 v_d1 v_d2 v_d3 v_d4 v_fda v_fdb v_fdc v_fdd v_fde v_fn v_p1 v_p2 v_b0) okV_X9_town wd_704 hx hb hml hown hts hK hP hD hS hA hN hl.1 rfl rfl rfl (Nat.le_of_ble_eq_true rfl) (Nat.le_of_ble_eq_true rfl) (Nat.le_of_ble_eq_true rfl) (Nat.le_of_ble_eq_true rfl) (Nat.le_of_ble_eq_true rfl) dL_law_196 (fun rx u1 H locs ex hP hD hS => ?_)
  obtain ⟨x0, x1, x2, x3, x4, x5, x6, x7, x8, x9, x10, x11, x12, x13, x14, x15, x16, x17, x18, x19, x20, x21, x22, x23⟩ := u1
  replace ex : (rx, x0, x1, x2, x3, x4, x5, x6, x7, x8, x9, x10, x11, x12, x13, x14, x15, x16, x17, x18, x19, x20, x21, x22, x23) = (f_e_town_x9 v_t v_d v_q1 v_q2 v_q10 v_q12 v_r0 v_r1 v_r3 v_r4 v_r5 v_r6 v_ftx v_d0 v_d1 v_d2 v_d3 v_d4 v_fda v_fdb v_fdc v_fdd v_fde v_fn v_p1 v_p2 v_b0) := ex
  have hP : va_P D classes (((Wm_town cI cZ yh Rf G f0 f1 f8 f9 f10 f11 f12 f13 f27 f28 f29 f30 f31) ++ wr) ++ (Wx_town cI cZ xh v_x x0 x1 v_rd v_d v_nw v_ps v_im v_is_ x4 v_bk v_q12 v_qr v_pr v_cv v_ft v_ftx x5 x6 v_x x7 x8 x9 x10 x11 x12 x13 x14 x15 v_da v_db v_dc v_dd v_de x16 x17 x18 x19 x20 v_nwc x21 v_sh v_p1 x22 x23 v_bka v_bkb x2 x3)) H := hP
  have hD : va_D (lw_A s) (((Wm_town cI cZ yh Rf G f0 f1 f8 f9 f10 f11 f12 f13 f27 f28 f29 f30 f31) ++ wr) ++ (Wx_town cI cZ xh v_x x0 x1 v_rd v_d v_nw v_ps v_im v_is_ x4 v_bk v_q12 v_qr v_pr v_cv v_ft v_ftx x5 x6 v_x x7 x8 x9 x10 x11 x12 x13 x14 x15 v_da v_db v_dc v_dd v_de x16 x17 x18 x19 x20 v_nwc x21 v_sh v_p1 x22 x23 v_bka v_bkb x2 x3)) := hD
  rw [List.append_assoc] at hP hD
  refine lv_pop hx hb dL_law_199 rfl ?_
  refine lv_aload_n hx hb dL_law_200 rfl (lv_at hl 2 rfl) ?_
  refine cVa (wc := (Wm_town cI cZ yh Rf G f0 f1 f8 f9 f10 f11 f12 f13 f27 f28 f29 f30 f31)) (wr := (wr ++ (Wx_town cI cZ xh v_x x0 x1 v_rd v_d v_nw v_ps v_im v_is_ x4 v_bk v_q12 v_qr v_pr v_cv v_ft v_ftx x5 x6 v_x x7 x8 x9 x10 x11 x12 x13 x14 x15 v_da v_db v_dc v_dd v_de x16 x17 x18 x19 x20 v_nwc x21 v_sh v_p1 x22 x23 v_bka v_bkb x2 x3))) (rest := []) (m_town Rf yh G f0 f1 f8 f9 f10 f11 f12 f13 f27 f28 f29 f30 f31 hs) okV_X10_town wd_708 hx hb hml hown hts hK hP hD hS hA hN hl.1 rfl rfl rfl (Nat.le_of_ble_eq_true rfl) (Nat.le_of_ble_eq_true rfl) (Nat.le_of_ble_eq_true rfl) (Nat.le_of_ble_eq_true rfl) (Nat.le_of_ble_eq_true rfl) dL_law_201 (fun ry u2 H locs em hP hD hS => ?_)
  obtain ⟨y0, y1, y2, y3, y4, y5, y6, y7, y8, y9, y10, y11, y12⟩ := u2
  replace em : (ry, y0, y1, y2, y3, y4, y5, y6, y7, y8, y9, y10, y11, y12) = (f_m_town G f0 f1 f8 f9 f10 f11 f12 f13 f27 f28 f29 f30 f31) := em
  have hP : va_P D classes ((wr ++ (Wx_town cI cZ xh v_x x0 x1 v_rd v_d v_nw v_ps v_im v_is_ x4 v_bk v_q12 v_qr v_pr v_cv v_ft v_ftx x5 x6 v_x x7 x8 x9 x10 x11 x12 x13 x14 x15 v_da v_db v_dc v_dd v_de x16 x17 x18 x19 x20 v_nwc x21 v_sh v_p1 x22 x23 v_bka v_bkb x2 x3)) ++ (Wm_town cI cZ yh Rf y0 y1 y2 y3 y4 y5 y6 y7 f13 y8 y9 y10 y11 y12)) H := hP
  have hD : va_D (lw_A s) ((wr ++ (Wx_town cI cZ xh v_x x0 x1 v_rd v_d v_nw v_ps v_im v_is_ x4 v_bk v_q12 v_qr v_pr v_cv v_ft v_ftx x5 x6 v_x x7 x8 x9 x10 x11 x12 x13 x14 x15 v_da v_db v_dc v_dd v_de x16 x17 x18 x19 x20 v_nwc x21 v_sh v_p1 x22 x23 v_bka v_bkb x2 x3)) ++ (Wm_town cI cZ yh Rf y0 y1 y2 y3 y4 y5 y6 y7 f13 y8 y9 y10 y11 y12)) := hD
  refine lv_pop hx hb dL_law_204 rfl ?_
  refine lv_goto (tgt := 1015) hx hb dL_law_205 rfl ?_
  exact hnext rx x0 x1 x2 x3 x4 x5 x6 x7 x8 x9 x10 x11 x12 x13 x14 x15 x16 x17 x18 x19 x20 x21 x22 x23 ry y0 y1 y2 y3 y4 y5 y6 y7 y8 y9 y10 y11 y12 _ _ _ ex em (permP rot hP) (permD rot hD) hS hl
def Wx_fault (cI cZ : ClassId) (xh : Nat) (v_x : Nat) (v_q1 : Int32) (v_q2 : Int32) (v_rd : Nat) (v_t : Nat) (v_d : Nat) (v_nw : Nat) (v_ps : Nat) (v_im : Nat) (v_is_ : Nat) (v_q10 : Int32) (v_bk : Nat) (v_q12 : Int32) (v_qr : Nat) (v_pr : Nat) (v_cv : Nat) (v_ft : Nat) : va_W := [(xh, .inr (9, [.ref v_x, .int v_q1, .int v_q2, .ref v_rd, .ref v_t, .ref v_d, .ref v_nw, .ref v_ps, .ref v_im, .ref v_is_, .int v_q10, .ref v_bk, .int v_q12, .ref v_qr, .ref v_pr, .ref v_cv, .ref v_ft]))]
def Wm_fault (cI cZ : ClassId) (yh : Nat) (Rf : Nat → Nat) (G : Nat → Int32) : va_W := [(yh, .inr (10, ML G Rf))]
set_option maxHeartbeats 4000000 in
set_option maxRecDepth 100000 in
theorem law_fault {p : Program} {l : Launch} {e : Env} {s : State} {m : MethodId} {below : List Frame} {meth : Method} {c : Code} {D : va_G} {cI cZ : ClassId} {b : Nat} {xs : Nat → Int32} {L : Nat} (wr : va_W) (v_x : Nat) (v_q1 : Int32) (v_q2 : Int32) (v_rd : Nat) (v_t : Nat) (v_d : Nat) (v_nw : Nat) (v_ps : Nat) (v_im : Nat) (v_is_ : Nat) (v_q10 : Int32) (v_bk : Nat) (v_q12 : Int32) (v_qr : Nat) (v_pr : Nat) (v_cv : Nat) (v_ft : Nat) (Rf : Nat → Nat) (G : Nat → Int32) {xh yh : Nat} {iv : Int32} (C0 : lw_C p s m meth c b L xs) {H : Heap} {locs : List Loc} {ls : Array Slot} (hi1 : ¬ ((iv + 1) < 0 ∨ L ≤ (iv + 1 : Int32).toNatClampNeg)) (hi2 : ¬ ((iv + 2) < 0 ∨ L ≤ (iv + 2 : Int32).toNatClampNeg)) (hi3 : ¬ ((iv + 3) < 0 ∨ L ≤ (iv + 3 : Int32).toNatClampNeg)) (hi4 : ¬ ((iv + 4) < 0 ∨ L ≤ (iv + 4 : Int32).toNatClampNeg)) (hK : va_K D classes (TYS cI cZ) s) (hs : S_m_fault G) (hP : va_P D classes ((Wx_fault cI cZ xh v_x v_q1 v_q2 v_rd v_t v_d v_nw v_ps v_im v_is_ v_q10 v_bk v_q12 v_qr v_pr v_cv v_ft) ++ ((Wm_fault cI cZ yh Rf G) ++ wr)) H) (hD : va_D (lw_A s) ((Wx_fault cI cZ xh v_x v_q1 v_q2 v_rd v_t v_d v_nw v_ps v_im v_is_ v_q10 v_bk v_q12 v_qr v_pr v_cv v_ft) ++ ((Wm_fault cI cZ yh Rf G) ++ wr))) (hS : va_S (lw_A s) s.heap H locs) (hl : lv_has ls 4 [(0, .ref b), (1, .ref xh), (2, .ref yh), (3, .int iv)]) (hnext : ∀ (rx : Int32) (ry : Int32) (H : Heap) (locs : List Loc) (ls : Array Slot), rx = (f_e_fault_x9 v_q1 v_q2 v_q10 v_q12) → ry = (f_m_fault G) → va_P D classes ((Wx_fault cI cZ xh v_x v_q1 v_q2 v_rd v_t v_d v_nw v_ps v_im v_is_ v_q10 v_bk v_q12 v_qr v_pr v_cv v_ft) ++ ((Wm_fault cI cZ yh Rf G) ++ wr)) H → va_D (lw_A s) ((Wx_fault cI cZ xh v_x v_q1 v_q2 v_rd v_t v_d v_nw v_ps v_im v_is_ v_q10 v_bk v_q12 v_qr v_pr v_cv v_ft) ++ ((Wm_fault cI cZ yh Rf G) ++ wr)) → va_S (lw_A s) s.heap H locs → lv_has ls 4 [(0, .ref b), (1, .ref xh), (2, .ref yh), (3, .int iv)] → W p l e room_1 s m #[Value.ref b] below meth c H locs 60 4269 (lw_Z below #[Value.ref b] s) (F0 m 1015 ls [])) : W p l e room_1 s m #[Value.ref b] below meth c H locs 60 4269 (lw_Z below #[Value.ref b] s) (F0 m 208 ls []) := by
  obtain ⟨hx, hb, hr, hml, hown, hts, hX, hbl, hlocks, hN⟩ := C0
  have hA : ∀ q, s.heap.size ≤ q → lw_A s q := fun _ h => h
  have hbA : ¬ lw_A s b := Nat.not_le.mpr hbl
  refine lv_aload_n hx hb dL_law_208 rfl (lv_at hl 1 rfl) ?_
  refine cVa (wc := (Wx_fault cI cZ xh v_x v_q1 v_q2 v_rd v_t v_d v_nw v_ps v_im v_is_ v_q10 v_bk v_q12 v_qr v_pr v_cv v_ft)) (wr := ((Wm_fault cI cZ yh Rf G) ++ wr)) (rest := []) (e_fault_x9 xh v_x v_rd v_t v_d v_nw v_ps v_im v_is_ v_bk v_qr v_pr v_cv v_ft v_q1 v_q2 v_q10 v_q12) okV_X9_fault wd_712 hx hb hml hown hts hK hP hD hS hA hN hl.1 rfl rfl rfl (Nat.le_of_ble_eq_true rfl) (Nat.le_of_ble_eq_true rfl) (Nat.le_of_ble_eq_true rfl) (Nat.le_of_ble_eq_true rfl) (Nat.le_of_ble_eq_true rfl) dL_law_209 (fun rx u1 H locs ex hP hD hS => ?_)
  replace ex : rx = (f_e_fault_x9 v_q1 v_q2 v_q10 v_q12) := ex
  have hP : va_P D classes (((Wm_fault cI cZ yh Rf G) ++ wr) ++ (Wx_fault cI cZ xh v_x v_q1 v_q2 v_rd v_t v_d v_nw v_ps v_im v_is_ v_q10 v_bk v_q12 v_qr v_pr v_cv v_ft)) H := hP
  have hD : va_D (lw_A s) (((Wm_fault cI cZ yh Rf G) ++ wr) ++ (Wx_fault cI cZ xh v_x v_q1 v_q2 v_rd v_t v_d v_nw v_ps v_im v_is_ v_q10 v_bk v_q12 v_qr v_pr v_cv v_ft)) := hD
  rw [List.append_assoc] at hP hD
  refine lv_pop hx hb dL_law_212 rfl ?_
  refine lv_aload_n hx hb dL_law_213 rfl (lv_at hl 2 rfl) ?_
  refine cVa (wc := (Wm_fault cI cZ yh Rf G)) (wr := (wr ++ (Wx_fault cI cZ xh v_x v_q1 v_q2 v_rd v_t v_d v_nw v_ps v_im v_is_ v_q10 v_bk v_q12 v_qr v_pr v_cv v_ft))) (rest := []) (m_fault Rf yh G hs) okV_X10_fault wd_716 hx hb hml hown hts hK hP hD hS hA hN hl.1 rfl rfl rfl (Nat.le_of_ble_eq_true rfl) (Nat.le_of_ble_eq_true rfl) (Nat.le_of_ble_eq_true rfl) (Nat.le_of_ble_eq_true rfl) (Nat.le_of_ble_eq_true rfl) dL_law_214 (fun ry u2 H locs em hP hD hS => ?_)
  replace em : ry = (f_m_fault G) := em
  have hP : va_P D classes ((wr ++ (Wx_fault cI cZ xh v_x v_q1 v_q2 v_rd v_t v_d v_nw v_ps v_im v_is_ v_q10 v_bk v_q12 v_qr v_pr v_cv v_ft)) ++ (Wm_fault cI cZ yh Rf G)) H := hP
  have hD : va_D (lw_A s) ((wr ++ (Wx_fault cI cZ xh v_x v_q1 v_q2 v_rd v_t v_d v_nw v_ps v_im v_is_ v_q10 v_bk v_q12 v_qr v_pr v_cv v_ft)) ++ (Wm_fault cI cZ yh Rf G)) := hD
  refine lv_pop hx hb dL_law_217 rfl ?_
  refine lv_goto (tgt := 1015) hx hb dL_law_218 rfl ?_
  exact hnext rx ry _ _ _ ex em (permP rot hP) (permD rot hD) hS hl
def Wx_told (cI cZ : ClassId) (xh : Nat) (v_x : Nat) (v_q1 : Int32) (v_q2 : Int32) (v_rd : Nat) (v_t : Nat) (v_d : Nat) (v_nw : Nat) (v_ps : Nat) (v_im : Nat) (v_is_ : Nat) (v_q10 : Int32) (v_bk : Nat) (v_q12 : Int32) (v_qr : Nat) (v_pr : Nat) (v_cv : Nat) (v_ft : Nat) (v_t0 : Int32) (v_t1 : Int32) (v_t2 : Int32) (v_t3 : Int32) (v_t4 : Int32) (v_ta : Nat) (v_tb : Nat) (v_tc : Nat) (v_td : Nat) (v_te : Nat) (v_nwc : Nat) (v_fn : Nat → Int32) (v_sh : Nat) (v_p1 : Int32) (v_p2 : Int32) (v_b0 : Int32) (v_bka : Nat) (v_bkb : Nat) : va_W := [(xh, .inr (9, [.ref v_x, .int v_q1, .int v_q2, .ref v_rd, .ref v_t, .ref v_d, .ref v_nw, .ref v_ps, .ref v_im, .ref v_is_, .int v_q10, .ref v_bk, .int v_q12, .ref v_qr, .ref v_pr, .ref v_cv, .ref v_ft])), (v_t, .inr (8, [.int v_t0, .int v_t1, .int v_t2, .int v_t3, .int v_t4, .ref v_ta, .ref v_tb, .ref v_tc, .ref v_td, .ref v_te])), (v_nw, .inr (7, [.ref v_nwc])), (v_nwc, .inl (cI, 41, .inl v_fn)), (v_bk, .inr (0, [.int v_b0, .ref v_bka, .ref v_bkb])), (v_ps, .inr (2, [.ref v_sh, .int v_p1, .int v_p2]))]
def Wm_told (cI cZ : ClassId) (yh : Nat) (Rf : Nat → Nat) (G : Nat → Int32) (f0 : Nat → Int32) : va_W := [(yh, .inr (10, ML G Rf)), ((Rf 0), .inl (cI, 1302, .inl f0))]
set_option maxHeartbeats 4000000 in
set_option maxRecDepth 100000 in
theorem law_told {p : Program} {l : Launch} {e : Env} {s : State} {m : MethodId} {below : List Frame} {meth : Method} {c : Code} {D : va_G} {cI cZ : ClassId} {b : Nat} {xs : Nat → Int32} {L : Nat} (wr : va_W) (v_x : Nat) (v_q1 : Int32) (v_q2 : Int32) (v_rd : Nat) (v_t : Nat) (v_d : Nat) (v_nw : Nat) (v_ps : Nat) (v_im : Nat) (v_is_ : Nat) (v_q10 : Int32) (v_bk : Nat) (v_q12 : Int32) (v_qr : Nat) (v_pr : Nat) (v_cv : Nat) (v_ft : Nat) (v_t0 : Int32) (v_t1 : Int32) (v_t2 : Int32) (v_t3 : Int32) (v_t4 : Int32) (v_ta : Nat) (v_tb : Nat) (v_tc : Nat) (v_td : Nat) (v_te : Nat) (v_nwc : Nat) (v_fn : Nat → Int32) (v_sh : Nat) (v_p1 : Int32) (v_p2 : Int32) (v_b0 : Int32) (v_bka : Nat) (v_bkb : Nat) (Rf : Nat → Nat) (G : Nat → Int32) (f0 : Nat → Int32) {xh yh : Nat} {iv : Int32} (C0 : lw_C p s m meth c b L xs) {H : Heap} {locs : List Loc} {ls : Array Slot} (hi1 : ¬ ((iv + 1) < 0 ∨ L ≤ (iv + 1 : Int32).toNatClampNeg)) (hi2 : ¬ ((iv + 2) < 0 ∨ L ≤ (iv + 2 : Int32).toNatClampNeg)) (hi3 : ¬ ((iv + 3) < 0 ∨ L ≤ (iv + 3 : Int32).toNatClampNeg)) (hi4 : ¬ ((iv + 4) < 0 ∨ L ≤ (iv + 4 : Int32).toNatClampNeg)) (hK : va_K D classes (TYS cI cZ) s) (hs : S_m_told G f0 (xs ((iv + 1) : Int32).toNatClampNeg)) (hP : va_P D classes ((Wx_told cI cZ xh v_x v_q1 v_q2 v_rd v_t v_d v_nw v_ps v_im v_is_ v_q10 v_bk v_q12 v_qr v_pr v_cv v_ft v_t0 v_t1 v_t2 v_t3 v_t4 v_ta v_tb v_tc v_td v_te v_nwc v_fn v_sh v_p1 v_p2 v_b0 v_bka v_bkb) ++ ((Wm_told cI cZ yh Rf G f0) ++ wr)) H) (hD : va_D (lw_A s) ((Wx_told cI cZ xh v_x v_q1 v_q2 v_rd v_t v_d v_nw v_ps v_im v_is_ v_q10 v_bk v_q12 v_qr v_pr v_cv v_ft v_t0 v_t1 v_t2 v_t3 v_t4 v_ta v_tb v_tc v_td v_te v_nwc v_fn v_sh v_p1 v_p2 v_b0 v_bka v_bkb) ++ ((Wm_told cI cZ yh Rf G f0) ++ wr))) (hS : va_S (lw_A s) s.heap H locs) (hl : lv_has ls 4 [(0, .ref b), (1, .ref xh), (2, .ref yh), (3, .int iv)]) (hnext : ∀ (rx : Int32) (ry : Int32) (H : Heap) (locs : List Loc) (ls : Array Slot), rx = (f_e_told_x9 v_q1 v_q2 v_q10 v_q12 v_t0 v_t1 v_t2 v_t3 v_t4 v_fn v_b0 v_p1 v_p2 (xs ((iv + 1) : Int32).toNatClampNeg)) → ry = (f_m_told G f0 (xs ((iv + 1) : Int32).toNatClampNeg)) → va_P D classes ((Wx_told cI cZ xh v_x v_q1 v_q2 v_rd v_t v_d v_nw v_ps v_im v_is_ v_q10 v_bk v_q12 v_qr v_pr v_cv v_ft v_t0 v_t1 v_t2 v_t3 v_t4 v_ta v_tb v_tc v_td v_te v_nwc v_fn v_sh v_p1 v_p2 v_b0 v_bka v_bkb) ++ ((Wm_told cI cZ yh Rf G f0) ++ wr)) H → va_D (lw_A s) ((Wx_told cI cZ xh v_x v_q1 v_q2 v_rd v_t v_d v_nw v_ps v_im v_is_ v_q10 v_bk v_q12 v_qr v_pr v_cv v_ft v_t0 v_t1 v_t2 v_t3 v_t4 v_ta v_tb v_tc v_td v_te v_nwc v_fn v_sh v_p1 v_p2 v_b0 v_bka v_bkb) ++ ((Wm_told cI cZ yh Rf G f0) ++ wr)) → va_S (lw_A s) s.heap H locs → lv_has ls 4 [(0, .ref b), (1, .ref xh), (2, .ref yh), (3, .int iv)] → W p l e room_1 s m #[Value.ref b] below meth c H locs 60 4269 (lw_Z below #[Value.ref b] s) (F0 m 1015 ls [])) : W p l e room_1 s m #[Value.ref b] below meth c H locs 60 4269 (lw_Z below #[Value.ref b] s) (F0 m 221 ls []) := by
  obtain ⟨hx, hb, hr, hml, hown, hts, hX, hbl, hlocks, hN⟩ := C0
  have hA : ∀ q, s.heap.size ≤ q → lw_A s q := fun _ h => h
  have hbA : ¬ lw_A s b := Nat.not_le.mpr hbl
  refine lv_aload_n hx hb dL_law_221 rfl (lv_at hl 1 rfl) ?_
  refine lv_aload_n hx hb dL_law_222 rfl (lv_at hl 0 rfl) ?_
  refine lv_iload_n hx hb dL_law_223 rfl (lv_at hl 3 rfl) ?_
  refine lv_iconst (v := 1) hx hb dL_law_224 rfl ?_
  refine lv_iadd hx hb dL_law_225 ?_
  refine va_sld hx hb hX hbl hbA hS hi1 dL_law_226 ?_
  refine cVa (wc := (Wx_told cI cZ xh v_x v_q1 v_q2 v_rd v_t v_d v_nw v_ps v_im v_is_ v_q10 v_bk v_q12 v_qr v_pr v_cv v_ft v_t0 v_t1 v_t2 v_t3 v_t4 v_ta v_tb v_tc v_td v_te v_nwc v_fn v_sh v_p1 v_p2 v_b0 v_bka v_bkb)) (wr := ((Wm_told cI cZ yh Rf G f0) ++ wr)) (rest := []) (e_told_x9 xh v_x v_rd v_t v_d v_nw v_ps v_im v_is_ v_bk v_qr v_pr v_cv v_ft v_ta v_tb v_tc v_td v_te v_nwc v_bka v_bkb v_sh v_q1 v_q2 v_q10 v_q12 v_t0 v_t1 v_t2 v_t3 v_t4 v_fn v_b0 v_p1 v_p2 (xs ((iv + 1) : Int32).toNatClampNeg)) okV_X9_told wd_720 hx hb hml hown hts hK hP hD hS hA hN hl.1 rfl rfl rfl (Nat.le_of_ble_eq_true rfl) (Nat.le_of_ble_eq_true rfl) (Nat.le_of_ble_eq_true rfl) (Nat.le_of_ble_eq_true rfl) (Nat.le_of_ble_eq_true rfl) dL_law_227 (fun rx u1 H locs ex hP hD hS => ?_)
  replace ex : rx = (f_e_told_x9 v_q1 v_q2 v_q10 v_q12 v_t0 v_t1 v_t2 v_t3 v_t4 v_fn v_b0 v_p1 v_p2 (xs ((iv + 1) : Int32).toNatClampNeg)) := ex
  have hP : va_P D classes (((Wm_told cI cZ yh Rf G f0) ++ wr) ++ (Wx_told cI cZ xh v_x v_q1 v_q2 v_rd v_t v_d v_nw v_ps v_im v_is_ v_q10 v_bk v_q12 v_qr v_pr v_cv v_ft v_t0 v_t1 v_t2 v_t3 v_t4 v_ta v_tb v_tc v_td v_te v_nwc v_fn v_sh v_p1 v_p2 v_b0 v_bka v_bkb)) H := hP
  have hD : va_D (lw_A s) (((Wm_told cI cZ yh Rf G f0) ++ wr) ++ (Wx_told cI cZ xh v_x v_q1 v_q2 v_rd v_t v_d v_nw v_ps v_im v_is_ v_q10 v_bk v_q12 v_qr v_pr v_cv v_ft v_t0 v_t1 v_t2 v_t3 v_t4 v_ta v_tb v_tc v_td v_te v_nwc v_fn v_sh v_p1 v_p2 v_b0 v_bka v_bkb)) := hD
  rw [List.append_assoc] at hP hD
  refine lv_pop hx hb dL_law_230 rfl ?_
  refine lv_aload_n hx hb dL_law_231 rfl (lv_at hl 2 rfl) ?_
  refine lv_aload_n hx hb dL_law_232 rfl (lv_at hl 0 rfl) ?_
  refine lv_iload_n hx hb dL_law_233 rfl (lv_at hl 3 rfl) ?_
  refine lv_iconst (v := 1) hx hb dL_law_234 rfl ?_
  refine lv_iadd hx hb dL_law_235 ?_
  refine va_sld hx hb hX hbl hbA hS hi1 dL_law_236 ?_
  refine cVa (wc := (Wm_told cI cZ yh Rf G f0)) (wr := (wr ++ (Wx_told cI cZ xh v_x v_q1 v_q2 v_rd v_t v_d v_nw v_ps v_im v_is_ v_q10 v_bk v_q12 v_qr v_pr v_cv v_ft v_t0 v_t1 v_t2 v_t3 v_t4 v_ta v_tb v_tc v_td v_te v_nwc v_fn v_sh v_p1 v_p2 v_b0 v_bka v_bkb))) (rest := []) (m_told Rf yh G f0 (xs ((iv + 1) : Int32).toNatClampNeg) hs) okV_X10_told wd_724 hx hb hml hown hts hK hP hD hS hA hN hl.1 rfl rfl rfl (Nat.le_of_ble_eq_true rfl) (Nat.le_of_ble_eq_true rfl) (Nat.le_of_ble_eq_true rfl) (Nat.le_of_ble_eq_true rfl) (Nat.le_of_ble_eq_true rfl) dL_law_237 (fun ry u2 H locs em hP hD hS => ?_)
  replace em : ry = (f_m_told G f0 (xs ((iv + 1) : Int32).toNatClampNeg)) := em
  have hP : va_P D classes ((wr ++ (Wx_told cI cZ xh v_x v_q1 v_q2 v_rd v_t v_d v_nw v_ps v_im v_is_ v_q10 v_bk v_q12 v_qr v_pr v_cv v_ft v_t0 v_t1 v_t2 v_t3 v_t4 v_ta v_tb v_tc v_td v_te v_nwc v_fn v_sh v_p1 v_p2 v_b0 v_bka v_bkb)) ++ (Wm_told cI cZ yh Rf G f0)) H := hP
  have hD : va_D (lw_A s) ((wr ++ (Wx_told cI cZ xh v_x v_q1 v_q2 v_rd v_t v_d v_nw v_ps v_im v_is_ v_q10 v_bk v_q12 v_qr v_pr v_cv v_ft v_t0 v_t1 v_t2 v_t3 v_t4 v_ta v_tb v_tc v_td v_te v_nwc v_fn v_sh v_p1 v_p2 v_b0 v_bka v_bkb)) ++ (Wm_told cI cZ yh Rf G f0)) := hD
  refine lv_pop hx hb dL_law_240 rfl ?_
  refine lv_goto (tgt := 1015) hx hb dL_law_241 rfl ?_
  exact hnext rx ry _ _ _ ex em (permP rot hP) (permD rot hD) hS hl
def Wx_bridge (cI cZ : ClassId) (xh : Nat) (v_x : Nat) (v_q1 : Int32) (v_q2 : Int32) (v_rd : Nat) (v_t : Nat) (v_d : Nat) (v_nw : Nat) (v_ps : Nat) (v_im : Nat) (v_is_ : Nat) (v_q10 : Int32) (v_bk : Nat) (v_q12 : Int32) (v_qr : Nat) (v_pr : Nat) (v_cv : Nat) (v_ft : Nat) (v_t0 : Int32) (v_t1 : Int32) (v_t2 : Int32) (v_t3 : Int32) (v_t4 : Int32) (v_ta : Nat) (v_tb : Nat) (v_tc : Nat) (v_td : Nat) (v_te : Nat) (v_fta : Nat → Int32) (v_nwc : Nat) (v_fn : Nat → Int32) : va_W := [(xh, .inr (9, [.ref v_x, .int v_q1, .int v_q2, .ref v_rd, .ref v_t, .ref v_d, .ref v_nw, .ref v_ps, .ref v_im, .ref v_is_, .int v_q10, .ref v_bk, .int v_q12, .ref v_qr, .ref v_pr, .ref v_cv, .ref v_ft])), (v_t, .inr (8, [.int v_t0, .int v_t1, .int v_t2, .int v_t3, .int v_t4, .ref v_ta, .ref v_tb, .ref v_tc, .ref v_td, .ref v_te])), (v_ta, .inl (cI, 6, .inl v_fta)), (v_nw, .inr (7, [.ref v_nwc])), (v_nwc, .inl (cI, 41, .inl v_fn))]
def Wm_bridge (cI cZ : ClassId) (yh : Nat) (Rf : Nat → Nat) (G : Nat → Int32) (f0 : Nat → Int32) (f8 : Nat → Int32) : va_W := [(yh, .inr (10, ML G Rf)), ((Rf 0), .inl (cI, 1302, .inl f0)), ((Rf 8), .inl (cI, 6, .inl f8))]
set_option maxHeartbeats 4000000 in
set_option maxRecDepth 100000 in
theorem law_bridge {p : Program} {l : Launch} {e : Env} {s : State} {m : MethodId} {below : List Frame} {meth : Method} {c : Code} {D : va_G} {cI cZ : ClassId} {b : Nat} {xs : Nat → Int32} {L : Nat} (wr : va_W) (v_x : Nat) (v_q1 : Int32) (v_q2 : Int32) (v_rd : Nat) (v_t : Nat) (v_d : Nat) (v_nw : Nat) (v_ps : Nat) (v_im : Nat) (v_is_ : Nat) (v_q10 : Int32) (v_bk : Nat) (v_q12 : Int32) (v_qr : Nat) (v_pr : Nat) (v_cv : Nat) (v_ft : Nat) (v_t0 : Int32) (v_t1 : Int32) (v_t2 : Int32) (v_t3 : Int32) (v_t4 : Int32) (v_ta : Nat) (v_tb : Nat) (v_tc : Nat) (v_td : Nat) (v_te : Nat) (v_fta : Nat → Int32) (v_nwc : Nat) (v_fn : Nat → Int32) (Rf : Nat → Nat) (G : Nat → Int32) (f0 : Nat → Int32) (f8 : Nat → Int32) {xh yh : Nat} {iv : Int32} (C0 : lw_C p s m meth c b L xs) {H : Heap} {locs : List Loc} {ls : Array Slot} (hi1 : ¬ ((iv + 1) < 0 ∨ L ≤ (iv + 1 : Int32).toNatClampNeg)) (hi2 : ¬ ((iv + 2) < 0 ∨ L ≤ (iv + 2 : Int32).toNatClampNeg)) (hi3 : ¬ ((iv + 3) < 0 ∨ L ≤ (iv + 3 : Int32).toNatClampNeg)) (hi4 : ¬ ((iv + 4) < 0 ∨ L ≤ (iv + 4 : Int32).toNatClampNeg)) (hK : va_K D classes (TYS cI cZ) s) (hs : S_m_bridge G f0 f8 (xs ((iv + 1) : Int32).toNatClampNeg) (xs ((iv + 2) : Int32).toNatClampNeg)) (hP : va_P D classes ((Wx_bridge cI cZ xh v_x v_q1 v_q2 v_rd v_t v_d v_nw v_ps v_im v_is_ v_q10 v_bk v_q12 v_qr v_pr v_cv v_ft v_t0 v_t1 v_t2 v_t3 v_t4 v_ta v_tb v_tc v_td v_te v_fta v_nwc v_fn) ++ ((Wm_bridge cI cZ yh Rf G f0 f8) ++ wr)) H) (hD : va_D (lw_A s) ((Wx_bridge cI cZ xh v_x v_q1 v_q2 v_rd v_t v_d v_nw v_ps v_im v_is_ v_q10 v_bk v_q12 v_qr v_pr v_cv v_ft v_t0 v_t1 v_t2 v_t3 v_t4 v_ta v_tb v_tc v_td v_te v_fta v_nwc v_fn) ++ ((Wm_bridge cI cZ yh Rf G f0 f8) ++ wr))) (hS : va_S (lw_A s) s.heap H locs) (hl : lv_has ls 4 [(0, .ref b), (1, .ref xh), (2, .ref yh), (3, .int iv)]) (hnext : ∀ (rx : Int32) (ry : Int32) (H : Heap) (locs : List Loc) (ls : Array Slot), rx = (f_e_bridge_x9 v_q1 v_q2 v_q10 v_q12 v_t0 v_t1 v_t2 v_t3 v_t4 v_fta v_fn (xs ((iv + 1) : Int32).toNatClampNeg) (xs ((iv + 2) : Int32).toNatClampNeg)) → ry = (f_m_bridge G f0 f8 (xs ((iv + 1) : Int32).toNatClampNeg) (xs ((iv + 2) : Int32).toNatClampNeg)) → va_P D classes ((Wx_bridge cI cZ xh v_x v_q1 v_q2 v_rd v_t v_d v_nw v_ps v_im v_is_ v_q10 v_bk v_q12 v_qr v_pr v_cv v_ft v_t0 v_t1 v_t2 v_t3 v_t4 v_ta v_tb v_tc v_td v_te v_fta v_nwc v_fn) ++ ((Wm_bridge cI cZ yh Rf G f0 f8) ++ wr)) H → va_D (lw_A s) ((Wx_bridge cI cZ xh v_x v_q1 v_q2 v_rd v_t v_d v_nw v_ps v_im v_is_ v_q10 v_bk v_q12 v_qr v_pr v_cv v_ft v_t0 v_t1 v_t2 v_t3 v_t4 v_ta v_tb v_tc v_td v_te v_fta v_nwc v_fn) ++ ((Wm_bridge cI cZ yh Rf G f0 f8) ++ wr)) → va_S (lw_A s) s.heap H locs → lv_has ls 4 [(0, .ref b), (1, .ref xh), (2, .ref yh), (3, .int iv)] → W p l e room_1 s m #[Value.ref b] below meth c H locs 60 4269 (lw_Z below #[Value.ref b] s) (F0 m 1015 ls [])) : W p l e room_1 s m #[Value.ref b] below meth c H locs 60 4269 (lw_Z below #[Value.ref b] s) (F0 m 244 ls []) := by
  obtain ⟨hx, hb, hr, hml, hown, hts, hX, hbl, hlocks, hN⟩ := C0
  have hA : ∀ q, s.heap.size ≤ q → lw_A s q := fun _ h => h
  have hbA : ¬ lw_A s b := Nat.not_le.mpr hbl
  refine lv_aload_n hx hb dL_law_244 rfl (lv_at hl 1 rfl) ?_
  refine lv_aload_n hx hb dL_law_245 rfl (lv_at hl 0 rfl) ?_
  refine lv_iload_n hx hb dL_law_246 rfl (lv_at hl 3 rfl) ?_
  refine lv_iconst (v := 1) hx hb dL_law_247 rfl ?_
  refine lv_iadd hx hb dL_law_248 ?_
  refine va_sld hx hb hX hbl hbA hS hi1 dL_law_249 ?_
  refine lv_aload_n hx hb dL_law_250 rfl (lv_at hl 0 rfl) ?_
  refine lv_iload_n hx hb dL_law_251 rfl (lv_at hl 3 rfl) ?_
  refine lv_iconst (v := 2) hx hb dL_law_252 rfl ?_
  refine lv_iadd hx hb dL_law_253 ?_
  refine va_sld hx hb hX hbl hbA hS hi2 dL_law_254 ?_
  refine cVa (wc := (Wx_bridge cI cZ xh v_x v_q1 v_q2 v_rd v_t v_d v_nw v_ps v_im v_is_ v_q10 v_bk v_q12 v_qr v_pr v_cv v_ft v_t0 v_t1 v_t2 v_t3 v_t4 v_ta v_tb v_tc v_td v_te v_fta v_nwc v_fn)) (wr := ((Wm_bridge cI cZ yh Rf G f0 f8) ++ wr)) (rest := []) (e_bridge_x9 xh v_x v_rd v_t v_d v_nw v_ps v_im v_is_ v_bk v_qr v_pr v_cv v_ft v_ta v_tb v_tc v_td v_te v_nwc v_q1 v_q2 v_q10 v_q12 v_t0 v_t1 v_t2 v_t3 v_t4 v_fta v_fn (xs ((iv + 1) : Int32).toNatClampNeg) (xs ((iv + 2) : Int32).toNatClampNeg)) okV_X9_bridge wd_728 hx hb hml hown hts hK hP hD hS hA hN hl.1 rfl rfl rfl (Nat.le_of_ble_eq_true rfl) (Nat.le_of_ble_eq_true rfl) (Nat.le_of_ble_eq_true rfl) (Nat.le_of_ble_eq_true rfl) (Nat.le_of_ble_eq_true rfl) dL_law_255 (fun rx u1 H locs ex hP hD hS => ?_)
  replace ex : rx = (f_e_bridge_x9 v_q1 v_q2 v_q10 v_q12 v_t0 v_t1 v_t2 v_t3 v_t4 v_fta v_fn (xs ((iv + 1) : Int32).toNatClampNeg) (xs ((iv + 2) : Int32).toNatClampNeg)) := ex
  have hP : va_P D classes (((Wm_bridge cI cZ yh Rf G f0 f8) ++ wr) ++ (Wx_bridge cI cZ xh v_x v_q1 v_q2 v_rd v_t v_d v_nw v_ps v_im v_is_ v_q10 v_bk v_q12 v_qr v_pr v_cv v_ft v_t0 v_t1 v_t2 v_t3 v_t4 v_ta v_tb v_tc v_td v_te v_fta v_nwc v_fn)) H := hP
  have hD : va_D (lw_A s) (((Wm_bridge cI cZ yh Rf G f0 f8) ++ wr) ++ (Wx_bridge cI cZ xh v_x v_q1 v_q2 v_rd v_t v_d v_nw v_ps v_im v_is_ v_q10 v_bk v_q12 v_qr v_pr v_cv v_ft v_t0 v_t1 v_t2 v_t3 v_t4 v_ta v_tb v_tc v_td v_te v_fta v_nwc v_fn)) := hD
  rw [List.append_assoc] at hP hD
  refine lv_pop hx hb dL_law_258 rfl ?_
  refine lv_aload_n hx hb dL_law_259 rfl (lv_at hl 2 rfl) ?_
  refine lv_aload_n hx hb dL_law_260 rfl (lv_at hl 0 rfl) ?_
  refine lv_iload_n hx hb dL_law_261 rfl (lv_at hl 3 rfl) ?_
  refine lv_iconst (v := 1) hx hb dL_law_262 rfl ?_
  refine lv_iadd hx hb dL_law_263 ?_
  refine va_sld hx hb hX hbl hbA hS hi1 dL_law_264 ?_
  refine lv_aload_n hx hb dL_law_265 rfl (lv_at hl 0 rfl) ?_
  refine lv_iload_n hx hb dL_law_266 rfl (lv_at hl 3 rfl) ?_
  refine lv_iconst (v := 2) hx hb dL_law_267 rfl ?_
  refine lv_iadd hx hb dL_law_268 ?_
  refine va_sld hx hb hX hbl hbA hS hi2 dL_law_269 ?_
  refine cVa (wc := (Wm_bridge cI cZ yh Rf G f0 f8)) (wr := (wr ++ (Wx_bridge cI cZ xh v_x v_q1 v_q2 v_rd v_t v_d v_nw v_ps v_im v_is_ v_q10 v_bk v_q12 v_qr v_pr v_cv v_ft v_t0 v_t1 v_t2 v_t3 v_t4 v_ta v_tb v_tc v_td v_te v_fta v_nwc v_fn))) (rest := []) (m_bridge Rf yh G f0 f8 (xs ((iv + 1) : Int32).toNatClampNeg) (xs ((iv + 2) : Int32).toNatClampNeg) hs) okV_X10_bridge wd_732 hx hb hml hown hts hK hP hD hS hA hN hl.1 rfl rfl rfl (Nat.le_of_ble_eq_true rfl) (Nat.le_of_ble_eq_true rfl) (Nat.le_of_ble_eq_true rfl) (Nat.le_of_ble_eq_true rfl) (Nat.le_of_ble_eq_true rfl) dL_law_270 (fun ry u2 H locs em hP hD hS => ?_)
  replace em : ry = (f_m_bridge G f0 f8 (xs ((iv + 1) : Int32).toNatClampNeg) (xs ((iv + 2) : Int32).toNatClampNeg)) := em
  have hP : va_P D classes ((wr ++ (Wx_bridge cI cZ xh v_x v_q1 v_q2 v_rd v_t v_d v_nw v_ps v_im v_is_ v_q10 v_bk v_q12 v_qr v_pr v_cv v_ft v_t0 v_t1 v_t2 v_t3 v_t4 v_ta v_tb v_tc v_td v_te v_fta v_nwc v_fn)) ++ (Wm_bridge cI cZ yh Rf G f0 f8)) H := hP
  have hD : va_D (lw_A s) ((wr ++ (Wx_bridge cI cZ xh v_x v_q1 v_q2 v_rd v_t v_d v_nw v_ps v_im v_is_ v_q10 v_bk v_q12 v_qr v_pr v_cv v_ft v_t0 v_t1 v_t2 v_t3 v_t4 v_ta v_tb v_tc v_td v_te v_fta v_nwc v_fn)) ++ (Wm_bridge cI cZ yh Rf G f0 f8)) := hD
  refine lv_pop hx hb dL_law_273 rfl ?_
  refine lv_goto (tgt := 1015) hx hb dL_law_274 rfl ?_
  exact hnext rx ry _ _ _ ex em (permP rot hP) (permD rot hD) hS hl
def Wx_couple (cI cZ : ClassId) (xh : Nat) (v_x : Nat) (v_q1 : Int32) (v_q2 : Int32) (v_rd : Nat) (v_t : Nat) (v_d : Nat) (v_nw : Nat) (v_ps : Nat) (v_im : Nat) (v_is_ : Nat) (v_q10 : Int32) (v_bk : Nat) (v_q12 : Int32) (v_qr : Nat) (v_pr : Nat) (v_cv : Nat) (v_ft : Nat) (v_t0 : Int32) (v_t1 : Int32) (v_t2 : Int32) (v_t3 : Int32) (v_t4 : Int32) (v_ta : Nat) (v_tb : Nat) (v_tc : Nat) (v_td : Nat) (v_te : Nat) (v_ftb : Nat → Int32) (v_nwc : Nat) (v_fn : Nat → Int32) : va_W := [(xh, .inr (9, [.ref v_x, .int v_q1, .int v_q2, .ref v_rd, .ref v_t, .ref v_d, .ref v_nw, .ref v_ps, .ref v_im, .ref v_is_, .int v_q10, .ref v_bk, .int v_q12, .ref v_qr, .ref v_pr, .ref v_cv, .ref v_ft])), (v_t, .inr (8, [.int v_t0, .int v_t1, .int v_t2, .int v_t3, .int v_t4, .ref v_ta, .ref v_tb, .ref v_tc, .ref v_td, .ref v_te])), (v_tb, .inl (cI, 6, .inl v_ftb)), (v_nw, .inr (7, [.ref v_nwc])), (v_nwc, .inl (cI, 41, .inl v_fn))]
def Wm_couple (cI cZ : ClassId) (yh : Nat) (Rf : Nat → Nat) (G : Nat → Int32) (f0 : Nat → Int32) (f9 : Nat → Int32) : va_W := [(yh, .inr (10, ML G Rf)), ((Rf 0), .inl (cI, 1302, .inl f0)), ((Rf 9), .inl (cI, 6, .inl f9))]
set_option maxHeartbeats 4000000 in
set_option maxRecDepth 100000 in
theorem law_couple {p : Program} {l : Launch} {e : Env} {s : State} {m : MethodId} {below : List Frame} {meth : Method} {c : Code} {D : va_G} {cI cZ : ClassId} {b : Nat} {xs : Nat → Int32} {L : Nat} (wr : va_W) (v_x : Nat) (v_q1 : Int32) (v_q2 : Int32) (v_rd : Nat) (v_t : Nat) (v_d : Nat) (v_nw : Nat) (v_ps : Nat) (v_im : Nat) (v_is_ : Nat) (v_q10 : Int32) (v_bk : Nat) (v_q12 : Int32) (v_qr : Nat) (v_pr : Nat) (v_cv : Nat) (v_ft : Nat) (v_t0 : Int32) (v_t1 : Int32) (v_t2 : Int32) (v_t3 : Int32) (v_t4 : Int32) (v_ta : Nat) (v_tb : Nat) (v_tc : Nat) (v_td : Nat) (v_te : Nat) (v_ftb : Nat → Int32) (v_nwc : Nat) (v_fn : Nat → Int32) (Rf : Nat → Nat) (G : Nat → Int32) (f0 : Nat → Int32) (f9 : Nat → Int32) {xh yh : Nat} {iv : Int32} (C0 : lw_C p s m meth c b L xs) {H : Heap} {locs : List Loc} {ls : Array Slot} (hi1 : ¬ ((iv + 1) < 0 ∨ L ≤ (iv + 1 : Int32).toNatClampNeg)) (hi2 : ¬ ((iv + 2) < 0 ∨ L ≤ (iv + 2 : Int32).toNatClampNeg)) (hi3 : ¬ ((iv + 3) < 0 ∨ L ≤ (iv + 3 : Int32).toNatClampNeg)) (hi4 : ¬ ((iv + 4) < 0 ∨ L ≤ (iv + 4 : Int32).toNatClampNeg)) (hK : va_K D classes (TYS cI cZ) s) (hs : S_m_couple G f0 f9 (xs ((iv + 1) : Int32).toNatClampNeg) (xs ((iv + 2) : Int32).toNatClampNeg)) (hP : va_P D classes ((Wx_couple cI cZ xh v_x v_q1 v_q2 v_rd v_t v_d v_nw v_ps v_im v_is_ v_q10 v_bk v_q12 v_qr v_pr v_cv v_ft v_t0 v_t1 v_t2 v_t3 v_t4 v_ta v_tb v_tc v_td v_te v_ftb v_nwc v_fn) ++ ((Wm_couple cI cZ yh Rf G f0 f9) ++ wr)) H) (hD : va_D (lw_A s) ((Wx_couple cI cZ xh v_x v_q1 v_q2 v_rd v_t v_d v_nw v_ps v_im v_is_ v_q10 v_bk v_q12 v_qr v_pr v_cv v_ft v_t0 v_t1 v_t2 v_t3 v_t4 v_ta v_tb v_tc v_td v_te v_ftb v_nwc v_fn) ++ ((Wm_couple cI cZ yh Rf G f0 f9) ++ wr))) (hS : va_S (lw_A s) s.heap H locs) (hl : lv_has ls 4 [(0, .ref b), (1, .ref xh), (2, .ref yh), (3, .int iv)]) (hnext : ∀ (rx : Int32) (ry : Int32) (H : Heap) (locs : List Loc) (ls : Array Slot), rx = (f_e_couple_x9 v_q1 v_q2 v_q10 v_q12 v_t0 v_t1 v_t2 v_t3 v_t4 v_ftb v_fn (xs ((iv + 1) : Int32).toNatClampNeg) (xs ((iv + 2) : Int32).toNatClampNeg)) → ry = (f_m_couple G f0 f9 (xs ((iv + 1) : Int32).toNatClampNeg) (xs ((iv + 2) : Int32).toNatClampNeg)) → va_P D classes ((Wx_couple cI cZ xh v_x v_q1 v_q2 v_rd v_t v_d v_nw v_ps v_im v_is_ v_q10 v_bk v_q12 v_qr v_pr v_cv v_ft v_t0 v_t1 v_t2 v_t3 v_t4 v_ta v_tb v_tc v_td v_te v_ftb v_nwc v_fn) ++ ((Wm_couple cI cZ yh Rf G f0 f9) ++ wr)) H → va_D (lw_A s) ((Wx_couple cI cZ xh v_x v_q1 v_q2 v_rd v_t v_d v_nw v_ps v_im v_is_ v_q10 v_bk v_q12 v_qr v_pr v_cv v_ft v_t0 v_t1 v_t2 v_t3 v_t4 v_ta v_tb v_tc v_td v_te v_ftb v_nwc v_fn) ++ ((Wm_couple cI cZ yh Rf G f0 f9) ++ wr)) → va_S (lw_A s) s.heap H locs → lv_has ls 4 [(0, .ref b), (1, .ref xh), (2, .ref yh), (3, .int iv)] → W p l e room_1 s m #[Value.ref b] below meth c H locs 60 4269 (lw_Z below #[Value.ref b] s) (F0 m 1015 ls [])) : W p l e room_1 s m #[Value.ref b] below meth c H locs 60 4269 (lw_Z below #[Value.ref b] s) (F0 m 277 ls []) := by
  obtain ⟨hx, hb, hr, hml, hown, hts, hX, hbl, hlocks, hN⟩ := C0
  have hA : ∀ q, s.heap.size ≤ q → lw_A s q := fun _ h => h
  have hbA : ¬ lw_A s b := Nat.not_le.mpr hbl
  refine lv_aload_n hx hb dL_law_277 rfl (lv_at hl 1 rfl) ?_
  refine lv_aload_n hx hb dL_law_278 rfl (lv_at hl 0 rfl) ?_
  refine lv_iload_n hx hb dL_law_279 rfl (lv_at hl 3 rfl) ?_
  refine lv_iconst (v := 1) hx hb dL_law_280 rfl ?_
  refine lv_iadd hx hb dL_law_281 ?_
  refine va_sld hx hb hX hbl hbA hS hi1 dL_law_282 ?_
  refine lv_aload_n hx hb dL_law_283 rfl (lv_at hl 0 rfl) ?_
  refine lv_iload_n hx hb dL_law_284 rfl (lv_at hl 3 rfl) ?_
  refine lv_iconst (v := 2) hx hb dL_law_285 rfl ?_
  refine lv_iadd hx hb dL_law_286 ?_
  refine va_sld hx hb hX hbl hbA hS hi2 dL_law_287 ?_
  refine cVa (wc := (Wx_couple cI cZ xh v_x v_q1 v_q2 v_rd v_t v_d v_nw v_ps v_im v_is_ v_q10 v_bk v_q12 v_qr v_pr v_cv v_ft v_t0 v_t1 v_t2 v_t3 v_t4 v_ta v_tb v_tc v_td v_te v_ftb v_nwc v_fn)) (wr := ((Wm_couple cI cZ yh Rf G f0 f9) ++ wr)) (rest := []) (e_couple_x9 xh v_x v_rd v_t v_d v_nw v_ps v_im v_is_ v_bk v_qr v_pr v_cv v_ft v_ta v_tb v_tc v_td v_te v_nwc v_q1 v_q2 v_q10 v_q12 v_t0 v_t1 v_t2 v_t3 v_t4 v_ftb v_fn (xs ((iv + 1) : Int32).toNatClampNeg) (xs ((iv + 2) : Int32).toNatClampNeg)) okV_X9_couple wd_736 hx hb hml hown hts hK hP hD hS hA hN hl.1 rfl rfl rfl (Nat.le_of_ble_eq_true rfl) (Nat.le_of_ble_eq_true rfl) (Nat.le_of_ble_eq_true rfl) (Nat.le_of_ble_eq_true rfl) (Nat.le_of_ble_eq_true rfl) dL_law_288 (fun rx u1 H locs ex hP hD hS => ?_)
  replace ex : rx = (f_e_couple_x9 v_q1 v_q2 v_q10 v_q12 v_t0 v_t1 v_t2 v_t3 v_t4 v_ftb v_fn (xs ((iv + 1) : Int32).toNatClampNeg) (xs ((iv + 2) : Int32).toNatClampNeg)) := ex
  have hP : va_P D classes (((Wm_couple cI cZ yh Rf G f0 f9) ++ wr) ++ (Wx_couple cI cZ xh v_x v_q1 v_q2 v_rd v_t v_d v_nw v_ps v_im v_is_ v_q10 v_bk v_q12 v_qr v_pr v_cv v_ft v_t0 v_t1 v_t2 v_t3 v_t4 v_ta v_tb v_tc v_td v_te v_ftb v_nwc v_fn)) H := hP
  have hD : va_D (lw_A s) (((Wm_couple cI cZ yh Rf G f0 f9) ++ wr) ++ (Wx_couple cI cZ xh v_x v_q1 v_q2 v_rd v_t v_d v_nw v_ps v_im v_is_ v_q10 v_bk v_q12 v_qr v_pr v_cv v_ft v_t0 v_t1 v_t2 v_t3 v_t4 v_ta v_tb v_tc v_td v_te v_ftb v_nwc v_fn)) := hD
  rw [List.append_assoc] at hP hD
  refine lv_pop hx hb dL_law_291 rfl ?_
  refine lv_aload_n hx hb dL_law_292 rfl (lv_at hl 2 rfl) ?_
  refine lv_aload_n hx hb dL_law_293 rfl (lv_at hl 0 rfl) ?_
  refine lv_iload_n hx hb dL_law_294 rfl (lv_at hl 3 rfl) ?_
  refine lv_iconst (v := 1) hx hb dL_law_295 rfl ?_
  refine lv_iadd hx hb dL_law_296 ?_
  refine va_sld hx hb hX hbl hbA hS hi1 dL_law_297 ?_
  refine lv_aload_n hx hb dL_law_298 rfl (lv_at hl 0 rfl) ?_
  refine lv_iload_n hx hb dL_law_299 rfl (lv_at hl 3 rfl) ?_
  refine lv_iconst (v := 2) hx hb dL_law_300 rfl ?_
  refine lv_iadd hx hb dL_law_301 ?_
  refine va_sld hx hb hX hbl hbA hS hi2 dL_law_302 ?_
  refine cVa (wc := (Wm_couple cI cZ yh Rf G f0 f9)) (wr := (wr ++ (Wx_couple cI cZ xh v_x v_q1 v_q2 v_rd v_t v_d v_nw v_ps v_im v_is_ v_q10 v_bk v_q12 v_qr v_pr v_cv v_ft v_t0 v_t1 v_t2 v_t3 v_t4 v_ta v_tb v_tc v_td v_te v_ftb v_nwc v_fn))) (rest := []) (m_couple Rf yh G f0 f9 (xs ((iv + 1) : Int32).toNatClampNeg) (xs ((iv + 2) : Int32).toNatClampNeg) hs) okV_X10_couple wd_740 hx hb hml hown hts hK hP hD hS hA hN hl.1 rfl rfl rfl (Nat.le_of_ble_eq_true rfl) (Nat.le_of_ble_eq_true rfl) (Nat.le_of_ble_eq_true rfl) (Nat.le_of_ble_eq_true rfl) (Nat.le_of_ble_eq_true rfl) dL_law_303 (fun ry u2 H locs em hP hD hS => ?_)
  replace em : ry = (f_m_couple G f0 f9 (xs ((iv + 1) : Int32).toNatClampNeg) (xs ((iv + 2) : Int32).toNatClampNeg)) := em
  have hP : va_P D classes ((wr ++ (Wx_couple cI cZ xh v_x v_q1 v_q2 v_rd v_t v_d v_nw v_ps v_im v_is_ v_q10 v_bk v_q12 v_qr v_pr v_cv v_ft v_t0 v_t1 v_t2 v_t3 v_t4 v_ta v_tb v_tc v_td v_te v_ftb v_nwc v_fn)) ++ (Wm_couple cI cZ yh Rf G f0 f9)) H := hP
  have hD : va_D (lw_A s) ((wr ++ (Wx_couple cI cZ xh v_x v_q1 v_q2 v_rd v_t v_d v_nw v_ps v_im v_is_ v_q10 v_bk v_q12 v_qr v_pr v_cv v_ft v_t0 v_t1 v_t2 v_t3 v_t4 v_ta v_tb v_tc v_td v_te v_ftb v_nwc v_fn)) ++ (Wm_couple cI cZ yh Rf G f0 f9)) := hD
  refine lv_pop hx hb dL_law_306 rfl ?_
  refine lv_goto (tgt := 1015) hx hb dL_law_307 rfl ?_
  exact hnext rx ry _ _ _ ex em (permP rot hP) (permD rot hD) hS hl
def Wx_force (cI cZ : ClassId) (xh : Nat) (v_x : Nat) (v_q1 : Int32) (v_q2 : Int32) (v_rd : Nat) (v_t : Nat) (v_d : Nat) (v_nw : Nat) (v_ps : Nat) (v_im : Nat) (v_is_ : Nat) (v_q10 : Int32) (v_bk : Nat) (v_q12 : Int32) (v_qr : Nat) (v_pr : Nat) (v_cv : Nat) (v_ft : Nat) (v_t0 : Int32) (v_t1 : Int32) (v_t2 : Int32) (v_t3 : Int32) (v_t4 : Int32) (v_ta : Nat) (v_tb : Nat) (v_tc : Nat) (v_td : Nat) (v_te : Nat) (v_ftc : Nat → Int32) : va_W := [(xh, .inr (9, [.ref v_x, .int v_q1, .int v_q2, .ref v_rd, .ref v_t, .ref v_d, .ref v_nw, .ref v_ps, .ref v_im, .ref v_is_, .int v_q10, .ref v_bk, .int v_q12, .ref v_qr, .ref v_pr, .ref v_cv, .ref v_ft])), (v_t, .inr (8, [.int v_t0, .int v_t1, .int v_t2, .int v_t3, .int v_t4, .ref v_ta, .ref v_tb, .ref v_tc, .ref v_td, .ref v_te])), (v_tc, .inl (cI, 30, .inl v_ftc))]
def Wm_force (cI cZ : ClassId) (yh : Nat) (Rf : Nat → Nat) (G : Nat → Int32) (f10 : Nat → Int32) : va_W := [(yh, .inr (10, ML G Rf)), ((Rf 10), .inl (cI, 30, .inl f10))]
set_option maxHeartbeats 4000000 in
set_option maxRecDepth 100000 in
theorem law_force {p : Program} {l : Launch} {e : Env} {s : State} {m : MethodId} {below : List Frame} {meth : Method} {c : Code} {D : va_G} {cI cZ : ClassId} {b : Nat} {xs : Nat → Int32} {L : Nat} (wr : va_W) (v_x : Nat) (v_q1 : Int32) (v_q2 : Int32) (v_rd : Nat) (v_t : Nat) (v_d : Nat) (v_nw : Nat) (v_ps : Nat) (v_im : Nat) (v_is_ : Nat) (v_q10 : Int32) (v_bk : Nat) (v_q12 : Int32) (v_qr : Nat) (v_pr : Nat) (v_cv : Nat) (v_ft : Nat) (v_t0 : Int32) (v_t1 : Int32) (v_t2 : Int32) (v_t3 : Int32) (v_t4 : Int32) (v_ta : Nat) (v_tb : Nat) (v_tc : Nat) (v_td : Nat) (v_te : Nat) (v_ftc : Nat → Int32) (Rf : Nat → Nat) (G : Nat → Int32) (f10 : Nat → Int32) {xh yh : Nat} {iv : Int32} (C0 : lw_C p s m meth c b L xs) {H : Heap} {locs : List Loc} {ls : Array Slot} (hi1 : ¬ ((iv + 1) < 0 ∨ L ≤ (iv + 1 : Int32).toNatClampNeg)) (hi2 : ¬ ((iv + 2) < 0 ∨ L ≤ (iv + 2 : Int32).toNatClampNeg)) (hi3 : ¬ ((iv + 3) < 0 ∨ L ≤ (iv + 3 : Int32).toNatClampNeg)) (hi4 : ¬ ((iv + 4) < 0 ∨ L ≤ (iv + 4 : Int32).toNatClampNeg)) (hK : va_K D classes (TYS cI cZ) s) (hs : S_m_force G f10 (xs ((iv + 1) : Int32).toNatClampNeg) (xs ((iv + 2) : Int32).toNatClampNeg)) (hP : va_P D classes ((Wx_force cI cZ xh v_x v_q1 v_q2 v_rd v_t v_d v_nw v_ps v_im v_is_ v_q10 v_bk v_q12 v_qr v_pr v_cv v_ft v_t0 v_t1 v_t2 v_t3 v_t4 v_ta v_tb v_tc v_td v_te v_ftc) ++ ((Wm_force cI cZ yh Rf G f10) ++ wr)) H) (hD : va_D (lw_A s) ((Wx_force cI cZ xh v_x v_q1 v_q2 v_rd v_t v_d v_nw v_ps v_im v_is_ v_q10 v_bk v_q12 v_qr v_pr v_cv v_ft v_t0 v_t1 v_t2 v_t3 v_t4 v_ta v_tb v_tc v_td v_te v_ftc) ++ ((Wm_force cI cZ yh Rf G f10) ++ wr))) (hS : va_S (lw_A s) s.heap H locs) (hl : lv_has ls 4 [(0, .ref b), (1, .ref xh), (2, .ref yh), (3, .int iv)]) (hnext : ∀ (rx : Int32) (ry : Int32) (H : Heap) (locs : List Loc) (ls : Array Slot), rx = (f_e_force_x9 v_q1 v_q2 v_q10 v_q12 v_t0 v_t1 v_t2 v_t3 v_t4 v_ftc (xs ((iv + 1) : Int32).toNatClampNeg) (xs ((iv + 2) : Int32).toNatClampNeg)) → ry = (f_m_force G f10 (xs ((iv + 1) : Int32).toNatClampNeg) (xs ((iv + 2) : Int32).toNatClampNeg)) → va_P D classes ((Wx_force cI cZ xh v_x v_q1 v_q2 v_rd v_t v_d v_nw v_ps v_im v_is_ v_q10 v_bk v_q12 v_qr v_pr v_cv v_ft v_t0 v_t1 v_t2 v_t3 v_t4 v_ta v_tb v_tc v_td v_te v_ftc) ++ ((Wm_force cI cZ yh Rf G f10) ++ wr)) H → va_D (lw_A s) ((Wx_force cI cZ xh v_x v_q1 v_q2 v_rd v_t v_d v_nw v_ps v_im v_is_ v_q10 v_bk v_q12 v_qr v_pr v_cv v_ft v_t0 v_t1 v_t2 v_t3 v_t4 v_ta v_tb v_tc v_td v_te v_ftc) ++ ((Wm_force cI cZ yh Rf G f10) ++ wr)) → va_S (lw_A s) s.heap H locs → lv_has ls 4 [(0, .ref b), (1, .ref xh), (2, .ref yh), (3, .int iv)] → W p l e room_1 s m #[Value.ref b] below meth c H locs 60 4269 (lw_Z below #[Value.ref b] s) (F0 m 1015 ls [])) : W p l e room_1 s m #[Value.ref b] below meth c H locs 60 4269 (lw_Z below #[Value.ref b] s) (F0 m 310 ls []) := by
  obtain ⟨hx, hb, hr, hml, hown, hts, hX, hbl, hlocks, hN⟩ := C0
  have hA : ∀ q, s.heap.size ≤ q → lw_A s q := fun _ h => h
  have hbA : ¬ lw_A s b := Nat.not_le.mpr hbl
  refine lv_aload_n hx hb dL_law_310 rfl (lv_at hl 1 rfl) ?_
  refine lv_aload_n hx hb dL_law_311 rfl (lv_at hl 0 rfl) ?_
  refine lv_iload_n hx hb dL_law_312 rfl (lv_at hl 3 rfl) ?_
  refine lv_iconst (v := 1) hx hb dL_law_313 rfl ?_
  refine lv_iadd hx hb dL_law_314 ?_
  refine va_sld hx hb hX hbl hbA hS hi1 dL_law_315 ?_
  refine lv_aload_n hx hb dL_law_316 rfl (lv_at hl 0 rfl) ?_
  refine lv_iload_n hx hb dL_law_317 rfl (lv_at hl 3 rfl) ?_
  refine lv_iconst (v := 2) hx hb dL_law_318 rfl ?_
  refine lv_iadd hx hb dL_law_319 ?_
  refine va_sld hx hb hX hbl hbA hS hi2 dL_law_320 ?_
  refine cVa (wc := (Wx_force cI cZ xh v_x v_q1 v_q2 v_rd v_t v_d v_nw v_ps v_im v_is_ v_q10 v_bk v_q12 v_qr v_pr v_cv v_ft v_t0 v_t1 v_t2 v_t3 v_t4 v_ta v_tb v_tc v_td v_te v_ftc)) (wr := ((Wm_force cI cZ yh Rf G f10) ++ wr)) (rest := []) (e_force_x9 xh v_x v_rd v_t v_d v_nw v_ps v_im v_is_ v_bk v_qr v_pr v_cv v_ft v_ta v_tb v_tc v_td v_te v_q1 v_q2 v_q10 v_q12 v_t0 v_t1 v_t2 v_t3 v_t4 v_ftc (xs ((iv + 1) : Int32).toNatClampNeg) (xs ((iv + 2) : Int32).toNatClampNeg)) okV_X9_force wd_744 hx hb hml hown hts hK hP hD hS hA hN hl.1 rfl rfl rfl (Nat.le_of_ble_eq_true rfl) (Nat.le_of_ble_eq_true rfl) (Nat.le_of_ble_eq_true rfl) (Nat.le_of_ble_eq_true rfl) (Nat.le_of_ble_eq_true rfl) dL_law_321 (fun rx u1 H locs ex hP hD hS => ?_)
  replace ex : rx = (f_e_force_x9 v_q1 v_q2 v_q10 v_q12 v_t0 v_t1 v_t2 v_t3 v_t4 v_ftc (xs ((iv + 1) : Int32).toNatClampNeg) (xs ((iv + 2) : Int32).toNatClampNeg)) := ex
  have hP : va_P D classes (((Wm_force cI cZ yh Rf G f10) ++ wr) ++ (Wx_force cI cZ xh v_x v_q1 v_q2 v_rd v_t v_d v_nw v_ps v_im v_is_ v_q10 v_bk v_q12 v_qr v_pr v_cv v_ft v_t0 v_t1 v_t2 v_t3 v_t4 v_ta v_tb v_tc v_td v_te v_ftc)) H := hP
  have hD : va_D (lw_A s) (((Wm_force cI cZ yh Rf G f10) ++ wr) ++ (Wx_force cI cZ xh v_x v_q1 v_q2 v_rd v_t v_d v_nw v_ps v_im v_is_ v_q10 v_bk v_q12 v_qr v_pr v_cv v_ft v_t0 v_t1 v_t2 v_t3 v_t4 v_ta v_tb v_tc v_td v_te v_ftc)) := hD
  rw [List.append_assoc] at hP hD
  refine lv_pop hx hb dL_law_324 rfl ?_
  refine lv_aload_n hx hb dL_law_325 rfl (lv_at hl 2 rfl) ?_
  refine lv_aload_n hx hb dL_law_326 rfl (lv_at hl 0 rfl) ?_
  refine lv_iload_n hx hb dL_law_327 rfl (lv_at hl 3 rfl) ?_
  refine lv_iconst (v := 1) hx hb dL_law_328 rfl ?_
  refine lv_iadd hx hb dL_law_329 ?_
  refine va_sld hx hb hX hbl hbA hS hi1 dL_law_330 ?_
  refine lv_aload_n hx hb dL_law_331 rfl (lv_at hl 0 rfl) ?_
  refine lv_iload_n hx hb dL_law_332 rfl (lv_at hl 3 rfl) ?_
  refine lv_iconst (v := 2) hx hb dL_law_333 rfl ?_
  refine lv_iadd hx hb dL_law_334 ?_
  refine va_sld hx hb hX hbl hbA hS hi2 dL_law_335 ?_
  refine cVa (wc := (Wm_force cI cZ yh Rf G f10)) (wr := (wr ++ (Wx_force cI cZ xh v_x v_q1 v_q2 v_rd v_t v_d v_nw v_ps v_im v_is_ v_q10 v_bk v_q12 v_qr v_pr v_cv v_ft v_t0 v_t1 v_t2 v_t3 v_t4 v_ta v_tb v_tc v_td v_te v_ftc))) (rest := []) (m_force Rf yh G f10 (xs ((iv + 1) : Int32).toNatClampNeg) (xs ((iv + 2) : Int32).toNatClampNeg) hs) okV_X10_force wd_748 hx hb hml hown hts hK hP hD hS hA hN hl.1 rfl rfl rfl (Nat.le_of_ble_eq_true rfl) (Nat.le_of_ble_eq_true rfl) (Nat.le_of_ble_eq_true rfl) (Nat.le_of_ble_eq_true rfl) (Nat.le_of_ble_eq_true rfl) dL_law_336 (fun ry u2 H locs em hP hD hS => ?_)
  replace em : ry = (f_m_force G f10 (xs ((iv + 1) : Int32).toNatClampNeg) (xs ((iv + 2) : Int32).toNatClampNeg)) := em
  have hP : va_P D classes ((wr ++ (Wx_force cI cZ xh v_x v_q1 v_q2 v_rd v_t v_d v_nw v_ps v_im v_is_ v_q10 v_bk v_q12 v_qr v_pr v_cv v_ft v_t0 v_t1 v_t2 v_t3 v_t4 v_ta v_tb v_tc v_td v_te v_ftc)) ++ (Wm_force cI cZ yh Rf G f10)) H := hP
  have hD : va_D (lw_A s) ((wr ++ (Wx_force cI cZ xh v_x v_q1 v_q2 v_rd v_t v_d v_nw v_ps v_im v_is_ v_q10 v_bk v_q12 v_qr v_pr v_cv v_ft v_t0 v_t1 v_t2 v_t3 v_t4 v_ta v_tb v_tc v_td v_te v_ftc)) ++ (Wm_force cI cZ yh Rf G f10)) := hD
  refine lv_pop hx hb dL_law_339 rfl ?_
  refine lv_goto (tgt := 1015) hx hb dL_law_340 rfl ?_
  exact hnext rx ry _ _ _ ex em (permP rot hP) (permD rot hD) hS hl
def Wx_barge (cI cZ : ClassId) (xh : Nat) (v_x : Nat) (v_q1 : Int32) (v_q2 : Int32) (v_rd : Nat) (v_t : Nat) (v_d : Nat) (v_nw : Nat) (v_ps : Nat) (v_im : Nat) (v_is_ : Nat) (v_q10 : Int32) (v_bk : Nat) (v_q12 : Int32) (v_qr : Nat) (v_pr : Nat) (v_cv : Nat) (v_ft : Nat) (v_t0 : Int32) (v_t1 : Int32) (v_t2 : Int32) (v_t3 : Int32) (v_t4 : Int32) (v_ta : Nat) (v_tb : Nat) (v_tc : Nat) (v_td : Nat) (v_te : Nat) (v_ftd : Nat → Int32) (v_fte : Nat → Int32) (v_nwc : Nat) (v_fn : Nat → Int32) : va_W := [(xh, .inr (9, [.ref v_x, .int v_q1, .int v_q2, .ref v_rd, .ref v_t, .ref v_d, .ref v_nw, .ref v_ps, .ref v_im, .ref v_is_, .int v_q10, .ref v_bk, .int v_q12, .ref v_qr, .ref v_pr, .ref v_cv, .ref v_ft])), (v_t, .inr (8, [.int v_t0, .int v_t1, .int v_t2, .int v_t3, .int v_t4, .ref v_ta, .ref v_tb, .ref v_tc, .ref v_td, .ref v_te])), (v_td, .inl (cI, 7, .inl v_ftd)), (v_te, .inl (cI, 7, .inl v_fte)), (v_nw, .inr (7, [.ref v_nwc])), (v_nwc, .inl (cI, 41, .inl v_fn))]
def Wm_barge (cI cZ : ClassId) (yh : Nat) (Rf : Nat → Nat) (G : Nat → Int32) (f0 : Nat → Int32) (f11 : Nat → Int32) (f12 : Nat → Int32) : va_W := [(yh, .inr (10, ML G Rf)), ((Rf 0), .inl (cI, 1302, .inl f0)), ((Rf 11), .inl (cI, 7, .inl f11)), ((Rf 12), .inl (cI, 7, .inl f12))]
set_option maxHeartbeats 4000000 in
set_option maxRecDepth 100000 in
theorem law_barge {p : Program} {l : Launch} {e : Env} {s : State} {m : MethodId} {below : List Frame} {meth : Method} {c : Code} {D : va_G} {cI cZ : ClassId} {b : Nat} {xs : Nat → Int32} {L : Nat} (wr : va_W) (v_x : Nat) (v_q1 : Int32) (v_q2 : Int32) (v_rd : Nat) (v_t : Nat) (v_d : Nat) (v_nw : Nat) (v_ps : Nat) (v_im : Nat) (v_is_ : Nat) (v_q10 : Int32) (v_bk : Nat) (v_q12 : Int32) (v_qr : Nat) (v_pr : Nat) (v_cv : Nat) (v_ft : Nat) (v_t0 : Int32) (v_t1 : Int32) (v_t2 : Int32) (v_t3 : Int32) (v_t4 : Int32) (v_ta : Nat) (v_tb : Nat) (v_tc : Nat) (v_td : Nat) (v_te : Nat) (v_ftd : Nat → Int32) (v_fte : Nat → Int32) (v_nwc : Nat) (v_fn : Nat → Int32) (Rf : Nat → Nat) (G : Nat → Int32) (f0 : Nat → Int32) (f11 : Nat → Int32) (f12 : Nat → Int32) {xh yh : Nat} {iv : Int32} (C0 : lw_C p s m meth c b L xs) {H : Heap} {locs : List Loc} {ls : Array Slot} (hi1 : ¬ ((iv + 1) < 0 ∨ L ≤ (iv + 1 : Int32).toNatClampNeg)) (hi2 : ¬ ((iv + 2) < 0 ∨ L ≤ (iv + 2 : Int32).toNatClampNeg)) (hi3 : ¬ ((iv + 3) < 0 ∨ L ≤ (iv + 3 : Int32).toNatClampNeg)) (hi4 : ¬ ((iv + 4) < 0 ∨ L ≤ (iv + 4 : Int32).toNatClampNeg)) (hK : va_K D classes (TYS cI cZ) s) (hs : S_m_barge G f0 f11 f12 (xs ((iv + 1) : Int32).toNatClampNeg) (xs ((iv + 2) : Int32).toNatClampNeg)) (hP : va_P D classes ((Wx_barge cI cZ xh v_x v_q1 v_q2 v_rd v_t v_d v_nw v_ps v_im v_is_ v_q10 v_bk v_q12 v_qr v_pr v_cv v_ft v_t0 v_t1 v_t2 v_t3 v_t4 v_ta v_tb v_tc v_td v_te v_ftd v_fte v_nwc v_fn) ++ ((Wm_barge cI cZ yh Rf G f0 f11 f12) ++ wr)) H) (hD : va_D (lw_A s) ((Wx_barge cI cZ xh v_x v_q1 v_q2 v_rd v_t v_d v_nw v_ps v_im v_is_ v_q10 v_bk v_q12 v_qr v_pr v_cv v_ft v_t0 v_t1 v_t2 v_t3 v_t4 v_ta v_tb v_tc v_td v_te v_ftd v_fte v_nwc v_fn) ++ ((Wm_barge cI cZ yh Rf G f0 f11 f12) ++ wr))) (hS : va_S (lw_A s) s.heap H locs) (hl : lv_has ls 4 [(0, .ref b), (1, .ref xh), (2, .ref yh), (3, .int iv)]) (hnext : ∀ (rx : Int32) (ry : Int32) (H : Heap) (locs : List Loc) (ls : Array Slot), rx = (f_e_barge_x9 v_q1 v_q2 v_q10 v_q12 v_t0 v_t1 v_t2 v_t3 v_t4 v_ftd v_fte v_fn (xs ((iv + 1) : Int32).toNatClampNeg) (xs ((iv + 2) : Int32).toNatClampNeg)) → ry = (f_m_barge G f0 f11 f12 (xs ((iv + 1) : Int32).toNatClampNeg) (xs ((iv + 2) : Int32).toNatClampNeg)) → va_P D classes ((Wx_barge cI cZ xh v_x v_q1 v_q2 v_rd v_t v_d v_nw v_ps v_im v_is_ v_q10 v_bk v_q12 v_qr v_pr v_cv v_ft v_t0 v_t1 v_t2 v_t3 v_t4 v_ta v_tb v_tc v_td v_te v_ftd v_fte v_nwc v_fn) ++ ((Wm_barge cI cZ yh Rf G f0 f11 f12) ++ wr)) H → va_D (lw_A s) ((Wx_barge cI cZ xh v_x v_q1 v_q2 v_rd v_t v_d v_nw v_ps v_im v_is_ v_q10 v_bk v_q12 v_qr v_pr v_cv v_ft v_t0 v_t1 v_t2 v_t3 v_t4 v_ta v_tb v_tc v_td v_te v_ftd v_fte v_nwc v_fn) ++ ((Wm_barge cI cZ yh Rf G f0 f11 f12) ++ wr)) → va_S (lw_A s) s.heap H locs → lv_has ls 4 [(0, .ref b), (1, .ref xh), (2, .ref yh), (3, .int iv)] → W p l e room_1 s m #[Value.ref b] below meth c H locs 60 4269 (lw_Z below #[Value.ref b] s) (F0 m 1015 ls [])) : W p l e room_1 s m #[Value.ref b] below meth c H locs 60 4269 (lw_Z below #[Value.ref b] s) (F0 m 343 ls []) := by
  obtain ⟨hx, hb, hr, hml, hown, hts, hX, hbl, hlocks, hN⟩ := C0
  have hA : ∀ q, s.heap.size ≤ q → lw_A s q := fun _ h => h
  have hbA : ¬ lw_A s b := Nat.not_le.mpr hbl
  refine lv_aload_n hx hb dL_law_343 rfl (lv_at hl 1 rfl) ?_
  refine lv_aload_n hx hb dL_law_344 rfl (lv_at hl 0 rfl) ?_
  refine lv_iload_n hx hb dL_law_345 rfl (lv_at hl 3 rfl) ?_
  refine lv_iconst (v := 1) hx hb dL_law_346 rfl ?_
  refine lv_iadd hx hb dL_law_347 ?_
  refine va_sld hx hb hX hbl hbA hS hi1 dL_law_348 ?_
  refine lv_aload_n hx hb dL_law_349 rfl (lv_at hl 0 rfl) ?_
  refine lv_iload_n hx hb dL_law_350 rfl (lv_at hl 3 rfl) ?_
  refine lv_iconst (v := 2) hx hb dL_law_351 rfl ?_
  refine lv_iadd hx hb dL_law_352 ?_
  refine va_sld hx hb hX hbl hbA hS hi2 dL_law_353 ?_
  refine cVa (wc := (Wx_barge cI cZ xh v_x v_q1 v_q2 v_rd v_t v_d v_nw v_ps v_im v_is_ v_q10 v_bk v_q12 v_qr v_pr v_cv v_ft v_t0 v_t1 v_t2 v_t3 v_t4 v_ta v_tb v_tc v_td v_te v_ftd v_fte v_nwc v_fn)) (wr := ((Wm_barge cI cZ yh Rf G f0 f11 f12) ++ wr)) (rest := []) (e_barge_x9 xh v_x v_rd v_t v_d v_nw v_ps v_im v_is_ v_bk v_qr v_pr v_cv v_ft v_ta v_tb v_tc v_td v_te v_nwc v_q1 v_q2 v_q10 v_q12 v_t0 v_t1 v_t2 v_t3 v_t4 v_ftd v_fte v_fn (xs ((iv + 1) : Int32).toNatClampNeg) (xs ((iv + 2) : Int32).toNatClampNeg)) okV_X9_barge wd_752 hx hb hml hown hts hK hP hD hS hA hN hl.1 rfl rfl rfl (Nat.le_of_ble_eq_true rfl) (Nat.le_of_ble_eq_true rfl) (Nat.le_of_ble_eq_true rfl) (Nat.le_of_ble_eq_true rfl) (Nat.le_of_ble_eq_true rfl) dL_law_354 (fun rx u1 H locs ex hP hD hS => ?_)
  replace ex : rx = (f_e_barge_x9 v_q1 v_q2 v_q10 v_q12 v_t0 v_t1 v_t2 v_t3 v_t4 v_ftd v_fte v_fn (xs ((iv + 1) : Int32).toNatClampNeg) (xs ((iv + 2) : Int32).toNatClampNeg)) := ex
  have hP : va_P D classes (((Wm_barge cI cZ yh Rf G f0 f11 f12) ++ wr) ++ (Wx_barge cI cZ xh v_x v_q1 v_q2 v_rd v_t v_d v_nw v_ps v_im v_is_ v_q10 v_bk v_q12 v_qr v_pr v_cv v_ft v_t0 v_t1 v_t2 v_t3 v_t4 v_ta v_tb v_tc v_td v_te v_ftd v_fte v_nwc v_fn)) H := hP
  have hD : va_D (lw_A s) (((Wm_barge cI cZ yh Rf G f0 f11 f12) ++ wr) ++ (Wx_barge cI cZ xh v_x v_q1 v_q2 v_rd v_t v_d v_nw v_ps v_im v_is_ v_q10 v_bk v_q12 v_qr v_pr v_cv v_ft v_t0 v_t1 v_t2 v_t3 v_t4 v_ta v_tb v_tc v_td v_te v_ftd v_fte v_nwc v_fn)) := hD
  rw [List.append_assoc] at hP hD
  refine lv_pop hx hb dL_law_357 rfl ?_
  refine lv_aload_n hx hb dL_law_358 rfl (lv_at hl 2 rfl) ?_
  refine lv_aload_n hx hb dL_law_359 rfl (lv_at hl 0 rfl) ?_
  refine lv_iload_n hx hb dL_law_360 rfl (lv_at hl 3 rfl) ?_
  refine lv_iconst (v := 1) hx hb dL_law_361 rfl ?_
  refine lv_iadd hx hb dL_law_362 ?_
  refine va_sld hx hb hX hbl hbA hS hi1 dL_law_363 ?_
  refine lv_aload_n hx hb dL_law_364 rfl (lv_at hl 0 rfl) ?_
  refine lv_iload_n hx hb dL_law_365 rfl (lv_at hl 3 rfl) ?_
  refine lv_iconst (v := 2) hx hb dL_law_366 rfl ?_
  refine lv_iadd hx hb dL_law_367 ?_
  refine va_sld hx hb hX hbl hbA hS hi2 dL_law_368 ?_
  refine cVa (wc := (Wm_barge cI cZ yh Rf G f0 f11 f12)) (wr := (wr ++ (Wx_barge cI cZ xh v_x v_q1 v_q2 v_rd v_t v_d v_nw v_ps v_im v_is_ v_q10 v_bk v_q12 v_qr v_pr v_cv v_ft v_t0 v_t1 v_t2 v_t3 v_t4 v_ta v_tb v_tc v_td v_te v_ftd v_fte v_nwc v_fn))) (rest := []) (m_barge Rf yh G f0 f11 f12 (xs ((iv + 1) : Int32).toNatClampNeg) (xs ((iv + 2) : Int32).toNatClampNeg) hs) okV_X10_barge wd_756 hx hb hml hown hts hK hP hD hS hA hN hl.1 rfl rfl rfl (Nat.le_of_ble_eq_true rfl) (Nat.le_of_ble_eq_true rfl) (Nat.le_of_ble_eq_true rfl) (Nat.le_of_ble_eq_true rfl) (Nat.le_of_ble_eq_true rfl) dL_law_369 (fun ry u2 H locs em hP hD hS => ?_)
  replace em : ry = (f_m_barge G f0 f11 f12 (xs ((iv + 1) : Int32).toNatClampNeg) (xs ((iv + 2) : Int32).toNatClampNeg)) := em
  have hP : va_P D classes ((wr ++ (Wx_barge cI cZ xh v_x v_q1 v_q2 v_rd v_t v_d v_nw v_ps v_im v_is_ v_q10 v_bk v_q12 v_qr v_pr v_cv v_ft v_t0 v_t1 v_t2 v_t3 v_t4 v_ta v_tb v_tc v_td v_te v_ftd v_fte v_nwc v_fn)) ++ (Wm_barge cI cZ yh Rf G f0 f11 f12)) H := hP
  have hD : va_D (lw_A s) ((wr ++ (Wx_barge cI cZ xh v_x v_q1 v_q2 v_rd v_t v_d v_nw v_ps v_im v_is_ v_q10 v_bk v_q12 v_qr v_pr v_cv v_ft v_t0 v_t1 v_t2 v_t3 v_t4 v_ta v_tb v_tc v_td v_te v_ftd v_fte v_nwc v_fn)) ++ (Wm_barge cI cZ yh Rf G f0 f11 f12)) := hD
  refine lv_pop hx hb dL_law_372 rfl ?_
  refine lv_goto (tgt := 1015) hx hb dL_law_373 rfl ?_
  exact hnext rx ry _ _ _ ex em (permP rot hP) (permD rot hD) hS hl
end
section
theorem dL_law_376 : decode cL_law 376 = .ok (.aload_n 1, 1) := fq_43 fk_cL_law_23 8 rfl rfl
theorem dL_law_377 : decode cL_law 377 = .ok (.aload_n 0, 1) := fq_42 fk_cL_law_23 9 rfl rfl
theorem dL_law_378 : decode cL_law 378 = .ok (.iload_n 3, 1) := fq_29 fk_cL_law_23 10 rfl rfl
theorem dL_law_379 : decode cL_law 379 = .ok (.iconst 1, 1) := fq_4 fk_cL_law_23 11 rfl rfl
theorem dL_law_380 : decode cL_law 380 = .ok (.iadd, 1) := fq_96 fk_cL_law_23 12 rfl rfl
theorem dL_law_381 : decode cL_law 381 = .ok (.iaload, 1) := fq_46 fk_cL_law_23 13 rfl rfl
theorem dL_law_382 : decode cL_law 382 = .ok (.aload_n 0, 1) := fq_42 fk_cL_law_23 14 rfl rfl
theorem dL_law_383 : decode cL_law 383 = .ok (.iload_n 3, 1) := fq_29 fk_cL_law_23 15 rfl rfl
theorem fk_cL_law_24 : fq_ck cL_law 384 [5, 96, 46, 42, 29, 6, 96, 46, 182, 0, 48, 87, 44, 42, 29, 4, 96, 46] := fq_of fW_cL_law 24 rfl rfl
theorem dL_law_384 : decode cL_law 384 = .ok (.iconst 2, 1) := fq_5 fk_cL_law_24 0 rfl rfl
theorem dL_law_385 : decode cL_law 385 = .ok (.iadd, 1) := fq_96 fk_cL_law_24 1 rfl rfl
theorem dL_law_386 : decode cL_law 386 = .ok (.iaload, 1) := fq_46 fk_cL_law_24 2 rfl rfl
theorem dL_law_387 : decode cL_law 387 = .ok (.aload_n 0, 1) := fq_42 fk_cL_law_24 3 rfl rfl
theorem dL_law_388 : decode cL_law 388 = .ok (.iload_n 3, 1) := fq_29 fk_cL_law_24 4 rfl rfl
theorem dL_law_389 : decode cL_law 389 = .ok (.iconst 3, 1) := fq_6 fk_cL_law_24 5 rfl rfl
theorem dL_law_390 : decode cL_law 390 = .ok (.iadd, 1) := fq_96 fk_cL_law_24 6 rfl rfl
theorem dL_law_391 : decode cL_law 391 = .ok (.iaload, 1) := fq_46 fk_cL_law_24 7 rfl rfl
theorem dL_law_392 : decode cL_law 392 = .ok (.invokevirtual 48, 3) := fq_182 fk_cL_law_24 8 rfl rfl rfl rfl rfl
theorem wd_760 : Cond.methodLink RL 48 yX9_send ∈ BG := BG_at3 22 (by decide +kernel) rfl
theorem wd_761 : Cond.code yX9_send cX9_send 6 (some .int) ∈ BG := BG_at3 25 rfl rfl
theorem wd_762 : Cond.instanceMethod yX9_send ∈ BG := BG_at3 23 (by decide +kernel) rfl
theorem wd_763 : Cond.selects RX9 yX9_send yX9_send ∈ BG := BG_at3 24 (by decide +kernel) rfl
theorem okV_X9_send : okV yX9_send cX9_send 6 (some .int) 3 := ⟨⟨wd_761, wd_71, by decide +kernel⟩, wd_762, wd_763⟩
theorem dL_law_395 : decode cL_law 395 = .ok (.pop, 1) := fq_87 fk_cL_law_24 11 rfl rfl
theorem dL_law_396 : decode cL_law 396 = .ok (.aload_n 2, 1) := fq_44 fk_cL_law_24 12 rfl rfl
theorem dL_law_397 : decode cL_law 397 = .ok (.aload_n 0, 1) := fq_42 fk_cL_law_24 13 rfl rfl
theorem dL_law_398 : decode cL_law 398 = .ok (.iload_n 3, 1) := fq_29 fk_cL_law_24 14 rfl rfl
theorem dL_law_399 : decode cL_law 399 = .ok (.iconst 1, 1) := fq_4 fk_cL_law_24 15 rfl rfl
theorem fk_cL_law_25 : fq_ck cL_law 400 [96, 46, 42, 29, 5, 96, 46, 42, 29, 6, 96, 46, 182, 0, 52, 87, 167, 2] := fq_of fW_cL_law 25 rfl rfl
theorem dL_law_400 : decode cL_law 400 = .ok (.iadd, 1) := fq_96 fk_cL_law_25 0 rfl rfl
theorem dL_law_401 : decode cL_law 401 = .ok (.iaload, 1) := fq_46 fk_cL_law_25 1 rfl rfl
theorem dL_law_402 : decode cL_law 402 = .ok (.aload_n 0, 1) := fq_42 fk_cL_law_25 2 rfl rfl
theorem dL_law_403 : decode cL_law 403 = .ok (.iload_n 3, 1) := fq_29 fk_cL_law_25 3 rfl rfl
theorem dL_law_404 : decode cL_law 404 = .ok (.iconst 2, 1) := fq_5 fk_cL_law_25 4 rfl rfl
theorem dL_law_405 : decode cL_law 405 = .ok (.iadd, 1) := fq_96 fk_cL_law_25 5 rfl rfl
theorem dL_law_406 : decode cL_law 406 = .ok (.iaload, 1) := fq_46 fk_cL_law_25 6 rfl rfl
theorem dL_law_407 : decode cL_law 407 = .ok (.aload_n 0, 1) := fq_42 fk_cL_law_25 7 rfl rfl
theorem dL_law_408 : decode cL_law 408 = .ok (.iload_n 3, 1) := fq_29 fk_cL_law_25 8 rfl rfl
theorem dL_law_409 : decode cL_law 409 = .ok (.iconst 3, 1) := fq_6 fk_cL_law_25 9 rfl rfl
theorem dL_law_410 : decode cL_law 410 = .ok (.iadd, 1) := fq_96 fk_cL_law_25 10 rfl rfl
theorem dL_law_411 : decode cL_law 411 = .ok (.iaload, 1) := fq_46 fk_cL_law_25 11 rfl rfl
theorem dL_law_412 : decode cL_law 412 = .ok (.invokevirtual 52, 3) := fq_182 fk_cL_law_25 12 rfl rfl rfl rfl rfl
theorem wd_764 : Cond.methodLink RL 52 yX10_send ∈ BG := BG_at5 91 (by decide +kernel) rfl
theorem wd_765 : Cond.code yX10_send cX10_send 6 (some .int) ∈ BG := BG_at5 94 rfl rfl
theorem wd_766 : Cond.instanceMethod yX10_send ∈ BG := BG_at5 92 (by decide +kernel) rfl
theorem wd_767 : Cond.selects RX10 yX10_send yX10_send ∈ BG := BG_at5 93 (by decide +kernel) rfl
theorem okV_X10_send : okV yX10_send cX10_send 6 (some .int) 3 := ⟨⟨wd_765, wd_497, by decide +kernel⟩, wd_766, wd_767⟩
theorem dL_law_415 : decode cL_law 415 = .ok (.pop, 1) := fq_87 fk_cL_law_25 15 rfl rfl
theorem fk_cL_law_26 : fq_ck cL_law 416 [167, 2, 87, 43, 42, 29, 4, 96, 46, 182, 0, 53, 87, 44, 42, 29, 4, 96] := fq_of fW_cL_law 26 rfl rfl
theorem dL_law_416 : decode cL_law 416 = .ok (.goto 599, 3) := fq_167 fk_cL_law_26 0 rfl rfl rfl rfl rfl
theorem dL_law_419 : decode cL_law 419 = .ok (.aload_n 1, 1) := fq_43 fk_cL_law_26 3 rfl rfl
theorem dL_law_420 : decode cL_law 420 = .ok (.aload_n 0, 1) := fq_42 fk_cL_law_26 4 rfl rfl
theorem dL_law_421 : decode cL_law 421 = .ok (.iload_n 3, 1) := fq_29 fk_cL_law_26 5 rfl rfl
theorem dL_law_422 : decode cL_law 422 = .ok (.iconst 1, 1) := fq_4 fk_cL_law_26 6 rfl rfl
theorem dL_law_423 : decode cL_law 423 = .ok (.iadd, 1) := fq_96 fk_cL_law_26 7 rfl rfl
theorem dL_law_424 : decode cL_law 424 = .ok (.iaload, 1) := fq_46 fk_cL_law_26 8 rfl rfl
theorem dL_law_425 : decode cL_law 425 = .ok (.invokevirtual 53, 3) := fq_182 fk_cL_law_26 9 rfl rfl rfl rfl rfl
theorem wd_768 : Cond.methodLink RL 53 yX9_home ∈ BG := BG_at3 46 (by decide +kernel) rfl
theorem wd_769 : Cond.code yX9_home cX9_home 3 (some .int) ∈ BG := BG_at3 49 rfl rfl
theorem wd_770 : Cond.instanceMethod yX9_home ∈ BG := BG_at3 47 (by decide +kernel) rfl
theorem wd_771 : Cond.selects RX9 yX9_home yX9_home ∈ BG := BG_at3 48 (by decide +kernel) rfl
theorem okV_X9_home : okV yX9_home cX9_home 3 (some .int) 1 := ⟨⟨wd_769, wd_71, by decide +kernel⟩, wd_770, wd_771⟩
theorem dL_law_428 : decode cL_law 428 = .ok (.pop, 1) := fq_87 fk_cL_law_26 12 rfl rfl
theorem dL_law_429 : decode cL_law 429 = .ok (.aload_n 2, 1) := fq_44 fk_cL_law_26 13 rfl rfl
theorem dL_law_430 : decode cL_law 430 = .ok (.aload_n 0, 1) := fq_42 fk_cL_law_26 14 rfl rfl
theorem dL_law_431 : decode cL_law 431 = .ok (.iload_n 3, 1) := fq_29 fk_cL_law_26 15 rfl rfl
theorem fk_cL_law_27 : fq_ck cL_law 432 [4, 96, 46, 182, 0, 56, 87, 167, 2, 64, 43, 42, 29, 4, 96, 46, 182, 0] := fq_of fW_cL_law 27 rfl rfl
theorem dL_law_432 : decode cL_law 432 = .ok (.iconst 1, 1) := fq_4 fk_cL_law_27 0 rfl rfl
theorem dL_law_433 : decode cL_law 433 = .ok (.iadd, 1) := fq_96 fk_cL_law_27 1 rfl rfl
theorem dL_law_434 : decode cL_law 434 = .ok (.iaload, 1) := fq_46 fk_cL_law_27 2 rfl rfl
theorem dL_law_435 : decode cL_law 435 = .ok (.invokevirtual 56, 3) := fq_182 fk_cL_law_27 3 rfl rfl rfl rfl rfl
theorem wd_772 : Cond.methodLink RL 56 yX10_home ∈ BG := BG_at5 99 (by decide +kernel) rfl
theorem wd_773 : Cond.code yX10_home cX10_home 3 (some .int) ∈ BG := BG_at5 102 rfl rfl
theorem wd_774 : Cond.instanceMethod yX10_home ∈ BG := BG_at5 100 (by decide +kernel) rfl
theorem wd_775 : Cond.selects RX10 yX10_home yX10_home ∈ BG := BG_at5 101 (by decide +kernel) rfl
theorem okV_X10_home : okV yX10_home cX10_home 3 (some .int) 1 := ⟨⟨wd_773, wd_497, by decide +kernel⟩, wd_774, wd_775⟩
theorem dL_law_438 : decode cL_law 438 = .ok (.pop, 1) := fq_87 fk_cL_law_27 6 rfl rfl
theorem dL_law_439 : decode cL_law 439 = .ok (.goto 576, 3) := fq_167 fk_cL_law_27 7 rfl rfl rfl rfl rfl
theorem dL_law_442 : decode cL_law 442 = .ok (.aload_n 1, 1) := fq_43 fk_cL_law_27 10 rfl rfl
theorem dL_law_443 : decode cL_law 443 = .ok (.aload_n 0, 1) := fq_42 fk_cL_law_27 11 rfl rfl
theorem dL_law_444 : decode cL_law 444 = .ok (.iload_n 3, 1) := fq_29 fk_cL_law_27 12 rfl rfl
theorem dL_law_445 : decode cL_law 445 = .ok (.iconst 1, 1) := fq_4 fk_cL_law_27 13 rfl rfl
theorem dL_law_446 : decode cL_law 446 = .ok (.iadd, 1) := fq_96 fk_cL_law_27 14 rfl rfl
theorem dL_law_447 : decode cL_law 447 = .ok (.iaload, 1) := fq_46 fk_cL_law_27 15 rfl rfl
theorem fk_cL_law_28 : fq_ck cL_law 448 [182, 0, 57, 87, 44, 42, 29, 4, 96, 46, 182, 0, 60, 87, 167, 2, 41, 43] := fq_of fW_cL_law 28 rfl rfl
theorem dL_law_448 : decode cL_law 448 = .ok (.invokevirtual 57, 3) := fq_182 fk_cL_law_28 0 rfl rfl rfl rfl rfl
theorem wd_776 : Cond.methodLink RL 57 yX9_pass ∈ BG := BG_at3 50 (by decide +kernel) rfl
theorem wd_777 : Cond.code yX9_pass cX9_pass 4 (some .int) ∈ BG := BG_at3 53 rfl rfl
theorem wd_778 : Cond.instanceMethod yX9_pass ∈ BG := BG_at3 51 (by decide +kernel) rfl
theorem wd_779 : Cond.selects RX9 yX9_pass yX9_pass ∈ BG := BG_at3 52 (by decide +kernel) rfl
theorem okV_X9_pass : okV yX9_pass cX9_pass 4 (some .int) 1 := ⟨⟨wd_777, wd_71, by decide +kernel⟩, wd_778, wd_779⟩
theorem dL_law_451 : decode cL_law 451 = .ok (.pop, 1) := fq_87 fk_cL_law_28 3 rfl rfl
theorem dL_law_452 : decode cL_law 452 = .ok (.aload_n 2, 1) := fq_44 fk_cL_law_28 4 rfl rfl
theorem dL_law_453 : decode cL_law 453 = .ok (.aload_n 0, 1) := fq_42 fk_cL_law_28 5 rfl rfl
theorem dL_law_454 : decode cL_law 454 = .ok (.iload_n 3, 1) := fq_29 fk_cL_law_28 6 rfl rfl
theorem dL_law_455 : decode cL_law 455 = .ok (.iconst 1, 1) := fq_4 fk_cL_law_28 7 rfl rfl
theorem dL_law_456 : decode cL_law 456 = .ok (.iadd, 1) := fq_96 fk_cL_law_28 8 rfl rfl
theorem dL_law_457 : decode cL_law 457 = .ok (.iaload, 1) := fq_46 fk_cL_law_28 9 rfl rfl
theorem dL_law_458 : decode cL_law 458 = .ok (.invokevirtual 60, 3) := fq_182 fk_cL_law_28 10 rfl rfl rfl rfl rfl
theorem wd_780 : Cond.methodLink RL 60 yX10_pass ∈ BG := BG_at5 103 (by decide +kernel) rfl
theorem wd_781 : Cond.code yX10_pass cX10_pass 2 (some .int) ∈ BG := BG_at5 106 rfl rfl
theorem wd_782 : Cond.instanceMethod yX10_pass ∈ BG := BG_at5 104 (by decide +kernel) rfl
theorem wd_783 : Cond.selects RX10 yX10_pass yX10_pass ∈ BG := BG_at5 105 (by decide +kernel) rfl
theorem okV_X10_pass : okV yX10_pass cX10_pass 2 (some .int) 1 := ⟨⟨wd_781, wd_497, by decide +kernel⟩, wd_782, wd_783⟩
theorem dL_law_461 : decode cL_law 461 = .ok (.pop, 1) := fq_87 fk_cL_law_28 13 rfl rfl
theorem dL_law_462 : decode cL_law 462 = .ok (.goto 553, 3) := fq_167 fk_cL_law_28 14 rfl rfl rfl rfl rfl
theorem fk_cL_law_29 : fq_ck cL_law 464 [41, 43, 42, 29, 4, 96, 46, 42, 29, 5, 96, 46, 182, 0, 61, 87, 44, 42] := fq_of fW_cL_law 29 rfl rfl
theorem dL_law_465 : decode cL_law 465 = .ok (.aload_n 1, 1) := fq_43 fk_cL_law_29 1 rfl rfl
theorem dL_law_466 : decode cL_law 466 = .ok (.aload_n 0, 1) := fq_42 fk_cL_law_29 2 rfl rfl
theorem dL_law_467 : decode cL_law 467 = .ok (.iload_n 3, 1) := fq_29 fk_cL_law_29 3 rfl rfl
theorem dL_law_468 : decode cL_law 468 = .ok (.iconst 1, 1) := fq_4 fk_cL_law_29 4 rfl rfl
theorem dL_law_469 : decode cL_law 469 = .ok (.iadd, 1) := fq_96 fk_cL_law_29 5 rfl rfl
theorem dL_law_470 : decode cL_law 470 = .ok (.iaload, 1) := fq_46 fk_cL_law_29 6 rfl rfl
theorem dL_law_471 : decode cL_law 471 = .ok (.aload_n 0, 1) := fq_42 fk_cL_law_29 7 rfl rfl
theorem dL_law_472 : decode cL_law 472 = .ok (.iload_n 3, 1) := fq_29 fk_cL_law_29 8 rfl rfl
theorem dL_law_473 : decode cL_law 473 = .ok (.iconst 2, 1) := fq_5 fk_cL_law_29 9 rfl rfl
theorem dL_law_474 : decode cL_law 474 = .ok (.iadd, 1) := fq_96 fk_cL_law_29 10 rfl rfl
theorem dL_law_475 : decode cL_law 475 = .ok (.iaload, 1) := fq_46 fk_cL_law_29 11 rfl rfl
theorem dL_law_476 : decode cL_law 476 = .ok (.invokevirtual 61, 3) := fq_182 fk_cL_law_29 12 rfl rfl rfl rfl rfl
theorem wd_784 : Cond.methodLink RL 61 yX9_grieve ∈ BG := BG_at3 95 (by decide +kernel) rfl
theorem wd_785 : Cond.code yX9_grieve cX9_grieve 3 (some .int) ∈ BG := BG_at3 98 rfl rfl
theorem wd_786 : Cond.instanceMethod yX9_grieve ∈ BG := BG_at3 96 (by decide +kernel) rfl
theorem wd_787 : Cond.selects RX9 yX9_grieve yX9_grieve ∈ BG := BG_at3 97 (by decide +kernel) rfl
theorem okV_X9_grieve : okV yX9_grieve cX9_grieve 3 (some .int) 2 := ⟨⟨wd_785, wd_71, by decide +kernel⟩, wd_786, wd_787⟩
theorem dL_law_479 : decode cL_law 479 = .ok (.pop, 1) := fq_87 fk_cL_law_29 15 rfl rfl
theorem fk_cL_law_30 : fq_ck cL_law 480 [44, 42, 29, 4, 96, 46, 42, 29, 5, 96, 46, 182, 0, 64, 87, 167, 2, 8] := fq_of fW_cL_law 30 rfl rfl
theorem dL_law_480 : decode cL_law 480 = .ok (.aload_n 2, 1) := fq_44 fk_cL_law_30 0 rfl rfl
theorem dL_law_481 : decode cL_law 481 = .ok (.aload_n 0, 1) := fq_42 fk_cL_law_30 1 rfl rfl
theorem dL_law_482 : decode cL_law 482 = .ok (.iload_n 3, 1) := fq_29 fk_cL_law_30 2 rfl rfl
theorem dL_law_483 : decode cL_law 483 = .ok (.iconst 1, 1) := fq_4 fk_cL_law_30 3 rfl rfl
theorem dL_law_484 : decode cL_law 484 = .ok (.iadd, 1) := fq_96 fk_cL_law_30 4 rfl rfl
theorem dL_law_485 : decode cL_law 485 = .ok (.iaload, 1) := fq_46 fk_cL_law_30 5 rfl rfl
theorem dL_law_486 : decode cL_law 486 = .ok (.aload_n 0, 1) := fq_42 fk_cL_law_30 6 rfl rfl
theorem dL_law_487 : decode cL_law 487 = .ok (.iload_n 3, 1) := fq_29 fk_cL_law_30 7 rfl rfl
theorem dL_law_488 : decode cL_law 488 = .ok (.iconst 2, 1) := fq_5 fk_cL_law_30 8 rfl rfl
theorem dL_law_489 : decode cL_law 489 = .ok (.iadd, 1) := fq_96 fk_cL_law_30 9 rfl rfl
theorem dL_law_490 : decode cL_law 490 = .ok (.iaload, 1) := fq_46 fk_cL_law_30 10 rfl rfl
theorem dL_law_491 : decode cL_law 491 = .ok (.invokevirtual 64, 3) := fq_182 fk_cL_law_30 11 rfl rfl rfl rfl rfl
theorem wd_788 : Cond.methodLink RL 64 yX10_grieve ∈ BG := BG_at5 120 (by decide +kernel) rfl
theorem wd_789 : Cond.code yX10_grieve cX10_grieve 3 (some .int) ∈ BG := BG_at5 123 rfl rfl
theorem wd_790 : Cond.instanceMethod yX10_grieve ∈ BG := BG_at5 121 (by decide +kernel) rfl
theorem wd_791 : Cond.selects RX10 yX10_grieve yX10_grieve ∈ BG := BG_at5 122 (by decide +kernel) rfl
theorem okV_X10_grieve : okV yX10_grieve cX10_grieve 3 (some .int) 2 := ⟨⟨wd_789, wd_497, by decide +kernel⟩, wd_790, wd_791⟩
theorem dL_law_494 : decode cL_law 494 = .ok (.pop, 1) := fq_87 fk_cL_law_30 14 rfl rfl
theorem dL_law_495 : decode cL_law 495 = .ok (.goto 520, 3) := fq_167 fk_cL_law_30 15 rfl rfl rfl rfl rfl
theorem fk_cL_law_31 : fq_ck cL_law 496 [2, 8, 43, 42, 29, 4, 96, 46, 182, 0, 65, 87, 44, 42, 29, 4, 96, 46] := fq_of fW_cL_law 31 rfl rfl
theorem dL_law_498 : decode cL_law 498 = .ok (.aload_n 1, 1) := fq_43 fk_cL_law_31 2 rfl rfl
theorem dL_law_499 : decode cL_law 499 = .ok (.aload_n 0, 1) := fq_42 fk_cL_law_31 3 rfl rfl
theorem dL_law_500 : decode cL_law 500 = .ok (.iload_n 3, 1) := fq_29 fk_cL_law_31 4 rfl rfl
theorem dL_law_501 : decode cL_law 501 = .ok (.iconst 1, 1) := fq_4 fk_cL_law_31 5 rfl rfl
theorem dL_law_502 : decode cL_law 502 = .ok (.iadd, 1) := fq_96 fk_cL_law_31 6 rfl rfl
theorem dL_law_503 : decode cL_law 503 = .ok (.iaload, 1) := fq_46 fk_cL_law_31 7 rfl rfl
theorem dL_law_504 : decode cL_law 504 = .ok (.invokevirtual 65, 3) := fq_182 fk_cL_law_31 8 rfl rfl rfl rfl rfl
theorem wd_792 : Cond.methodLink RL 65 yX9_drift ∈ BG := BG_at3 105 (by decide +kernel) rfl
theorem wd_793 : Cond.code yX9_drift cX9_drift 5 (some .int) ∈ BG := BG_at3 108 rfl rfl
theorem wd_794 : Cond.instanceMethod yX9_drift ∈ BG := BG_at3 106 (by decide +kernel) rfl
theorem wd_795 : Cond.selects RX9 yX9_drift yX9_drift ∈ BG := BG_at3 107 (by decide +kernel) rfl
theorem okV_X9_drift : okV yX9_drift cX9_drift 5 (some .int) 1 := ⟨⟨wd_793, wd_71, by decide +kernel⟩, wd_794, wd_795⟩
theorem dL_law_507 : decode cL_law 507 = .ok (.pop, 1) := fq_87 fk_cL_law_31 11 rfl rfl
theorem dL_law_508 : decode cL_law 508 = .ok (.aload_n 2, 1) := fq_44 fk_cL_law_31 12 rfl rfl
theorem dL_law_509 : decode cL_law 509 = .ok (.aload_n 0, 1) := fq_42 fk_cL_law_31 13 rfl rfl
theorem dL_law_510 : decode cL_law 510 = .ok (.iload_n 3, 1) := fq_29 fk_cL_law_31 14 rfl rfl
theorem dL_law_511 : decode cL_law 511 = .ok (.iconst 1, 1) := fq_4 fk_cL_law_31 15 rfl rfl
theorem fk_cL_law_32 : fq_ck cL_law 512 [96, 46, 182, 0, 68, 87, 167, 1, 241, 43, 182, 0, 69, 87, 44, 182, 0, 72] := fq_of fW_cL_law 32 rfl rfl
theorem dL_law_512 : decode cL_law 512 = .ok (.iadd, 1) := fq_96 fk_cL_law_32 0 rfl rfl
theorem dL_law_513 : decode cL_law 513 = .ok (.iaload, 1) := fq_46 fk_cL_law_32 1 rfl rfl
theorem dL_law_514 : decode cL_law 514 = .ok (.invokevirtual 68, 3) := fq_182 fk_cL_law_32 2 rfl rfl rfl rfl rfl
theorem wd_796 : Cond.methodLink RL 68 yX10_drift ∈ BG := BG_at5 129 (by decide +kernel) rfl
theorem wd_797 : Cond.code yX10_drift cX10_drift 4 (some .int) ∈ BG := BG_at5 132 rfl rfl
theorem wd_798 : Cond.instanceMethod yX10_drift ∈ BG := BG_at5 130 (by decide +kernel) rfl
theorem wd_799 : Cond.selects RX10 yX10_drift yX10_drift ∈ BG := BG_at5 131 (by decide +kernel) rfl
theorem okV_X10_drift : okV yX10_drift cX10_drift 4 (some .int) 1 := ⟨⟨wd_797, wd_497, by decide +kernel⟩, wd_798, wd_799⟩
theorem dL_law_517 : decode cL_law 517 = .ok (.pop, 1) := fq_87 fk_cL_law_32 5 rfl rfl
theorem dL_law_518 : decode cL_law 518 = .ok (.goto 497, 3) := fq_167 fk_cL_law_32 6 rfl rfl rfl rfl rfl
theorem dL_law_521 : decode cL_law 521 = .ok (.aload_n 1, 1) := fq_43 fk_cL_law_32 9 rfl rfl
theorem dL_law_522 : decode cL_law 522 = .ok (.invokevirtual 69, 3) := fq_182 fk_cL_law_32 10 rfl rfl rfl rfl rfl
theorem wd_800 : Cond.methodLink RL 69 yX9_undo ∈ BG := BG_at3 117 (by decide +kernel) rfl
theorem wd_801 : Cond.code yX9_undo cX9_undo 1 (some .int) ∈ BG := BG_at3 120 rfl rfl
theorem wd_802 : Cond.instanceMethod yX9_undo ∈ BG := BG_at3 118 (by decide +kernel) rfl
theorem wd_803 : Cond.selects RX9 yX9_undo yX9_undo ∈ BG := BG_at3 119 (by decide +kernel) rfl
theorem okV_X9_undo : okV yX9_undo cX9_undo 1 (some .int) 0 := ⟨⟨wd_801, wd_71, by decide +kernel⟩, wd_802, wd_803⟩
theorem dL_law_525 : decode cL_law 525 = .ok (.pop, 1) := fq_87 fk_cL_law_32 13 rfl rfl
theorem dL_law_526 : decode cL_law 526 = .ok (.aload_n 2, 1) := fq_44 fk_cL_law_32 14 rfl rfl
theorem dL_law_527 : decode cL_law 527 = .ok (.invokevirtual 72, 3) := fq_182 fk_cL_law_32 15 rfl rfl rfl rfl rfl
theorem wd_804 : Cond.methodLink RL 72 yX10_undo ∈ BG := BG_at5 82 (by decide +kernel) rfl
theorem wd_805 : Cond.code yX10_undo cX10_undo 2 (some .int) ∈ BG := BG_at5 85 rfl rfl
theorem wd_806 : Cond.instanceMethod yX10_undo ∈ BG := BG_at5 83 (by decide +kernel) rfl
theorem wd_807 : Cond.selects RX10 yX10_undo yX10_undo ∈ BG := BG_at5 84 (by decide +kernel) rfl
theorem okV_X10_undo : okV yX10_undo cX10_undo 2 (some .int) 0 := ⟨⟨wd_805, wd_497, by decide +kernel⟩, wd_806, wd_807⟩
theorem fk_cL_law_33 : fq_ck cL_law 528 [0, 72, 87, 167, 1, 228, 43, 42, 29, 4, 96, 46, 42, 29, 5, 96, 46, 42] := fq_of fW_cL_law 33 rfl rfl
theorem dL_law_530 : decode cL_law 530 = .ok (.pop, 1) := fq_87 fk_cL_law_33 2 rfl rfl
theorem dL_law_531 : decode cL_law 531 = .ok (.goto 484, 3) := fq_167 fk_cL_law_33 3 rfl rfl rfl rfl rfl
theorem dL_law_534 : decode cL_law 534 = .ok (.aload_n 1, 1) := fq_43 fk_cL_law_33 6 rfl rfl
theorem dL_law_535 : decode cL_law 535 = .ok (.aload_n 0, 1) := fq_42 fk_cL_law_33 7 rfl rfl
theorem dL_law_536 : decode cL_law 536 = .ok (.iload_n 3, 1) := fq_29 fk_cL_law_33 8 rfl rfl
theorem dL_law_537 : decode cL_law 537 = .ok (.iconst 1, 1) := fq_4 fk_cL_law_33 9 rfl rfl
theorem dL_law_538 : decode cL_law 538 = .ok (.iadd, 1) := fq_96 fk_cL_law_33 10 rfl rfl
theorem dL_law_539 : decode cL_law 539 = .ok (.iaload, 1) := fq_46 fk_cL_law_33 11 rfl rfl
theorem dL_law_540 : decode cL_law 540 = .ok (.aload_n 0, 1) := fq_42 fk_cL_law_33 12 rfl rfl
theorem dL_law_541 : decode cL_law 541 = .ok (.iload_n 3, 1) := fq_29 fk_cL_law_33 13 rfl rfl
theorem dL_law_542 : decode cL_law 542 = .ok (.iconst 2, 1) := fq_5 fk_cL_law_33 14 rfl rfl
theorem dL_law_543 : decode cL_law 543 = .ok (.iadd, 1) := fq_96 fk_cL_law_33 15 rfl rfl
theorem fk_cL_law_34 : fq_ck cL_law 544 [46, 42, 29, 6, 96, 46, 42, 29, 7, 96, 46, 182, 0, 73, 87, 44, 42, 29] := fq_of fW_cL_law 34 rfl rfl
theorem dL_law_544 : decode cL_law 544 = .ok (.iaload, 1) := fq_46 fk_cL_law_34 0 rfl rfl
theorem dL_law_545 : decode cL_law 545 = .ok (.aload_n 0, 1) := fq_42 fk_cL_law_34 1 rfl rfl
theorem dL_law_546 : decode cL_law 546 = .ok (.iload_n 3, 1) := fq_29 fk_cL_law_34 2 rfl rfl
theorem dL_law_547 : decode cL_law 547 = .ok (.iconst 3, 1) := fq_6 fk_cL_law_34 3 rfl rfl
theorem dL_law_548 : decode cL_law 548 = .ok (.iadd, 1) := fq_96 fk_cL_law_34 4 rfl rfl
theorem dL_law_549 : decode cL_law 549 = .ok (.iaload, 1) := fq_46 fk_cL_law_34 5 rfl rfl
theorem dL_law_550 : decode cL_law 550 = .ok (.aload_n 0, 1) := fq_42 fk_cL_law_34 6 rfl rfl
theorem dL_law_551 : decode cL_law 551 = .ok (.iload_n 3, 1) := fq_29 fk_cL_law_34 7 rfl rfl
theorem dL_law_552 : decode cL_law 552 = .ok (.iconst 4, 1) := fq_7 fk_cL_law_34 8 rfl rfl
theorem dL_law_553 : decode cL_law 553 = .ok (.iadd, 1) := fq_96 fk_cL_law_34 9 rfl rfl
theorem dL_law_554 : decode cL_law 554 = .ok (.iaload, 1) := fq_46 fk_cL_law_34 10 rfl rfl
theorem dL_law_555 : decode cL_law 555 = .ok (.invokevirtual 73, 3) := fq_182 fk_cL_law_34 11 rfl rfl rfl rfl rfl
theorem wd_808 : Cond.methodLink RL 73 yX9_could ∈ BG := BG_at3 129 (by decide +kernel) rfl
theorem wd_809 : Cond.code yX9_could cX9_could 5 (some .int) ∈ BG := BG_at3 132 rfl rfl
theorem wd_810 : Cond.instanceMethod yX9_could ∈ BG := BG_at3 130 (by decide +kernel) rfl
theorem wd_811 : Cond.selects RX9 yX9_could yX9_could ∈ BG := BG_at3 131 (by decide +kernel) rfl
theorem okV_X9_could : okV yX9_could cX9_could 5 (some .int) 4 := ⟨⟨wd_809, wd_71, by decide +kernel⟩, wd_810, wd_811⟩
theorem dL_law_558 : decode cL_law 558 = .ok (.pop, 1) := fq_87 fk_cL_law_34 14 rfl rfl
theorem dL_law_559 : decode cL_law 559 = .ok (.aload_n 2, 1) := fq_44 fk_cL_law_34 15 rfl rfl
theorem fk_cL_law_35 : fq_ck cL_law 560 [42, 29, 4, 96, 46, 42, 29, 5, 96, 46, 42, 29, 6, 96, 46, 42, 29, 7] := fq_of fW_cL_law 35 rfl rfl
theorem dL_law_560 : decode cL_law 560 = .ok (.aload_n 0, 1) := fq_42 fk_cL_law_35 0 rfl rfl
theorem dL_law_561 : decode cL_law 561 = .ok (.iload_n 3, 1) := fq_29 fk_cL_law_35 1 rfl rfl
theorem dL_law_562 : decode cL_law 562 = .ok (.iconst 1, 1) := fq_4 fk_cL_law_35 2 rfl rfl
theorem dL_law_563 : decode cL_law 563 = .ok (.iadd, 1) := fq_96 fk_cL_law_35 3 rfl rfl
theorem dL_law_564 : decode cL_law 564 = .ok (.iaload, 1) := fq_46 fk_cL_law_35 4 rfl rfl
theorem dL_law_565 : decode cL_law 565 = .ok (.aload_n 0, 1) := fq_42 fk_cL_law_35 5 rfl rfl
theorem dL_law_566 : decode cL_law 566 = .ok (.iload_n 3, 1) := fq_29 fk_cL_law_35 6 rfl rfl
theorem dL_law_567 : decode cL_law 567 = .ok (.iconst 2, 1) := fq_5 fk_cL_law_35 7 rfl rfl
theorem dL_law_568 : decode cL_law 568 = .ok (.iadd, 1) := fq_96 fk_cL_law_35 8 rfl rfl
theorem dL_law_569 : decode cL_law 569 = .ok (.iaload, 1) := fq_46 fk_cL_law_35 9 rfl rfl
theorem dL_law_570 : decode cL_law 570 = .ok (.aload_n 0, 1) := fq_42 fk_cL_law_35 10 rfl rfl
theorem dL_law_571 : decode cL_law 571 = .ok (.iload_n 3, 1) := fq_29 fk_cL_law_35 11 rfl rfl
theorem dL_law_572 : decode cL_law 572 = .ok (.iconst 3, 1) := fq_6 fk_cL_law_35 12 rfl rfl
theorem dL_law_573 : decode cL_law 573 = .ok (.iadd, 1) := fq_96 fk_cL_law_35 13 rfl rfl
theorem dL_law_574 : decode cL_law 574 = .ok (.iaload, 1) := fq_46 fk_cL_law_35 14 rfl rfl
theorem dL_law_575 : decode cL_law 575 = .ok (.aload_n 0, 1) := fq_42 fk_cL_law_35 15 rfl rfl
theorem fk_cL_law_36 : fq_ck cL_law 576 [29, 7, 96, 46, 182, 0, 77, 87, 167, 1, 175, 43, 42, 29, 4, 96, 46, 42] := fq_of fW_cL_law 36 rfl rfl
theorem dL_law_576 : decode cL_law 576 = .ok (.iload_n 3, 1) := fq_29 fk_cL_law_36 0 rfl rfl
theorem dL_law_577 : decode cL_law 577 = .ok (.iconst 4, 1) := fq_7 fk_cL_law_36 1 rfl rfl
theorem dL_law_578 : decode cL_law 578 = .ok (.iadd, 1) := fq_96 fk_cL_law_36 2 rfl rfl
theorem dL_law_579 : decode cL_law 579 = .ok (.iaload, 1) := fq_46 fk_cL_law_36 3 rfl rfl
theorem dL_law_580 : decode cL_law 580 = .ok (.invokevirtual 77, 3) := fq_182 fk_cL_law_36 4 rfl rfl rfl rfl rfl
theorem wd_812 : Cond.methodLink RL 77 yX10_could ∈ BG := BG_at5 141 (by decide +kernel) rfl
theorem wd_813 : Cond.code yX10_could cX10_could 5 (some .int) ∈ BG := BG_at5 144 rfl rfl
theorem wd_814 : Cond.instanceMethod yX10_could ∈ BG := BG_at5 142 (by decide +kernel) rfl
theorem wd_815 : Cond.selects RX10 yX10_could yX10_could ∈ BG := BG_at5 143 (by decide +kernel) rfl
theorem okV_X10_could : okV yX10_could cX10_could 5 (some .int) 4 := ⟨⟨wd_813, wd_497, by decide +kernel⟩, wd_814, wd_815⟩
theorem dL_law_583 : decode cL_law 583 = .ok (.pop, 1) := fq_87 fk_cL_law_36 7 rfl rfl
theorem dL_law_584 : decode cL_law 584 = .ok (.goto 431, 3) := fq_167 fk_cL_law_36 8 rfl rfl rfl rfl rfl
theorem dL_law_587 : decode cL_law 587 = .ok (.aload_n 1, 1) := fq_43 fk_cL_law_36 11 rfl rfl
theorem dL_law_588 : decode cL_law 588 = .ok (.aload_n 0, 1) := fq_42 fk_cL_law_36 12 rfl rfl
theorem dL_law_589 : decode cL_law 589 = .ok (.iload_n 3, 1) := fq_29 fk_cL_law_36 13 rfl rfl
theorem dL_law_590 : decode cL_law 590 = .ok (.iconst 1, 1) := fq_4 fk_cL_law_36 14 rfl rfl
theorem dL_law_591 : decode cL_law 591 = .ok (.iadd, 1) := fq_96 fk_cL_law_36 15 rfl rfl
theorem fk_cL_law_37 : fq_ck cL_law 592 [46, 42, 29, 5, 96, 46, 182, 0, 78, 87, 44, 42, 29, 4, 96, 46, 42, 29] := fq_of fW_cL_law 37 rfl rfl
theorem dL_law_592 : decode cL_law 592 = .ok (.iaload, 1) := fq_46 fk_cL_law_37 0 rfl rfl
theorem dL_law_593 : decode cL_law 593 = .ok (.aload_n 0, 1) := fq_42 fk_cL_law_37 1 rfl rfl
theorem dL_law_594 : decode cL_law 594 = .ok (.iload_n 3, 1) := fq_29 fk_cL_law_37 2 rfl rfl
theorem dL_law_595 : decode cL_law 595 = .ok (.iconst 2, 1) := fq_5 fk_cL_law_37 3 rfl rfl
theorem dL_law_596 : decode cL_law 596 = .ok (.iadd, 1) := fq_96 fk_cL_law_37 4 rfl rfl
theorem dL_law_597 : decode cL_law 597 = .ok (.iaload, 1) := fq_46 fk_cL_law_37 5 rfl rfl
theorem dL_law_598 : decode cL_law 598 = .ok (.invokevirtual 78, 3) := fq_182 fk_cL_law_37 6 rfl rfl rfl rfl rfl
theorem wd_816 : Cond.methodLink RL 78 yX9_bestTheme ∈ BG := BG_at3 133 (by decide +kernel) rfl
theorem wd_817 : Cond.code yX9_bestTheme cX9_bestTheme 3 (some .int) ∈ BG := BG_at3 136 rfl rfl
theorem wd_818 : Cond.instanceMethod yX9_bestTheme ∈ BG := BG_at3 134 (by decide +kernel) rfl
theorem wd_819 : Cond.selects RX9 yX9_bestTheme yX9_bestTheme ∈ BG := BG_at3 135 (by decide +kernel) rfl
theorem okV_X9_bestTheme : okV yX9_bestTheme cX9_bestTheme 3 (some .int) 2 := ⟨⟨wd_817, wd_71, by decide +kernel⟩, wd_818, wd_819⟩
theorem dL_law_601 : decode cL_law 601 = .ok (.pop, 1) := fq_87 fk_cL_law_37 9 rfl rfl
theorem dL_law_602 : decode cL_law 602 = .ok (.aload_n 2, 1) := fq_44 fk_cL_law_37 10 rfl rfl
theorem dL_law_603 : decode cL_law 603 = .ok (.aload_n 0, 1) := fq_42 fk_cL_law_37 11 rfl rfl
theorem dL_law_604 : decode cL_law 604 = .ok (.iload_n 3, 1) := fq_29 fk_cL_law_37 12 rfl rfl
theorem dL_law_605 : decode cL_law 605 = .ok (.iconst 1, 1) := fq_4 fk_cL_law_37 13 rfl rfl
theorem dL_law_606 : decode cL_law 606 = .ok (.iadd, 1) := fq_96 fk_cL_law_37 14 rfl rfl
theorem dL_law_607 : decode cL_law 607 = .ok (.iaload, 1) := fq_46 fk_cL_law_37 15 rfl rfl
theorem fk_cL_law_38 : fq_ck cL_law 608 [42, 29, 5, 96, 46, 182, 0, 81, 87, 167, 1, 142, 43, 42, 29, 4, 96, 46] := fq_of fW_cL_law 38 rfl rfl
theorem dL_law_608 : decode cL_law 608 = .ok (.aload_n 0, 1) := fq_42 fk_cL_law_38 0 rfl rfl
theorem dL_law_609 : decode cL_law 609 = .ok (.iload_n 3, 1) := fq_29 fk_cL_law_38 1 rfl rfl
theorem dL_law_610 : decode cL_law 610 = .ok (.iconst 2, 1) := fq_5 fk_cL_law_38 2 rfl rfl
theorem dL_law_611 : decode cL_law 611 = .ok (.iadd, 1) := fq_96 fk_cL_law_38 3 rfl rfl
theorem dL_law_612 : decode cL_law 612 = .ok (.iaload, 1) := fq_46 fk_cL_law_38 4 rfl rfl
theorem dL_law_613 : decode cL_law 613 = .ok (.invokevirtual 81, 3) := fq_182 fk_cL_law_38 5 rfl rfl rfl rfl rfl
theorem wd_820 : Cond.methodLink RL 81 yX10_bestTheme ∈ BG := BG_at5 149 (by decide +kernel) rfl
theorem wd_821 : Cond.code yX10_bestTheme cX10_bestTheme 3 (some .int) ∈ BG := BG_at5 152 rfl rfl
theorem wd_822 : Cond.instanceMethod yX10_bestTheme ∈ BG := BG_at5 150 (by decide +kernel) rfl
theorem wd_823 : Cond.selects RX10 yX10_bestTheme yX10_bestTheme ∈ BG := BG_at5 151 (by decide +kernel) rfl
theorem okV_X10_bestTheme : okV yX10_bestTheme cX10_bestTheme 3 (some .int) 2 := ⟨⟨wd_821, wd_497, by decide +kernel⟩, wd_822, wd_823⟩
theorem dL_law_616 : decode cL_law 616 = .ok (.pop, 1) := fq_87 fk_cL_law_38 8 rfl rfl
theorem dL_law_617 : decode cL_law 617 = .ok (.goto 398, 3) := fq_167 fk_cL_law_38 9 rfl rfl rfl rfl rfl
end
section
def Wx_send (cI cZ : ClassId) (xh : Nat) (v_x : Nat) (v_q1 : Int32) (v_q2 : Int32) (v_rd : Nat) (v_t : Nat) (v_d : Nat) (v_nw : Nat) (v_ps : Nat) (v_im : Nat) (v_is_ : Nat) (v_q10 : Int32) (v_bk : Nat) (v_q12 : Int32) (v_qr : Nat) (v_pr : Nat) (v_cv : Nat) (v_ft : Nat) (v_t0 : Int32) (v_t1 : Int32) (v_t2 : Int32) (v_t3 : Int32) (v_t4 : Int32) (v_ta : Nat) (v_tb : Nat) (v_tc : Nat) (v_td : Nat) (v_te : Nat) (v_nwc : Nat) (v_fn : Nat → Int32) (v_sh : Nat) (v_p1 : Int32) (v_p2 : Int32) (v_shc : Nat) (v_fsh : Nat → Int32) : va_W := [(xh, .inr (9, [.ref v_x, .int v_q1, .int v_q2, .ref v_rd, .ref v_t, .ref v_d, .ref v_nw, .ref v_ps, .ref v_im, .ref v_is_, .int v_q10, .ref v_bk, .int v_q12, .ref v_qr, .ref v_pr, .ref v_cv, .ref v_ft])), (v_t, .inr (8, [.int v_t0, .int v_t1, .int v_t2, .int v_t3, .int v_t4, .ref v_ta, .ref v_tb, .ref v_tc, .ref v_td, .ref v_te])), (v_nw, .inr (7, [.ref v_nwc])), (v_nwc, .inl (cI, 41, .inl v_fn)), (v_ps, .inr (2, [.ref v_sh, .int v_p1, .int v_p2])), (v_sh, .inr (6, [.int 20, .ref v_shc])), (v_shc, .inl (cI, 820, .inl v_fsh))]
def Wm_send (cI cZ : ClassId) (yh : Nat) (Rf : Nat → Nat) (G : Nat → Int32) (f0 : Nat → Int32) : va_W := [(yh, .inr (10, ML G Rf)), ((Rf 0), .inl (cI, 1302, .inl f0))]
set_option maxHeartbeats 4000000 in
set_option maxRecDepth 100000 in
theorem law_send {p : Program} {l : Launch} {e : Env} {s : State} {m : MethodId} {below : List Frame} {meth : Method} {c : Code} {D : va_G} {cI cZ : ClassId} {b : Nat} {xs : Nat → Int32} {L : Nat} (wr : va_W) (v_x : Nat) (v_q1 : Int32) (v_q2 : Int32) (v_rd : Nat) (v_t : Nat) (v_d : Nat) (v_nw : Nat) (v_ps : Nat) (v_im : Nat) (v_is_ : Nat) (v_q10 : Int32) (v_bk : Nat) (v_q12 : Int32) (v_qr : Nat) (v_pr : Nat) (v_cv : Nat) (v_ft : Nat) (v_t0 : Int32) (v_t1 : Int32) (v_t2 : Int32) (v_t3 : Int32) (v_t4 : Int32) (v_ta : Nat) (v_tb : Nat) (v_tc : Nat) (v_td : Nat) (v_te : Nat) (v_nwc : Nat) (v_fn : Nat → Int32) (v_sh : Nat) (v_p1 : Int32) (v_p2 : Int32) (v_shc : Nat) (v_fsh : Nat → Int32) (Rf : Nat → Nat) (G : Nat → Int32) (f0 : Nat → Int32) {xh yh : Nat} {iv : Int32} (C0 : lw_C p s m meth c b L xs) {H : Heap} {locs : List Loc} {ls : Array Slot} (hi1 : ¬ ((iv + 1) < 0 ∨ L ≤ (iv + 1 : Int32).toNatClampNeg)) (hi2 : ¬ ((iv + 2) < 0 ∨ L ≤ (iv + 2 : Int32).toNatClampNeg)) (hi3 : ¬ ((iv + 3) < 0 ∨ L ≤ (iv + 3 : Int32).toNatClampNeg)) (hi4 : ¬ ((iv + 4) < 0 ∨ L ≤ (iv + 4 : Int32).toNatClampNeg)) (hK : va_K D classes (TYS cI cZ) s) (hs : S_m_send G f0 (xs ((iv + 1) : Int32).toNatClampNeg) (xs ((iv + 2) : Int32).toNatClampNeg) (xs ((iv + 3) : Int32).toNatClampNeg)) (hP : va_P D classes ((Wx_send cI cZ xh v_x v_q1 v_q2 v_rd v_t v_d v_nw v_ps v_im v_is_ v_q10 v_bk v_q12 v_qr v_pr v_cv v_ft v_t0 v_t1 v_t2 v_t3 v_t4 v_ta v_tb v_tc v_td v_te v_nwc v_fn v_sh v_p1 v_p2 v_shc v_fsh) ++ ((Wm_send cI cZ yh Rf G f0) ++ wr)) H) (hD : va_D (lw_A s) ((Wx_send cI cZ xh v_x v_q1 v_q2 v_rd v_t v_d v_nw v_ps v_im v_is_ v_q10 v_bk v_q12 v_qr v_pr v_cv v_ft v_t0 v_t1 v_t2 v_t3 v_t4 v_ta v_tb v_tc v_td v_te v_nwc v_fn v_sh v_p1 v_p2 v_shc v_fsh) ++ ((Wm_send cI cZ yh Rf G f0) ++ wr))) (hS : va_S (lw_A s) s.heap H locs) (hl : lv_has ls 4 [(0, .ref b), (1, .ref xh), (2, .ref yh), (3, .int iv)]) (hnext : ∀ (rx : Int32) (x0 : (Nat → Int32)) (x1 : Int32) (x2 : Int32) (x3 : (Nat → Int32)) (ry : Int32) (y0 : (Nat → Int32)) (y1 : (Nat → Int32)) (H : Heap) (locs : List Loc) (ls : Array Slot), (rx, x0, x1, x2, x3) = (f_e_send_x9 v_q1 v_q2 v_q10 v_q12 v_t0 v_t1 v_t2 v_t3 v_t4 v_fn v_p1 v_p2 v_fsh (xs ((iv + 1) : Int32).toNatClampNeg) (xs ((iv + 2) : Int32).toNatClampNeg) (xs ((iv + 3) : Int32).toNatClampNeg)) → (ry, y0, y1) = (f_m_send G f0 (xs ((iv + 1) : Int32).toNatClampNeg) (xs ((iv + 2) : Int32).toNatClampNeg) (xs ((iv + 3) : Int32).toNatClampNeg)) → va_P D classes ((Wx_send cI cZ xh v_x v_q1 v_q2 v_rd v_t v_d v_nw v_ps v_im v_is_ v_q10 v_bk v_q12 v_qr v_pr v_cv v_ft v_t0 v_t1 v_t2 v_t3 v_t4 v_ta v_tb v_tc v_td v_te v_nwc x0 v_sh x1 x2 v_shc x3) ++ ((Wm_send cI cZ yh Rf y0 y1) ++ wr)) H → va_D (lw_A s) ((Wx_send cI cZ xh v_x v_q1 v_q2 v_rd v_t v_d v_nw v_ps v_im v_is_ v_q10 v_bk v_q12 v_qr v_pr v_cv v_ft v_t0 v_t1 v_t2 v_t3 v_t4 v_ta v_tb v_tc v_td v_te v_nwc x0 v_sh x1 x2 v_shc x3) ++ ((Wm_send cI cZ yh Rf y0 y1) ++ wr)) → va_S (lw_A s) s.heap H locs → lv_has ls 4 [(0, .ref b), (1, .ref xh), (2, .ref yh), (3, .int iv)] → W p l e room_1 s m #[Value.ref b] below meth c H locs 60 4269 (lw_Z below #[Value.ref b] s) (F0 m 1015 ls [])) : W p l e room_1 s m #[Value.ref b] below meth c H locs 60 4269 (lw_Z below #[Value.ref b] s) (F0 m 376 ls []) := by
  obtain ⟨hx, hb, hr, hml, hown, hts, hX, hbl, hlocks, hN⟩ := C0
  have hA : ∀ q, s.heap.size ≤ q → lw_A s q := fun _ h => h
  have hbA : ¬ lw_A s b := Nat.not_le.mpr hbl
  refine lv_aload_n hx hb dL_law_376 rfl (lv_at hl 1 rfl) ?_
  refine lv_aload_n hx hb dL_law_377 rfl (lv_at hl 0 rfl) ?_
  refine lv_iload_n hx hb dL_law_378 rfl (lv_at hl 3 rfl) ?_
  refine lv_iconst (v := 1) hx hb dL_law_379 rfl ?_
  refine lv_iadd hx hb dL_law_380 ?_
  refine va_sld hx hb hX hbl hbA hS hi1 dL_law_381 ?_
  refine lv_aload_n hx hb dL_law_382 rfl (lv_at hl 0 rfl) ?_
  refine lv_iload_n hx hb dL_law_383 rfl (lv_at hl 3 rfl) ?_
  refine lv_iconst (v := 2) hx hb dL_law_384 rfl ?_
  refine lv_iadd hx hb dL_law_385 ?_
  refine va_sld hx hb hX hbl hbA hS hi2 dL_law_386 ?_
  refine lv_aload_n hx hb dL_law_387 rfl (lv_at hl 0 rfl) ?_
  refine lv_iload_n hx hb dL_law_388 rfl (lv_at hl 3 rfl) ?_
  refine lv_iconst (v := 3) hx hb dL_law_389 rfl ?_
  refine lv_iadd hx hb dL_law_390 ?_
  refine va_sld hx hb hX hbl hbA hS hi3 dL_law_391 ?_
  refine cVa (wc := (Wx_send cI cZ xh v_x v_q1 v_q2 v_rd v_t v_d v_nw v_ps v_im v_is_ v_q10 v_bk v_q12 v_qr v_pr v_cv v_ft v_t0 v_t1 v_t2 v_t3 v_t4 v_ta v_tb v_tc v_td v_te v_nwc v_fn v_sh v_p1 v_p2 v_shc v_fsh)) (wr := ((Wm_send cI cZ yh Rf G f0) ++ wr)) (rest := []) (e_send_x9 xh v_x v_rd v_t v_d v_nw v_ps v_im v_is_ v_bk v_qr v_pr v_cv v_ft v_ta v_tb v_tc v_td v_te v_nwc v_sh v_shc v_q1 v_q2 v_q10 v_q12 v_t0 v_t1 v_t2 v_t3 v_t4 v_fn v_p1 v_p2 v_fsh (xs ((iv + 1) : Int32).toNatClampNeg) (xs ((iv + 2) : Int32).toNatClampNeg) (xs ((iv + 3) : Int32).toNatClampNeg)) okV_X9_send wd_760 hx hb hml hown hts hK hP hD hS hA hN hl.1 rfl rfl rfl (Nat.le_of_ble_eq_true rfl) (Nat.le_of_ble_eq_true rfl) (Nat.le_of_ble_eq_true rfl) (Nat.le_of_ble_eq_true rfl) (Nat.le_of_ble_eq_true rfl) dL_law_392 (fun rx u1 H locs ex hP hD hS => ?_)
  obtain ⟨x0, x1, x2, x3⟩ := u1
  replace ex : (rx, x0, x1, x2, x3) = (f_e_send_x9 v_q1 v_q2 v_q10 v_q12 v_t0 v_t1 v_t2 v_t3 v_t4 v_fn v_p1 v_p2 v_fsh (xs ((iv + 1) : Int32).toNatClampNeg) (xs ((iv + 2) : Int32).toNatClampNeg) (xs ((iv + 3) : Int32).toNatClampNeg)) := ex
  have hP : va_P D classes (((Wm_send cI cZ yh Rf G f0) ++ wr) ++ (Wx_send cI cZ xh v_x v_q1 v_q2 v_rd v_t v_d v_nw v_ps v_im v_is_ v_q10 v_bk v_q12 v_qr v_pr v_cv v_ft v_t0 v_t1 v_t2 v_t3 v_t4 v_ta v_tb v_tc v_td v_te v_nwc x0 v_sh x1 x2 v_shc x3)) H := hP
  have hD : va_D (lw_A s) (((Wm_send cI cZ yh Rf G f0) ++ wr) ++ (Wx_send cI cZ xh v_x v_q1 v_q2 v_rd v_t v_d v_nw v_ps v_im v_is_ v_q10 v_bk v_q12 v_qr v_pr v_cv v_ft v_t0 v_t1 v_t2 v_t3 v_t4 v_ta v_tb v_tc v_td v_te v_nwc x0 v_sh x1 x2 v_shc x3)) := hD
  rw [List.append_assoc] at hP hD
  refine lv_pop hx hb dL_law_395 rfl ?_
  refine lv_aload_n hx hb dL_law_396 rfl (lv_at hl 2 rfl) ?_
  refine lv_aload_n hx hb dL_law_397 rfl (lv_at hl 0 rfl) ?_
  refine lv_iload_n hx hb dL_law_398 rfl (lv_at hl 3 rfl) ?_
  refine lv_iconst (v := 1) hx hb dL_law_399 rfl ?_
  refine lv_iadd hx hb dL_law_400 ?_
  refine va_sld hx hb hX hbl hbA hS hi1 dL_law_401 ?_
  refine lv_aload_n hx hb dL_law_402 rfl (lv_at hl 0 rfl) ?_
  refine lv_iload_n hx hb dL_law_403 rfl (lv_at hl 3 rfl) ?_
  refine lv_iconst (v := 2) hx hb dL_law_404 rfl ?_
  refine lv_iadd hx hb dL_law_405 ?_
  refine va_sld hx hb hX hbl hbA hS hi2 dL_law_406 ?_
  refine lv_aload_n hx hb dL_law_407 rfl (lv_at hl 0 rfl) ?_
  refine lv_iload_n hx hb dL_law_408 rfl (lv_at hl 3 rfl) ?_
  refine lv_iconst (v := 3) hx hb dL_law_409 rfl ?_
  refine lv_iadd hx hb dL_law_410 ?_
  refine va_sld hx hb hX hbl hbA hS hi3 dL_law_411 ?_
  refine cVa (wc := (Wm_send cI cZ yh Rf G f0)) (wr := (wr ++ (Wx_send cI cZ xh v_x v_q1 v_q2 v_rd v_t v_d v_nw v_ps v_im v_is_ v_q10 v_bk v_q12 v_qr v_pr v_cv v_ft v_t0 v_t1 v_t2 v_t3 v_t4 v_ta v_tb v_tc v_td v_te v_nwc x0 v_sh x1 x2 v_shc x3))) (rest := []) (m_send Rf yh G f0 (xs ((iv + 1) : Int32).toNatClampNeg) (xs ((iv + 2) : Int32).toNatClampNeg) (xs ((iv + 3) : Int32).toNatClampNeg) hs) okV_X10_send wd_764 hx hb hml hown hts hK hP hD hS hA hN hl.1 rfl rfl rfl (Nat.le_of_ble_eq_true rfl) (Nat.le_of_ble_eq_true rfl) (Nat.le_of_ble_eq_true rfl) (Nat.le_of_ble_eq_true rfl) (Nat.le_of_ble_eq_true rfl) dL_law_412 (fun ry u2 H locs em hP hD hS => ?_)
  obtain ⟨y0, y1⟩ := u2
  replace em : (ry, y0, y1) = (f_m_send G f0 (xs ((iv + 1) : Int32).toNatClampNeg) (xs ((iv + 2) : Int32).toNatClampNeg) (xs ((iv + 3) : Int32).toNatClampNeg)) := em
  have hP : va_P D classes ((wr ++ (Wx_send cI cZ xh v_x v_q1 v_q2 v_rd v_t v_d v_nw v_ps v_im v_is_ v_q10 v_bk v_q12 v_qr v_pr v_cv v_ft v_t0 v_t1 v_t2 v_t3 v_t4 v_ta v_tb v_tc v_td v_te v_nwc x0 v_sh x1 x2 v_shc x3)) ++ (Wm_send cI cZ yh Rf y0 y1)) H := hP
  have hD : va_D (lw_A s) ((wr ++ (Wx_send cI cZ xh v_x v_q1 v_q2 v_rd v_t v_d v_nw v_ps v_im v_is_ v_q10 v_bk v_q12 v_qr v_pr v_cv v_ft v_t0 v_t1 v_t2 v_t3 v_t4 v_ta v_tb v_tc v_td v_te v_nwc x0 v_sh x1 x2 v_shc x3)) ++ (Wm_send cI cZ yh Rf y0 y1)) := hD
  refine lv_pop hx hb dL_law_415 rfl ?_
  refine lv_goto (tgt := 1015) hx hb dL_law_416 rfl ?_
  exact hnext rx x0 x1 x2 x3 ry y0 y1 _ _ _ ex em (permP rot hP) (permD rot hD) hS hl
def Wx_home (cI cZ : ClassId) (xh : Nat) (v_x : Nat) (v_q1 : Int32) (v_q2 : Int32) (v_rd : Nat) (v_t : Nat) (v_d : Nat) (v_nw : Nat) (v_ps : Nat) (v_im : Nat) (v_is_ : Nat) (v_q10 : Int32) (v_bk : Nat) (v_q12 : Int32) (v_qr : Nat) (v_pr : Nat) (v_cv : Nat) (v_ft : Nat) (v_t0 : Int32) (v_t1 : Int32) (v_t2 : Int32) (v_t3 : Int32) (v_t4 : Int32) (v_ta : Nat) (v_tb : Nat) (v_tc : Nat) (v_td : Nat) (v_te : Nat) (v_nwc : Nat) (v_fn : Nat → Int32) (v_sh : Nat) (v_p1 : Int32) (v_p2 : Int32) (v_shc : Nat) (v_fsh : Nat → Int32) : va_W := [(xh, .inr (9, [.ref v_x, .int v_q1, .int v_q2, .ref v_rd, .ref v_t, .ref v_d, .ref v_nw, .ref v_ps, .ref v_im, .ref v_is_, .int v_q10, .ref v_bk, .int v_q12, .ref v_qr, .ref v_pr, .ref v_cv, .ref v_ft])), (v_t, .inr (8, [.int v_t0, .int v_t1, .int v_t2, .int v_t3, .int v_t4, .ref v_ta, .ref v_tb, .ref v_tc, .ref v_td, .ref v_te])), (v_nw, .inr (7, [.ref v_nwc])), (v_nwc, .inl (cI, 41, .inl v_fn)), (v_ps, .inr (2, [.ref v_sh, .int v_p1, .int v_p2])), (v_sh, .inr (6, [.int 20, .ref v_shc])), (v_shc, .inl (cI, 820, .inl v_fsh))]
def Wm_home (cI cZ : ClassId) (yh : Nat) (Rf : Nat → Nat) (G : Nat → Int32) (f0 : Nat → Int32) : va_W := [(yh, .inr (10, ML G Rf)), ((Rf 0), .inl (cI, 1302, .inl f0))]
set_option maxHeartbeats 4000000 in
set_option maxRecDepth 100000 in
theorem law_home {p : Program} {l : Launch} {e : Env} {s : State} {m : MethodId} {below : List Frame} {meth : Method} {c : Code} {D : va_G} {cI cZ : ClassId} {b : Nat} {xs : Nat → Int32} {L : Nat} (wr : va_W) (v_x : Nat) (v_q1 : Int32) (v_q2 : Int32) (v_rd : Nat) (v_t : Nat) (v_d : Nat) (v_nw : Nat) (v_ps : Nat) (v_im : Nat) (v_is_ : Nat) (v_q10 : Int32) (v_bk : Nat) (v_q12 : Int32) (v_qr : Nat) (v_pr : Nat) (v_cv : Nat) (v_ft : Nat) (v_t0 : Int32) (v_t1 : Int32) (v_t2 : Int32) (v_t3 : Int32) (v_t4 : Int32) (v_ta : Nat) (v_tb : Nat) (v_tc : Nat) (v_td : Nat) (v_te : Nat) (v_nwc : Nat) (v_fn : Nat → Int32) (v_sh : Nat) (v_p1 : Int32) (v_p2 : Int32) (v_shc : Nat) (v_fsh : Nat → Int32) (Rf : Nat → Nat) (G : Nat → Int32) (f0 : Nat → Int32) {xh yh : Nat} {iv : Int32} (C0 : lw_C p s m meth c b L xs) {H : Heap} {locs : List Loc} {ls : Array Slot} (hi1 : ¬ ((iv + 1) < 0 ∨ L ≤ (iv + 1 : Int32).toNatClampNeg)) (hi2 : ¬ ((iv + 2) < 0 ∨ L ≤ (iv + 2 : Int32).toNatClampNeg)) (hi3 : ¬ ((iv + 3) < 0 ∨ L ≤ (iv + 3 : Int32).toNatClampNeg)) (hi4 : ¬ ((iv + 4) < 0 ∨ L ≤ (iv + 4 : Int32).toNatClampNeg)) (hK : va_K D classes (TYS cI cZ) s) (hs : S_m_home G f0 (xs ((iv + 1) : Int32).toNatClampNeg)) (hP : va_P D classes ((Wx_home cI cZ xh v_x v_q1 v_q2 v_rd v_t v_d v_nw v_ps v_im v_is_ v_q10 v_bk v_q12 v_qr v_pr v_cv v_ft v_t0 v_t1 v_t2 v_t3 v_t4 v_ta v_tb v_tc v_td v_te v_nwc v_fn v_sh v_p1 v_p2 v_shc v_fsh) ++ ((Wm_home cI cZ yh Rf G f0) ++ wr)) H) (hD : va_D (lw_A s) ((Wx_home cI cZ xh v_x v_q1 v_q2 v_rd v_t v_d v_nw v_ps v_im v_is_ v_q10 v_bk v_q12 v_qr v_pr v_cv v_ft v_t0 v_t1 v_t2 v_t3 v_t4 v_ta v_tb v_tc v_td v_te v_nwc v_fn v_sh v_p1 v_p2 v_shc v_fsh) ++ ((Wm_home cI cZ yh Rf G f0) ++ wr))) (hS : va_S (lw_A s) s.heap H locs) (hl : lv_has ls 4 [(0, .ref b), (1, .ref xh), (2, .ref yh), (3, .int iv)]) (hnext : ∀ (rx : Int32) (x0 : (Nat → Int32)) (x1 : Int32) (x2 : Int32) (x3 : (Nat → Int32)) (ry : Int32) (y0 : (Nat → Int32)) (y1 : (Nat → Int32)) (H : Heap) (locs : List Loc) (ls : Array Slot), (rx, x0, x1, x2, x3) = (f_e_home_x9 v_q1 v_q2 v_q10 v_q12 v_t0 v_t1 v_t2 v_t3 v_t4 v_fn v_p1 v_p2 v_fsh (xs ((iv + 1) : Int32).toNatClampNeg)) → (ry, y0, y1) = (f_m_home G f0 (xs ((iv + 1) : Int32).toNatClampNeg)) → va_P D classes ((Wx_home cI cZ xh v_x v_q1 v_q2 v_rd v_t v_d v_nw v_ps v_im v_is_ v_q10 v_bk v_q12 v_qr v_pr v_cv v_ft v_t0 v_t1 v_t2 v_t3 v_t4 v_ta v_tb v_tc v_td v_te v_nwc x0 v_sh x1 x2 v_shc x3) ++ ((Wm_home cI cZ yh Rf y0 y1) ++ wr)) H → va_D (lw_A s) ((Wx_home cI cZ xh v_x v_q1 v_q2 v_rd v_t v_d v_nw v_ps v_im v_is_ v_q10 v_bk v_q12 v_qr v_pr v_cv v_ft v_t0 v_t1 v_t2 v_t3 v_t4 v_ta v_tb v_tc v_td v_te v_nwc x0 v_sh x1 x2 v_shc x3) ++ ((Wm_home cI cZ yh Rf y0 y1) ++ wr)) → va_S (lw_A s) s.heap H locs → lv_has ls 4 [(0, .ref b), (1, .ref xh), (2, .ref yh), (3, .int iv)] → W p l e room_1 s m #[Value.ref b] below meth c H locs 60 4269 (lw_Z below #[Value.ref b] s) (F0 m 1015 ls [])) : W p l e room_1 s m #[Value.ref b] below meth c H locs 60 4269 (lw_Z below #[Value.ref b] s) (F0 m 419 ls []) := by
  obtain ⟨hx, hb, hr, hml, hown, hts, hX, hbl, hlocks, hN⟩ := C0
  have hA : ∀ q, s.heap.size ≤ q → lw_A s q := fun _ h => h
  have hbA : ¬ lw_A s b := Nat.not_le.mpr hbl
  refine lv_aload_n hx hb dL_law_419 rfl (lv_at hl 1 rfl) ?_
  refine lv_aload_n hx hb dL_law_420 rfl (lv_at hl 0 rfl) ?_
  refine lv_iload_n hx hb dL_law_421 rfl (lv_at hl 3 rfl) ?_
  refine lv_iconst (v := 1) hx hb dL_law_422 rfl ?_
  refine lv_iadd hx hb dL_law_423 ?_
  refine va_sld hx hb hX hbl hbA hS hi1 dL_law_424 ?_
  refine cVa (wc := (Wx_home cI cZ xh v_x v_q1 v_q2 v_rd v_t v_d v_nw v_ps v_im v_is_ v_q10 v_bk v_q12 v_qr v_pr v_cv v_ft v_t0 v_t1 v_t2 v_t3 v_t4 v_ta v_tb v_tc v_td v_te v_nwc v_fn v_sh v_p1 v_p2 v_shc v_fsh)) (wr := ((Wm_home cI cZ yh Rf G f0) ++ wr)) (rest := []) (e_home_x9 xh v_x v_rd v_t v_d v_nw v_ps v_im v_is_ v_bk v_qr v_pr v_cv v_ft v_ta v_tb v_tc v_td v_te v_nwc v_sh v_shc v_q1 v_q2 v_q10 v_q12 v_t0 v_t1 v_t2 v_t3 v_t4 v_fn v_p1 v_p2 v_fsh (xs ((iv + 1) : Int32).toNatClampNeg)) okV_X9_home wd_768 hx hb hml hown hts hK hP hD hS hA hN hl.1 rfl rfl rfl (Nat.le_of_ble_eq_true rfl) (Nat.le_of_ble_eq_true rfl) (Nat.le_of_ble_eq_true rfl) (Nat.le_of_ble_eq_true rfl) (Nat.le_of_ble_eq_true rfl) dL_law_425 (fun rx u1 H locs ex hP hD hS => ?_)
  obtain ⟨x0, x1, x2, x3⟩ := u1
  replace ex : (rx, x0, x1, x2, x3) = (f_e_home_x9 v_q1 v_q2 v_q10 v_q12 v_t0 v_t1 v_t2 v_t3 v_t4 v_fn v_p1 v_p2 v_fsh (xs ((iv + 1) : Int32).toNatClampNeg)) := ex
  have hP : va_P D classes (((Wm_home cI cZ yh Rf G f0) ++ wr) ++ (Wx_home cI cZ xh v_x v_q1 v_q2 v_rd v_t v_d v_nw v_ps v_im v_is_ v_q10 v_bk v_q12 v_qr v_pr v_cv v_ft v_t0 v_t1 v_t2 v_t3 v_t4 v_ta v_tb v_tc v_td v_te v_nwc x0 v_sh x1 x2 v_shc x3)) H := hP
  have hD : va_D (lw_A s) (((Wm_home cI cZ yh Rf G f0) ++ wr) ++ (Wx_home cI cZ xh v_x v_q1 v_q2 v_rd v_t v_d v_nw v_ps v_im v_is_ v_q10 v_bk v_q12 v_qr v_pr v_cv v_ft v_t0 v_t1 v_t2 v_t3 v_t4 v_ta v_tb v_tc v_td v_te v_nwc x0 v_sh x1 x2 v_shc x3)) := hD
  rw [List.append_assoc] at hP hD
  refine lv_pop hx hb dL_law_428 rfl ?_
  refine lv_aload_n hx hb dL_law_429 rfl (lv_at hl 2 rfl) ?_
  refine lv_aload_n hx hb dL_law_430 rfl (lv_at hl 0 rfl) ?_
  refine lv_iload_n hx hb dL_law_431 rfl (lv_at hl 3 rfl) ?_
  refine lv_iconst (v := 1) hx hb dL_law_432 rfl ?_
  refine lv_iadd hx hb dL_law_433 ?_
  refine va_sld hx hb hX hbl hbA hS hi1 dL_law_434 ?_
  refine cVa (wc := (Wm_home cI cZ yh Rf G f0)) (wr := (wr ++ (Wx_home cI cZ xh v_x v_q1 v_q2 v_rd v_t v_d v_nw v_ps v_im v_is_ v_q10 v_bk v_q12 v_qr v_pr v_cv v_ft v_t0 v_t1 v_t2 v_t3 v_t4 v_ta v_tb v_tc v_td v_te v_nwc x0 v_sh x1 x2 v_shc x3))) (rest := []) (m_home Rf yh G f0 (xs ((iv + 1) : Int32).toNatClampNeg) hs) okV_X10_home wd_772 hx hb hml hown hts hK hP hD hS hA hN hl.1 rfl rfl rfl (Nat.le_of_ble_eq_true rfl) (Nat.le_of_ble_eq_true rfl) (Nat.le_of_ble_eq_true rfl) (Nat.le_of_ble_eq_true rfl) (Nat.le_of_ble_eq_true rfl) dL_law_435 (fun ry u2 H locs em hP hD hS => ?_)
  obtain ⟨y0, y1⟩ := u2
  replace em : (ry, y0, y1) = (f_m_home G f0 (xs ((iv + 1) : Int32).toNatClampNeg)) := em
  have hP : va_P D classes ((wr ++ (Wx_home cI cZ xh v_x v_q1 v_q2 v_rd v_t v_d v_nw v_ps v_im v_is_ v_q10 v_bk v_q12 v_qr v_pr v_cv v_ft v_t0 v_t1 v_t2 v_t3 v_t4 v_ta v_tb v_tc v_td v_te v_nwc x0 v_sh x1 x2 v_shc x3)) ++ (Wm_home cI cZ yh Rf y0 y1)) H := hP
  have hD : va_D (lw_A s) ((wr ++ (Wx_home cI cZ xh v_x v_q1 v_q2 v_rd v_t v_d v_nw v_ps v_im v_is_ v_q10 v_bk v_q12 v_qr v_pr v_cv v_ft v_t0 v_t1 v_t2 v_t3 v_t4 v_ta v_tb v_tc v_td v_te v_nwc x0 v_sh x1 x2 v_shc x3)) ++ (Wm_home cI cZ yh Rf y0 y1)) := hD
  refine lv_pop hx hb dL_law_438 rfl ?_
  refine lv_goto (tgt := 1015) hx hb dL_law_439 rfl ?_
  exact hnext rx x0 x1 x2 x3 ry y0 y1 _ _ _ ex em (permP rot hP) (permD rot hD) hS hl
def Wx_pass (cI cZ : ClassId) (xh : Nat) (v_x : Nat) (v_q1 : Int32) (v_q2 : Int32) (v_rd : Nat) (v_t : Nat) (v_d : Nat) (v_nw : Nat) (v_ps : Nat) (v_im : Nat) (v_is_ : Nat) (v_q10 : Int32) (v_bk : Nat) (v_q12 : Int32) (v_qr : Nat) (v_pr : Nat) (v_cv : Nat) (v_ft : Nat) (v_t0 : Int32) (v_t1 : Int32) (v_t2 : Int32) (v_t3 : Int32) (v_t4 : Int32) (v_ta : Nat) (v_tb : Nat) (v_tc : Nat) (v_td : Nat) (v_te : Nat) (v_fta : Nat → Int32) (v_ftc : Nat → Int32) (v_ftd : Nat → Int32) (v_fte : Nat → Int32) (v_nwc : Nat) (v_fn : Nat → Int32) (v_sh : Nat) (v_p1 : Int32) (v_p2 : Int32) (v_shc : Nat) (v_fsh : Nat → Int32) (v_k0 : Int32) (v_k1 : Int32) (v_k2 : Int32) (v_k3 : Int32) (v_k4 : Int32) : va_W := [(xh, .inr (9, [.ref v_x, .int v_q1, .int v_q2, .ref v_rd, .ref v_t, .ref v_d, .ref v_nw, .ref v_ps, .ref v_im, .ref v_is_, .int v_q10, .ref v_bk, .int v_q12, .ref v_qr, .ref v_pr, .ref v_cv, .ref v_ft])), (v_qr, .inr (4, [.int v_k0, .int v_k1, .int v_k2, .int v_k3, .int v_k4])), (v_t, .inr (8, [.int v_t0, .int v_t1, .int v_t2, .int v_t3, .int v_t4, .ref v_ta, .ref v_tb, .ref v_tc, .ref v_td, .ref v_te])), (v_ta, .inl (cI, 6, .inl v_fta)), (v_tc, .inl (cI, 30, .inl v_ftc)), (v_td, .inl (cI, 7, .inl v_ftd)), (v_te, .inl (cI, 7, .inl v_fte)), (v_nw, .inr (7, [.ref v_nwc])), (v_nwc, .inl (cI, 41, .inl v_fn)), (v_ps, .inr (2, [.ref v_sh, .int v_p1, .int v_p2])), (v_sh, .inr (6, [.int 20, .ref v_shc])), (v_shc, .inl (cI, 820, .inl v_fsh))]
def Wm_pass (cI cZ : ClassId) (yh : Nat) (Rf : Nat → Nat) (G : Nat → Int32) (f0 : Nat → Int32) (f8 : Nat → Int32) (f10 : Nat → Int32) (f11 : Nat → Int32) (f12 : Nat → Int32) : va_W := [(yh, .inr (10, ML G Rf)), ((Rf 0), .inl (cI, 1302, .inl f0)), ((Rf 10), .inl (cI, 30, .inl f10)), ((Rf 8), .inl (cI, 6, .inl f8)), ((Rf 11), .inl (cI, 7, .inl f11)), ((Rf 12), .inl (cI, 7, .inl f12))]
set_option maxHeartbeats 4000000 in
set_option maxRecDepth 100000 in
theorem law_pass {p : Program} {l : Launch} {e : Env} {s : State} {m : MethodId} {below : List Frame} {meth : Method} {c : Code} {D : va_G} {cI cZ : ClassId} {b : Nat} {xs : Nat → Int32} {L : Nat} (wr : va_W) (v_x : Nat) (v_q1 : Int32) (v_q2 : Int32) (v_rd : Nat) (v_t : Nat) (v_d : Nat) (v_nw : Nat) (v_ps : Nat) (v_im : Nat) (v_is_ : Nat) (v_q10 : Int32) (v_bk : Nat) (v_q12 : Int32) (v_qr : Nat) (v_pr : Nat) (v_cv : Nat) (v_ft : Nat) (v_t0 : Int32) (v_t1 : Int32) (v_t2 : Int32) (v_t3 : Int32) (v_t4 : Int32) (v_ta : Nat) (v_tb : Nat) (v_tc : Nat) (v_td : Nat) (v_te : Nat) (v_fta : Nat → Int32) (v_ftc : Nat → Int32) (v_ftd : Nat → Int32) (v_fte : Nat → Int32) (v_nwc : Nat) (v_fn : Nat → Int32) (v_sh : Nat) (v_p1 : Int32) (v_p2 : Int32) (v_shc : Nat) (v_fsh : Nat → Int32) (v_k0 : Int32) (v_k1 : Int32) (v_k2 : Int32) (v_k3 : Int32) (v_k4 : Int32) (Rf : Nat → Nat) (G : Nat → Int32) (f0 : Nat → Int32) (f8 : Nat → Int32) (f10 : Nat → Int32) (f11 : Nat → Int32) (f12 : Nat → Int32) {xh yh : Nat} {iv : Int32} (C0 : lw_C p s m meth c b L xs) {H : Heap} {locs : List Loc} {ls : Array Slot} (hi1 : ¬ ((iv + 1) < 0 ∨ L ≤ (iv + 1 : Int32).toNatClampNeg)) (hi2 : ¬ ((iv + 2) < 0 ∨ L ≤ (iv + 2 : Int32).toNatClampNeg)) (hi3 : ¬ ((iv + 3) < 0 ∨ L ≤ (iv + 3 : Int32).toNatClampNeg)) (hi4 : ¬ ((iv + 4) < 0 ∨ L ≤ (iv + 4 : Int32).toNatClampNeg)) (hK : va_K D classes (TYS cI cZ) s) (hs : S_m_pass G f0 f10 f8 f11 f12 (xs ((iv + 1) : Int32).toNatClampNeg)) (hP : va_P D classes ((Wx_pass cI cZ xh v_x v_q1 v_q2 v_rd v_t v_d v_nw v_ps v_im v_is_ v_q10 v_bk v_q12 v_qr v_pr v_cv v_ft v_t0 v_t1 v_t2 v_t3 v_t4 v_ta v_tb v_tc v_td v_te v_fta v_ftc v_ftd v_fte v_nwc v_fn v_sh v_p1 v_p2 v_shc v_fsh v_k0 v_k1 v_k2 v_k3 v_k4) ++ ((Wm_pass cI cZ yh Rf G f0 f8 f10 f11 f12) ++ wr)) H) (hD : va_D (lw_A s) ((Wx_pass cI cZ xh v_x v_q1 v_q2 v_rd v_t v_d v_nw v_ps v_im v_is_ v_q10 v_bk v_q12 v_qr v_pr v_cv v_ft v_t0 v_t1 v_t2 v_t3 v_t4 v_ta v_tb v_tc v_td v_te v_fta v_ftc v_ftd v_fte v_nwc v_fn v_sh v_p1 v_p2 v_shc v_fsh v_k0 v_k1 v_k2 v_k3 v_k4) ++ ((Wm_pass cI cZ yh Rf G f0 f8 f10 f11 f12) ++ wr))) (hS : va_S (lw_A s) s.heap H locs) (hl : lv_has ls 4 [(0, .ref b), (1, .ref xh), (2, .ref yh), (3, .int iv)]) (hnext : ∀ (rx : Int32) (x0 : Int32) (x1 : Int32) (x2 : Int32) (x3 : Int32) (x4 : Int32) (x5 : (Nat → Int32)) (x6 : Int32) (x7 : Int32) (x8 : (Nat → Int32)) (ry : Int32) (y0 : (Nat → Int32)) (y1 : (Nat → Int32)) (H : Heap) (locs : List Loc) (ls : Array Slot), (rx, x0, x1, x2, x3, x4, x5, x6, x7, x8) = (f_e_pass_x9 v_q1 v_q2 v_q10 v_q12 v_k0 v_k1 v_k2 v_k3 v_k4 v_t0 v_t1 v_t2 v_t3 v_t4 v_fta v_ftc v_ftd v_fte v_fn v_p1 v_p2 v_fsh (xs ((iv + 1) : Int32).toNatClampNeg)) → (ry, y0, y1) = (f_m_pass G f0 f10 f8 f11 f12 (xs ((iv + 1) : Int32).toNatClampNeg)) → va_P D classes ((Wx_pass cI cZ xh v_x v_q1 v_q2 v_rd v_t v_d v_nw v_ps v_im v_is_ v_q10 v_bk v_q12 v_qr v_pr v_cv v_ft v_t0 v_t1 v_t2 v_t3 v_t4 v_ta v_tb v_tc v_td v_te v_fta v_ftc v_ftd v_fte v_nwc x5 v_sh x6 x7 v_shc x8 x0 x1 x2 x3 x4) ++ ((Wm_pass cI cZ yh Rf y0 y1 f8 f10 f11 f12) ++ wr)) H → va_D (lw_A s) ((Wx_pass cI cZ xh v_x v_q1 v_q2 v_rd v_t v_d v_nw v_ps v_im v_is_ v_q10 v_bk v_q12 v_qr v_pr v_cv v_ft v_t0 v_t1 v_t2 v_t3 v_t4 v_ta v_tb v_tc v_td v_te v_fta v_ftc v_ftd v_fte v_nwc x5 v_sh x6 x7 v_shc x8 x0 x1 x2 x3 x4) ++ ((Wm_pass cI cZ yh Rf y0 y1 f8 f10 f11 f12) ++ wr)) → va_S (lw_A s) s.heap H locs → lv_has ls 4 [(0, .ref b), (1, .ref xh), (2, .ref yh), (3, .int iv)] → W p l e room_1 s m #[Value.ref b] below meth c H locs 60 4269 (lw_Z below #[Value.ref b] s) (F0 m 1015 ls [])) : W p l e room_1 s m #[Value.ref b] below meth c H locs 60 4269 (lw_Z below #[Value.ref b] s) (F0 m 442 ls []) := by
  obtain ⟨hx, hb, hr, hml, hown, hts, hX, hbl, hlocks, hN⟩ := C0
  have hA : ∀ q, s.heap.size ≤ q → lw_A s q := fun _ h => h
  have hbA : ¬ lw_A s b := Nat.not_le.mpr hbl
  refine lv_aload_n hx hb dL_law_442 rfl (lv_at hl 1 rfl) ?_
  refine lv_aload_n hx hb dL_law_443 rfl (lv_at hl 0 rfl) ?_
  refine lv_iload_n hx hb dL_law_444 rfl (lv_at hl 3 rfl) ?_
  refine lv_iconst (v := 1) hx hb dL_law_445 rfl ?_
  refine lv_iadd hx hb dL_law_446 ?_
  refine va_sld hx hb hX hbl hbA hS hi1 dL_law_447 ?_
  refine cVa (wc := (Wx_pass cI cZ xh v_x v_q1 v_q2 v_rd v_t v_d v_nw v_ps v_im v_is_ v_q10 v_bk v_q12 v_qr v_pr v_cv v_ft v_t0 v_t1 v_t2 v_t3 v_t4 v_ta v_tb v_tc v_td v_te v_fta v_ftc v_ftd v_fte v_nwc v_fn v_sh v_p1 v_p2 v_shc v_fsh v_k0 v_k1 v_k2 v_k3 v_k4)) (wr := ((Wm_pass cI cZ yh Rf G f0 f8 f10 f11 f12) ++ wr)) (rest := []) (e_pass_x9 xh v_x v_rd v_t v_d v_nw v_ps v_im v_is_ v_bk v_qr v_pr v_cv v_ft v_ta v_tb v_tc v_td v_te v_nwc v_sh v_shc v_q1 v_q2 v_q10 v_q12 v_k0 v_k1 v_k2 v_k3 v_k4 v_t0 v_t1 v_t2 v_t3 v_t4 v_fta v_ftc v_ftd v_fte v_fn v_p1 v_p2 v_fsh (xs ((iv + 1) : Int32).toNatClampNeg)) okV_X9_pass wd_776 hx hb hml hown hts hK hP hD hS hA hN hl.1 rfl rfl rfl (Nat.le_of_ble_eq_true rfl) (Nat.le_of_ble_eq_true rfl) (Nat.le_of_ble_eq_true rfl) (Nat.le_of_ble_eq_true rfl) (Nat.le_of_ble_eq_true rfl) dL_law_448 (fun rx u1 H locs ex hP hD hS => ?_)
  obtain ⟨x0, x1, x2, x3, x4, x5, x6, x7, x8⟩ := u1
  replace ex : (rx, x0, x1, x2, x3, x4, x5, x6, x7, x8) = (f_e_pass_x9 v_q1 v_q2 v_q10 v_q12 v_k0 v_k1 v_k2 v_k3 v_k4 v_t0 v_t1 v_t2 v_t3 v_t4 v_fta v_ftc v_ftd v_fte v_fn v_p1 v_p2 v_fsh (xs ((iv + 1) : Int32).toNatClampNeg)) := ex
  have hP : va_P D classes (((Wm_pass cI cZ yh Rf G f0 f8 f10 f11 f12) ++ wr) ++ (Wx_pass cI cZ xh v_x v_q1 v_q2 v_rd v_t v_d v_nw v_ps v_im v_is_ v_q10 v_bk v_q12 v_qr v_pr v_cv v_ft v_t0 v_t1 v_t2 v_t3 v_t4 v_ta v_tb v_tc v_td v_te v_fta v_ftc v_ftd v_fte v_nwc x5 v_sh x6 x7 v_shc x8 x0 x1 x2 x3 x4)) H := hP
  have hD : va_D (lw_A s) (((Wm_pass cI cZ yh Rf G f0 f8 f10 f11 f12) ++ wr) ++ (Wx_pass cI cZ xh v_x v_q1 v_q2 v_rd v_t v_d v_nw v_ps v_im v_is_ v_q10 v_bk v_q12 v_qr v_pr v_cv v_ft v_t0 v_t1 v_t2 v_t3 v_t4 v_ta v_tb v_tc v_td v_te v_fta v_ftc v_ftd v_fte v_nwc x5 v_sh x6 x7 v_shc x8 x0 x1 x2 x3 x4)) := hD
  rw [List.append_assoc] at hP hD
  refine lv_pop hx hb dL_law_451 rfl ?_
  refine lv_aload_n hx hb dL_law_452 rfl (lv_at hl 2 rfl) ?_
  refine lv_aload_n hx hb dL_law_453 rfl (lv_at hl 0 rfl) ?_
  refine lv_iload_n hx hb dL_law_454 rfl (lv_at hl 3 rfl) ?_
  refine lv_iconst (v := 1) hx hb dL_law_455 rfl ?_
  refine lv_iadd hx hb dL_law_456 ?_
  refine va_sld hx hb hX hbl hbA hS hi1 dL_law_457 ?_
  refine cVa (wc := (Wm_pass cI cZ yh Rf G f0 f8 f10 f11 f12)) (wr := (wr ++ (Wx_pass cI cZ xh v_x v_q1 v_q2 v_rd v_t v_d v_nw v_ps v_im v_is_ v_q10 v_bk v_q12 v_qr v_pr v_cv v_ft v_t0 v_t1 v_t2 v_t3 v_t4 v_ta v_tb v_tc v_td v_te v_fta v_ftc v_ftd v_fte v_nwc x5 v_sh x6 x7 v_shc x8 x0 x1 x2 x3 x4))) (rest := []) (m_pass Rf yh G f0 f10 f8 f11 f12 (xs ((iv + 1) : Int32).toNatClampNeg) hs) okV_X10_pass wd_780 hx hb hml hown hts hK hP hD hS hA hN hl.1 rfl rfl rfl (Nat.le_of_ble_eq_true rfl) (Nat.le_of_ble_eq_true rfl) (Nat.le_of_ble_eq_true rfl) (Nat.le_of_ble_eq_true rfl) (Nat.le_of_ble_eq_true rfl) dL_law_458 (fun ry u2 H locs em hP hD hS => ?_)
  obtain ⟨y0, y1⟩ := u2
  replace em : (ry, y0, y1) = (f_m_pass G f0 f10 f8 f11 f12 (xs ((iv + 1) : Int32).toNatClampNeg)) := em
  have hP : va_P D classes ((wr ++ (Wx_pass cI cZ xh v_x v_q1 v_q2 v_rd v_t v_d v_nw v_ps v_im v_is_ v_q10 v_bk v_q12 v_qr v_pr v_cv v_ft v_t0 v_t1 v_t2 v_t3 v_t4 v_ta v_tb v_tc v_td v_te v_fta v_ftc v_ftd v_fte v_nwc x5 v_sh x6 x7 v_shc x8 x0 x1 x2 x3 x4)) ++ (Wm_pass cI cZ yh Rf y0 y1 f8 f10 f11 f12)) H := hP
  have hD : va_D (lw_A s) ((wr ++ (Wx_pass cI cZ xh v_x v_q1 v_q2 v_rd v_t v_d v_nw v_ps v_im v_is_ v_q10 v_bk v_q12 v_qr v_pr v_cv v_ft v_t0 v_t1 v_t2 v_t3 v_t4 v_ta v_tb v_tc v_td v_te v_fta v_ftc v_ftd v_fte v_nwc x5 v_sh x6 x7 v_shc x8 x0 x1 x2 x3 x4)) ++ (Wm_pass cI cZ yh Rf y0 y1 f8 f10 f11 f12)) := hD
  refine lv_pop hx hb dL_law_461 rfl ?_
  refine lv_goto (tgt := 1015) hx hb dL_law_462 rfl ?_
  exact hnext rx x0 x1 x2 x3 x4 x5 x6 x7 x8 ry y0 y1 _ _ _ ex em (permP rot hP) (permD rot hD) hS hl
def Wx_grieve (cI cZ : ClassId) (xh : Nat) (v_x : Nat) (v_q1 : Int32) (v_q2 : Int32) (v_rd : Nat) (v_t : Nat) (v_d : Nat) (v_nw : Nat) (v_ps : Nat) (v_im : Nat) (v_is_ : Nat) (v_q10 : Int32) (v_bk : Nat) (v_q12 : Int32) (v_qr : Nat) (v_pr : Nat) (v_cv : Nat) (v_ft : Nat) (v_t0 : Int32) (v_t1 : Int32) (v_t2 : Int32) (v_t3 : Int32) (v_t4 : Int32) (v_ta : Nat) (v_tb : Nat) (v_tc : Nat) (v_td : Nat) (v_te : Nat) (v_nwc : Nat) (v_fn : Nat → Int32) (v_sh : Nat) (v_p1 : Int32) (v_p2 : Int32) (v_shc : Nat) (v_fsh : Nat → Int32) : va_W := [(xh, .inr (9, [.ref v_x, .int v_q1, .int v_q2, .ref v_rd, .ref v_t, .ref v_d, .ref v_nw, .ref v_ps, .ref v_im, .ref v_is_, .int v_q10, .ref v_bk, .int v_q12, .ref v_qr, .ref v_pr, .ref v_cv, .ref v_ft])), (v_t, .inr (8, [.int v_t0, .int v_t1, .int v_t2, .int v_t3, .int v_t4, .ref v_ta, .ref v_tb, .ref v_tc, .ref v_td, .ref v_te])), (v_nw, .inr (7, [.ref v_nwc])), (v_nwc, .inl (cI, 41, .inl v_fn)), (v_ps, .inr (2, [.ref v_sh, .int v_p1, .int v_p2])), (v_sh, .inr (6, [.int 20, .ref v_shc])), (v_shc, .inl (cI, 820, .inl v_fsh))]
def Wm_grieve (cI cZ : ClassId) (yh : Nat) (Rf : Nat → Nat) (G : Nat → Int32) (f0 : Nat → Int32) : va_W := [(yh, .inr (10, ML G Rf)), ((Rf 0), .inl (cI, 1302, .inl f0))]
set_option maxHeartbeats 4000000 in
set_option maxRecDepth 100000 in
theorem law_grieve {p : Program} {l : Launch} {e : Env} {s : State} {m : MethodId} {below : List Frame} {meth : Method} {c : Code} {D : va_G} {cI cZ : ClassId} {b : Nat} {xs : Nat → Int32} {L : Nat} (wr : va_W) (v_x : Nat) (v_q1 : Int32) (v_q2 : Int32) (v_rd : Nat) (v_t : Nat) (v_d : Nat) (v_nw : Nat) (v_ps : Nat) (v_im : Nat) (v_is_ : Nat) (v_q10 : Int32) (v_bk : Nat) (v_q12 : Int32) (v_qr : Nat) (v_pr : Nat) (v_cv : Nat) (v_ft : Nat) (v_t0 : Int32) (v_t1 : Int32) (v_t2 : Int32) (v_t3 : Int32) (v_t4 : Int32) (v_ta : Nat) (v_tb : Nat) (v_tc : Nat) (v_td : Nat) (v_te : Nat) (v_nwc : Nat) (v_fn : Nat → Int32) (v_sh : Nat) (v_p1 : Int32) (v_p2 : Int32) (v_shc : Nat) (v_fsh : Nat → Int32) (Rf : Nat → Nat) (G : Nat → Int32) (f0 : Nat → Int32) {xh yh : Nat} {iv : Int32} (C0 : lw_C p s m meth c b L xs) {H : Heap} {locs : List Loc} {ls : Array Slot} (hi1 : ¬ ((iv + 1) < 0 ∨ L ≤ (iv + 1 : Int32).toNatClampNeg)) (hi2 : ¬ ((iv + 2) < 0 ∨ L ≤ (iv + 2 : Int32).toNatClampNeg)) (hi3 : ¬ ((iv + 3) < 0 ∨ L ≤ (iv + 3 : Int32).toNatClampNeg)) (hi4 : ¬ ((iv + 4) < 0 ∨ L ≤ (iv + 4 : Int32).toNatClampNeg)) (hK : va_K D classes (TYS cI cZ) s) (hs : S_m_grieve G f0 (xs ((iv + 1) : Int32).toNatClampNeg) (xs ((iv + 2) : Int32).toNatClampNeg)) (hP : va_P D classes ((Wx_grieve cI cZ xh v_x v_q1 v_q2 v_rd v_t v_d v_nw v_ps v_im v_is_ v_q10 v_bk v_q12 v_qr v_pr v_cv v_ft v_t0 v_t1 v_t2 v_t3 v_t4 v_ta v_tb v_tc v_td v_te v_nwc v_fn v_sh v_p1 v_p2 v_shc v_fsh) ++ ((Wm_grieve cI cZ yh Rf G f0) ++ wr)) H) (hD : va_D (lw_A s) ((Wx_grieve cI cZ xh v_x v_q1 v_q2 v_rd v_t v_d v_nw v_ps v_im v_is_ v_q10 v_bk v_q12 v_qr v_pr v_cv v_ft v_t0 v_t1 v_t2 v_t3 v_t4 v_ta v_tb v_tc v_td v_te v_nwc v_fn v_sh v_p1 v_p2 v_shc v_fsh) ++ ((Wm_grieve cI cZ yh Rf G f0) ++ wr))) (hS : va_S (lw_A s) s.heap H locs) (hl : lv_has ls 4 [(0, .ref b), (1, .ref xh), (2, .ref yh), (3, .int iv)]) (hnext : ∀ (rx : Int32) (x0 : (Nat → Int32)) (x1 : Int32) (x2 : Int32) (x3 : (Nat → Int32)) (ry : Int32) (y0 : (Nat → Int32)) (y1 : (Nat → Int32)) (H : Heap) (locs : List Loc) (ls : Array Slot), (rx, x0, x1, x2, x3) = (f_e_grieve_x9 v_q1 v_q2 v_q10 v_q12 v_t0 v_t1 v_t2 v_t3 v_t4 v_fn v_p1 v_p2 v_fsh (xs ((iv + 1) : Int32).toNatClampNeg) (xs ((iv + 2) : Int32).toNatClampNeg)) → (ry, y0, y1) = (f_m_grieve G f0 (xs ((iv + 1) : Int32).toNatClampNeg) (xs ((iv + 2) : Int32).toNatClampNeg)) → va_P D classes ((Wx_grieve cI cZ xh v_x v_q1 v_q2 v_rd v_t v_d v_nw v_ps v_im v_is_ v_q10 v_bk v_q12 v_qr v_pr v_cv v_ft v_t0 v_t1 v_t2 v_t3 v_t4 v_ta v_tb v_tc v_td v_te v_nwc x0 v_sh x1 x2 v_shc x3) ++ ((Wm_grieve cI cZ yh Rf y0 y1) ++ wr)) H → va_D (lw_A s) ((Wx_grieve cI cZ xh v_x v_q1 v_q2 v_rd v_t v_d v_nw v_ps v_im v_is_ v_q10 v_bk v_q12 v_qr v_pr v_cv v_ft v_t0 v_t1 v_t2 v_t3 v_t4 v_ta v_tb v_tc v_td v_te v_nwc x0 v_sh x1 x2 v_shc x3) ++ ((Wm_grieve cI cZ yh Rf y0 y1) ++ wr)) → va_S (lw_A s) s.heap H locs → lv_has ls 4 [(0, .ref b), (1, .ref xh), (2, .ref yh), (3, .int iv)] → W p l e room_1 s m #[Value.ref b] below meth c H locs 60 4269 (lw_Z below #[Value.ref b] s) (F0 m 1015 ls [])) : W p l e room_1 s m #[Value.ref b] below meth c H locs 60 4269 (lw_Z below #[Value.ref b] s) (F0 m 465 ls []) := by
  obtain ⟨hx, hb, hr, hml, hown, hts, hX, hbl, hlocks, hN⟩ := C0
  have hA : ∀ q, s.heap.size ≤ q → lw_A s q := fun _ h => h
  have hbA : ¬ lw_A s b := Nat.not_le.mpr hbl
  refine lv_aload_n hx hb dL_law_465 rfl (lv_at hl 1 rfl) ?_
  refine lv_aload_n hx hb dL_law_466 rfl (lv_at hl 0 rfl) ?_
  refine lv_iload_n hx hb dL_law_467 rfl (lv_at hl 3 rfl) ?_
  refine lv_iconst (v := 1) hx hb dL_law_468 rfl ?_
  refine lv_iadd hx hb dL_law_469 ?_
  refine va_sld hx hb hX hbl hbA hS hi1 dL_law_470 ?_
  refine lv_aload_n hx hb dL_law_471 rfl (lv_at hl 0 rfl) ?_
  refine lv_iload_n hx hb dL_law_472 rfl (lv_at hl 3 rfl) ?_
  refine lv_iconst (v := 2) hx hb dL_law_473 rfl ?_
  refine lv_iadd hx hb dL_law_474 ?_
  refine va_sld hx hb hX hbl hbA hS hi2 dL_law_475 ?_
  refine cVa (wc := (Wx_grieve cI cZ xh v_x v_q1 v_q2 v_rd v_t v_d v_nw v_ps v_im v_is_ v_q10 v_bk v_q12 v_qr v_pr v_cv v_ft v_t0 v_t1 v_t2 v_t3 v_t4 v_ta v_tb v_tc v_td v_te v_nwc v_fn v_sh v_p1 v_p2 v_shc v_fsh)) (wr := ((Wm_grieve cI cZ yh Rf G f0) ++ wr)) (rest := []) (e_grieve_x9 xh v_x v_rd v_t v_d v_nw v_ps v_im v_is_ v_bk v_qr v_pr v_cv v_ft v_ta v_tb v_tc v_td v_te v_nwc v_sh v_shc v_q1 v_q2 v_q10 v_q12 v_t0 v_t1 v_t2 v_t3 v_t4 v_fn v_p1 v_p2 v_fsh (xs ((iv + 1) : Int32).toNatClampNeg) (xs ((iv + 2) : Int32).toNatClampNeg)) okV_X9_grieve wd_784 hx hb hml hown hts hK hP hD hS hA hN hl.1 rfl rfl rfl (Nat.le_of_ble_eq_true rfl) (Nat.le_of_ble_eq_true rfl) (Nat.le_of_ble_eq_true rfl) (Nat.le_of_ble_eq_true rfl) (Nat.le_of_ble_eq_true rfl) dL_law_476 (fun rx u1 H locs ex hP hD hS => ?_)
  obtain ⟨x0, x1, x2, x3⟩ := u1
  replace ex : (rx, x0, x1, x2, x3) = (f_e_grieve_x9 v_q1 v_q2 v_q10 v_q12 v_t0 v_t1 v_t2 v_t3 v_t4 v_fn v_p1 v_p2 v_fsh (xs ((iv + 1) : Int32).toNatClampNeg) (xs ((iv + 2) : Int32).toNatClampNeg)) := ex
  have hP : va_P D classes (((Wm_grieve cI cZ yh Rf G f0) ++ wr) ++ (Wx_grieve cI cZ xh v_x v_q1 v_q2 v_rd v_t v_d v_nw v_ps v_im v_is_ v_q10 v_bk v_q12 v_qr v_pr v_cv v_ft v_t0 v_t1 v_t2 v_t3 v_t4 v_ta v_tb v_tc v_td v_te v_nwc x0 v_sh x1 x2 v_shc x3)) H := hP
  have hD : va_D (lw_A s) (((Wm_grieve cI cZ yh Rf G f0) ++ wr) ++ (Wx_grieve cI cZ xh v_x v_q1 v_q2 v_rd v_t v_d v_nw v_ps v_im v_is_ v_q10 v_bk v_q12 v_qr v_pr v_cv v_ft v_t0 v_t1 v_t2 v_t3 v_t4 v_ta v_tb v_tc v_td v_te v_nwc x0 v_sh x1 x2 v_shc x3)) := hD
  rw [List.append_assoc] at hP hD
  refine lv_pop hx hb dL_law_479 rfl ?_
  refine lv_aload_n hx hb dL_law_480 rfl (lv_at hl 2 rfl) ?_
  refine lv_aload_n hx hb dL_law_481 rfl (lv_at hl 0 rfl) ?_
  refine lv_iload_n hx hb dL_law_482 rfl (lv_at hl 3 rfl) ?_
  refine lv_iconst (v := 1) hx hb dL_law_483 rfl ?_
  refine lv_iadd hx hb dL_law_484 ?_
  refine va_sld hx hb hX hbl hbA hS hi1 dL_law_485 ?_
  refine lv_aload_n hx hb dL_law_486 rfl (lv_at hl 0 rfl) ?_
  refine lv_iload_n hx hb dL_law_487 rfl (lv_at hl 3 rfl) ?_
  refine lv_iconst (v := 2) hx hb dL_law_488 rfl ?_
  refine lv_iadd hx hb dL_law_489 ?_
  refine va_sld hx hb hX hbl hbA hS hi2 dL_law_490 ?_
  refine cVa (wc := (Wm_grieve cI cZ yh Rf G f0)) (wr := (wr ++ (Wx_grieve cI cZ xh v_x v_q1 v_q2 v_rd v_t v_d v_nw v_ps v_im v_is_ v_q10 v_bk v_q12 v_qr v_pr v_cv v_ft v_t0 v_t1 v_t2 v_t3 v_t4 v_ta v_tb v_tc v_td v_te v_nwc x0 v_sh x1 x2 v_shc x3))) (rest := []) (m_grieve Rf yh G f0 (xs ((iv + 1) : Int32).toNatClampNeg) (xs ((iv + 2) : Int32).toNatClampNeg) hs) okV_X10_grieve wd_788 hx hb hml hown hts hK hP hD hS hA hN hl.1 rfl rfl rfl (Nat.le_of_ble_eq_true rfl) (Nat.le_of_ble_eq_true rfl) (Nat.le_of_ble_eq_true rfl) (Nat.le_of_ble_eq_true rfl) (Nat.le_of_ble_eq_true rfl) dL_law_491 (fun ry u2 H locs em hP hD hS => ?_)
  obtain ⟨y0, y1⟩ := u2
  replace em : (ry, y0, y1) = (f_m_grieve G f0 (xs ((iv + 1) : Int32).toNatClampNeg) (xs ((iv + 2) : Int32).toNatClampNeg)) := em
  have hP : va_P D classes ((wr ++ (Wx_grieve cI cZ xh v_x v_q1 v_q2 v_rd v_t v_d v_nw v_ps v_im v_is_ v_q10 v_bk v_q12 v_qr v_pr v_cv v_ft v_t0 v_t1 v_t2 v_t3 v_t4 v_ta v_tb v_tc v_td v_te v_nwc x0 v_sh x1 x2 v_shc x3)) ++ (Wm_grieve cI cZ yh Rf y0 y1)) H := hP
  have hD : va_D (lw_A s) ((wr ++ (Wx_grieve cI cZ xh v_x v_q1 v_q2 v_rd v_t v_d v_nw v_ps v_im v_is_ v_q10 v_bk v_q12 v_qr v_pr v_cv v_ft v_t0 v_t1 v_t2 v_t3 v_t4 v_ta v_tb v_tc v_td v_te v_nwc x0 v_sh x1 x2 v_shc x3)) ++ (Wm_grieve cI cZ yh Rf y0 y1)) := hD
  refine lv_pop hx hb dL_law_494 rfl ?_
  refine lv_goto (tgt := 1015) hx hb dL_law_495 rfl ?_
  exact hnext rx x0 x1 x2 x3 ry y0 y1 _ _ _ ex em (permP rot hP) (permD rot hD) hS hl
def Wx_drift (cI cZ : ClassId) (xh : Nat) (v_x : Nat) (v_q1 : Int32) (v_q2 : Int32) (v_rd : Nat) (v_t : Nat) (v_d : Nat) (v_nw : Nat) (v_ps : Nat) (v_im : Nat) (v_is_ : Nat) (v_q10 : Int32) (v_bk : Nat) (v_q12 : Int32) (v_qr : Nat) (v_pr : Nat) (v_cv : Nat) (v_ft : Nat) (v_t0 : Int32) (v_t1 : Int32) (v_t2 : Int32) (v_t3 : Int32) (v_t4 : Int32) (v_ta : Nat) (v_tb : Nat) (v_tc : Nat) (v_td : Nat) (v_te : Nat) (v_nwc : Nat) (v_fn : Nat → Int32) (v_sh : Nat) (v_p1 : Int32) (v_p2 : Int32) (v_shc : Nat) (v_fsh : Nat → Int32) : va_W := [(xh, .inr (9, [.ref v_x, .int v_q1, .int v_q2, .ref v_rd, .ref v_t, .ref v_d, .ref v_nw, .ref v_ps, .ref v_im, .ref v_is_, .int v_q10, .ref v_bk, .int v_q12, .ref v_qr, .ref v_pr, .ref v_cv, .ref v_ft])), (v_t, .inr (8, [.int v_t0, .int v_t1, .int v_t2, .int v_t3, .int v_t4, .ref v_ta, .ref v_tb, .ref v_tc, .ref v_td, .ref v_te])), (v_nw, .inr (7, [.ref v_nwc])), (v_nwc, .inl (cI, 41, .inl v_fn)), (v_ps, .inr (2, [.ref v_sh, .int v_p1, .int v_p2])), (v_sh, .inr (6, [.int 20, .ref v_shc])), (v_shc, .inl (cI, 820, .inl v_fsh))]
def Wm_drift (cI cZ : ClassId) (yh : Nat) (Rf : Nat → Nat) (G : Nat → Int32) (f0 : Nat → Int32) : va_W := [(yh, .inr (10, ML G Rf)), ((Rf 0), .inl (cI, 1302, .inl f0))]
set_option maxHeartbeats 4000000 in
set_option maxRecDepth 100000 in
theorem law_drift {p : Program} {l : Launch} {e : Env} {s : State} {m : MethodId} {below : List Frame} {meth : Method} {c : Code} {D : va_G} {cI cZ : ClassId} {b : Nat} {xs : Nat → Int32} {L : Nat} (wr : va_W) (v_x : Nat) (v_q1 : Int32) (v_q2 : Int32) (v_rd : Nat) (v_t : Nat) (v_d : Nat) (v_nw : Nat) (v_ps : Nat) (v_im : Nat) (v_is_ : Nat) (v_q10 : Int32) (v_bk : Nat) (v_q12 : Int32) (v_qr : Nat) (v_pr : Nat) (v_cv : Nat) (v_ft : Nat) (v_t0 : Int32) (v_t1 : Int32) (v_t2 : Int32) (v_t3 : Int32) (v_t4 : Int32) (v_ta : Nat) (v_tb : Nat) (v_tc : Nat) (v_td : Nat) (v_te : Nat) (v_nwc : Nat) (v_fn : Nat → Int32) (v_sh : Nat) (v_p1 : Int32) (v_p2 : Int32) (v_shc : Nat) (v_fsh : Nat → Int32) (Rf : Nat → Nat) (G : Nat → Int32) (f0 : Nat → Int32) {xh yh : Nat} {iv : Int32} (C0 : lw_C p s m meth c b L xs) {H : Heap} {locs : List Loc} {ls : Array Slot} (hi1 : ¬ ((iv + 1) < 0 ∨ L ≤ (iv + 1 : Int32).toNatClampNeg)) (hi2 : ¬ ((iv + 2) < 0 ∨ L ≤ (iv + 2 : Int32).toNatClampNeg)) (hi3 : ¬ ((iv + 3) < 0 ∨ L ≤ (iv + 3 : Int32).toNatClampNeg)) (hi4 : ¬ ((iv + 4) < 0 ∨ L ≤ (iv + 4 : Int32).toNatClampNeg)) (hK : va_K D classes (TYS cI cZ) s) (hs : S_m_drift G f0 (xs ((iv + 1) : Int32).toNatClampNeg)) (hP : va_P D classes ((Wx_drift cI cZ xh v_x v_q1 v_q2 v_rd v_t v_d v_nw v_ps v_im v_is_ v_q10 v_bk v_q12 v_qr v_pr v_cv v_ft v_t0 v_t1 v_t2 v_t3 v_t4 v_ta v_tb v_tc v_td v_te v_nwc v_fn v_sh v_p1 v_p2 v_shc v_fsh) ++ ((Wm_drift cI cZ yh Rf G f0) ++ wr)) H) (hD : va_D (lw_A s) ((Wx_drift cI cZ xh v_x v_q1 v_q2 v_rd v_t v_d v_nw v_ps v_im v_is_ v_q10 v_bk v_q12 v_qr v_pr v_cv v_ft v_t0 v_t1 v_t2 v_t3 v_t4 v_ta v_tb v_tc v_td v_te v_nwc v_fn v_sh v_p1 v_p2 v_shc v_fsh) ++ ((Wm_drift cI cZ yh Rf G f0) ++ wr))) (hS : va_S (lw_A s) s.heap H locs) (hl : lv_has ls 4 [(0, .ref b), (1, .ref xh), (2, .ref yh), (3, .int iv)]) (hnext : ∀ (rx : Int32) (x0 : Int32) (x1 : (Nat → Int32)) (x2 : Int32) (x3 : Int32) (x4 : (Nat → Int32)) (ry : Int32) (y0 : (Nat → Int32)) (y1 : (Nat → Int32)) (H : Heap) (locs : List Loc) (ls : Array Slot), (rx, x0, x1, x2, x3, x4) = (f_e_drift_x9 v_q1 v_q2 v_q10 v_q12 v_t0 v_t1 v_t2 v_t3 v_t4 v_fn v_p1 v_p2 v_fsh (xs ((iv + 1) : Int32).toNatClampNeg)) → (ry, y0, y1) = (f_m_drift G f0 (xs ((iv + 1) : Int32).toNatClampNeg)) → va_P D classes ((Wx_drift cI cZ xh v_x v_q1 v_q2 v_rd v_t v_d v_nw v_ps v_im v_is_ v_q10 v_bk x0 v_qr v_pr v_cv v_ft v_t0 v_t1 v_t2 v_t3 v_t4 v_ta v_tb v_tc v_td v_te v_nwc x1 v_sh x2 x3 v_shc x4) ++ ((Wm_drift cI cZ yh Rf y0 y1) ++ wr)) H → va_D (lw_A s) ((Wx_drift cI cZ xh v_x v_q1 v_q2 v_rd v_t v_d v_nw v_ps v_im v_is_ v_q10 v_bk x0 v_qr v_pr v_cv v_ft v_t0 v_t1 v_t2 v_t3 v_t4 v_ta v_tb v_tc v_td v_te v_nwc x1 v_sh x2 x3 v_shc x4) ++ ((Wm_drift cI cZ yh Rf y0 y1) ++ wr)) → va_S (lw_A s) s.heap H locs → lv_has ls 4 [(0, .ref b), (1, .ref xh), (2, .ref yh), (3, .int iv)] → W p l e room_1 s m #[Value.ref b] below meth c H locs 60 4269 (lw_Z below #[Value.ref b] s) (F0 m 1015 ls [])) : W p l e room_1 s m #[Value.ref b] below meth c H locs 60 4269 (lw_Z below #[Value.ref b] s) (F0 m 498 ls []) := by
  obtain ⟨hx, hb, hr, hml, hown, hts, hX, hbl, hlocks, hN⟩ := C0
  have hA : ∀ q, s.heap.size ≤ q → lw_A s q := fun _ h => h
  have hbA : ¬ lw_A s b := Nat.not_le.mpr hbl
  refine lv_aload_n hx hb dL_law_498 rfl (lv_at hl 1 rfl) ?_
  refine lv_aload_n hx hb dL_law_499 rfl (lv_at hl 0 rfl) ?_
  refine lv_iload_n hx hb dL_law_500 rfl (lv_at hl 3 rfl) ?_
  refine lv_iconst (v := 1) hx hb dL_law_501 rfl ?_
  refine lv_iadd hx hb dL_law_502 ?_
  refine va_sld hx hb hX hbl hbA hS hi1 dL_law_503 ?_
  refine cVa (wc := (Wx_drift cI cZ xh v_x v_q1 v_q2 v_rd v_t v_d v_nw v_ps v_im v_is_ v_q10 v_bk v_q12 v_qr v_pr v_cv v_ft v_t0 v_t1 v_t2 v_t3 v_t4 v_ta v_tb v_tc v_td v_te v_nwc v_fn v_sh v_p1 v_p2 v_shc v_fsh)) (wr := ((Wm_drift cI cZ yh Rf G f0) ++ wr)) (rest := []) (e_drift_x9 xh v_x v_rd v_t v_d v_nw v_ps v_im v_is_ v_bk v_qr v_pr v_cv v_ft v_ta v_tb v_tc v_td v_te v_nwc v_sh v_shc v_q1 v_q2 v_q10 v_q12 v_t0 v_t1 v_t2 v_t3 v_t4 v_fn v_p1 v_p2 v_fsh (xs ((iv + 1) : Int32).toNatClampNeg)) okV_X9_drift wd_792 hx hb hml hown hts hK hP hD hS hA hN hl.1 rfl rfl rfl (Nat.le_of_ble_eq_true rfl) (Nat.le_of_ble_eq_true rfl) (Nat.le_of_ble_eq_true rfl) (Nat.le_of_ble_eq_true rfl) (Nat.le_of_ble_eq_true rfl) dL_law_504 (fun rx u1 H locs ex hP hD hS => ?_)
  obtain ⟨x0, x1, x2, x3, x4⟩ := u1
  replace ex : (rx, x0, x1, x2, x3, x4) = (f_e_drift_x9 v_q1 v_q2 v_q10 v_q12 v_t0 v_t1 v_t2 v_t3 v_t4 v_fn v_p1 v_p2 v_fsh (xs ((iv + 1) : Int32).toNatClampNeg)) := ex
  have hP : va_P D classes (((Wm_drift cI cZ yh Rf G f0) ++ wr) ++ (Wx_drift cI cZ xh v_x v_q1 v_q2 v_rd v_t v_d v_nw v_ps v_im v_is_ v_q10 v_bk x0 v_qr v_pr v_cv v_ft v_t0 v_t1 v_t2 v_t3 v_t4 v_ta v_tb v_tc v_td v_te v_nwc x1 v_sh x2 x3 v_shc x4)) H := hP
  have hD : va_D (lw_A s) (((Wm_drift cI cZ yh Rf G f0) ++ wr) ++ (Wx_drift cI cZ xh v_x v_q1 v_q2 v_rd v_t v_d v_nw v_ps v_im v_is_ v_q10 v_bk x0 v_qr v_pr v_cv v_ft v_t0 v_t1 v_t2 v_t3 v_t4 v_ta v_tb v_tc v_td v_te v_nwc x1 v_sh x2 x3 v_shc x4)) := hD
  rw [List.append_assoc] at hP hD
  refine lv_pop hx hb dL_law_507 rfl ?_
  refine lv_aload_n hx hb dL_law_508 rfl (lv_at hl 2 rfl) ?_
  refine lv_aload_n hx hb dL_law_509 rfl (lv_at hl 0 rfl) ?_
  refine lv_iload_n hx hb dL_law_510 rfl (lv_at hl 3 rfl) ?_
  refine lv_iconst (v := 1) hx hb dL_law_511 rfl ?_
  refine lv_iadd hx hb dL_law_512 ?_
  refine va_sld hx hb hX hbl hbA hS hi1 dL_law_513 ?_
  refine cVa (wc := (Wm_drift cI cZ yh Rf G f0)) (wr := (wr ++ (Wx_drift cI cZ xh v_x v_q1 v_q2 v_rd v_t v_d v_nw v_ps v_im v_is_ v_q10 v_bk x0 v_qr v_pr v_cv v_ft v_t0 v_t1 v_t2 v_t3 v_t4 v_ta v_tb v_tc v_td v_te v_nwc x1 v_sh x2 x3 v_shc x4))) (rest := []) (m_drift Rf yh G f0 (xs ((iv + 1) : Int32).toNatClampNeg) hs) okV_X10_drift wd_796 hx hb hml hown hts hK hP hD hS hA hN hl.1 rfl rfl rfl (Nat.le_of_ble_eq_true rfl) (Nat.le_of_ble_eq_true rfl) (Nat.le_of_ble_eq_true rfl) (Nat.le_of_ble_eq_true rfl) (Nat.le_of_ble_eq_true rfl) dL_law_514 (fun ry u2 H locs em hP hD hS => ?_)
  obtain ⟨y0, y1⟩ := u2
  replace em : (ry, y0, y1) = (f_m_drift G f0 (xs ((iv + 1) : Int32).toNatClampNeg)) := em
  have hP : va_P D classes ((wr ++ (Wx_drift cI cZ xh v_x v_q1 v_q2 v_rd v_t v_d v_nw v_ps v_im v_is_ v_q10 v_bk x0 v_qr v_pr v_cv v_ft v_t0 v_t1 v_t2 v_t3 v_t4 v_ta v_tb v_tc v_td v_te v_nwc x1 v_sh x2 x3 v_shc x4)) ++ (Wm_drift cI cZ yh Rf y0 y1)) H := hP
  have hD : va_D (lw_A s) ((wr ++ (Wx_drift cI cZ xh v_x v_q1 v_q2 v_rd v_t v_d v_nw v_ps v_im v_is_ v_q10 v_bk x0 v_qr v_pr v_cv v_ft v_t0 v_t1 v_t2 v_t3 v_t4 v_ta v_tb v_tc v_td v_te v_nwc x1 v_sh x2 x3 v_shc x4)) ++ (Wm_drift cI cZ yh Rf y0 y1)) := hD
  refine lv_pop hx hb dL_law_517 rfl ?_
  refine lv_goto (tgt := 1015) hx hb dL_law_518 rfl ?_
  exact hnext rx x0 x1 x2 x3 x4 ry y0 y1 _ _ _ ex em (permP rot hP) (permD rot hD) hS hl
def Wx_undo (cI cZ : ClassId) (xh : Nat) (v_x : Nat) (v_q1 : Int32) (v_q2 : Int32) (v_rd : Nat) (v_t : Nat) (v_d : Nat) (v_nw : Nat) (v_ps : Nat) (v_im : Nat) (v_is_ : Nat) (v_q10 : Int32) (v_bk : Nat) (v_q12 : Int32) (v_qr : Nat) (v_pr : Nat) (v_cv : Nat) (v_ft : Nat) (v_nwc : Nat) (v_fn : Nat → Int32) (v_sh : Nat) (v_p1 : Int32) (v_p2 : Int32) (v_shc : Nat) (v_fsh : Nat → Int32) : va_W := [(xh, .inr (9, [.ref v_x, .int v_q1, .int v_q2, .ref v_rd, .ref v_t, .ref v_d, .ref v_nw, .ref v_ps, .ref v_im, .ref v_is_, .int v_q10, .ref v_bk, .int v_q12, .ref v_qr, .ref v_pr, .ref v_cv, .ref v_ft])), (v_ps, .inr (2, [.ref v_sh, .int v_p1, .int v_p2])), (v_sh, .inr (6, [.int 20, .ref v_shc])), (v_shc, .inl (cI, 820, .inl v_fsh)), (v_nw, .inr (7, [.ref v_nwc])), (v_nwc, .inl (cI, 41, .inl v_fn))]
def Wm_undo (cI cZ : ClassId) (yh : Nat) (Rf : Nat → Nat) (G : Nat → Int32) (f0 : Nat → Int32) : va_W := [(yh, .inr (10, ML G Rf)), ((Rf 0), .inl (cI, 1302, .inl f0))]
set_option maxHeartbeats 4000000 in
set_option maxRecDepth 100000 in
theorem law_undo {p : Program} {l : Launch} {e : Env} {s : State} {m : MethodId} {below : List Frame} {meth : Method} {c : Code} {D : va_G} {cI cZ : ClassId} {b : Nat} {xs : Nat → Int32} {L : Nat} (wr : va_W) (v_x : Nat) (v_q1 : Int32) (v_q2 : Int32) (v_rd : Nat) (v_t : Nat) (v_d : Nat) (v_nw : Nat) (v_ps : Nat) (v_im : Nat) (v_is_ : Nat) (v_q10 : Int32) (v_bk : Nat) (v_q12 : Int32) (v_qr : Nat) (v_pr : Nat) (v_cv : Nat) (v_ft : Nat) (v_nwc : Nat) (v_fn : Nat → Int32) (v_sh : Nat) (v_p1 : Int32) (v_p2 : Int32) (v_shc : Nat) (v_fsh : Nat → Int32) (Rf : Nat → Nat) (G : Nat → Int32) (f0 : Nat → Int32) {xh yh : Nat} {iv : Int32} (C0 : lw_C p s m meth c b L xs) {H : Heap} {locs : List Loc} {ls : Array Slot} (hi1 : ¬ ((iv + 1) < 0 ∨ L ≤ (iv + 1 : Int32).toNatClampNeg)) (hi2 : ¬ ((iv + 2) < 0 ∨ L ≤ (iv + 2 : Int32).toNatClampNeg)) (hi3 : ¬ ((iv + 3) < 0 ∨ L ≤ (iv + 3 : Int32).toNatClampNeg)) (hi4 : ¬ ((iv + 4) < 0 ∨ L ≤ (iv + 4 : Int32).toNatClampNeg)) (hK : va_K D classes (TYS cI cZ) s) (hs : S_m_undo G f0) (hP : va_P D classes ((Wx_undo cI cZ xh v_x v_q1 v_q2 v_rd v_t v_d v_nw v_ps v_im v_is_ v_q10 v_bk v_q12 v_qr v_pr v_cv v_ft v_nwc v_fn v_sh v_p1 v_p2 v_shc v_fsh) ++ ((Wm_undo cI cZ yh Rf G f0) ++ wr)) H) (hD : va_D (lw_A s) ((Wx_undo cI cZ xh v_x v_q1 v_q2 v_rd v_t v_d v_nw v_ps v_im v_is_ v_q10 v_bk v_q12 v_qr v_pr v_cv v_ft v_nwc v_fn v_sh v_p1 v_p2 v_shc v_fsh) ++ ((Wm_undo cI cZ yh Rf G f0) ++ wr))) (hS : va_S (lw_A s) s.heap H locs) (hl : lv_has ls 4 [(0, .ref b), (1, .ref xh), (2, .ref yh), (3, .int iv)]) (hnext : ∀ (rx : Int32) (x0 : Int32) (x1 : (Nat → Int32)) (ry : Int32) (y0 : (Nat → Int32)) (y1 : (Nat → Int32)) (H : Heap) (locs : List Loc) (ls : Array Slot), (rx, x0, x1) = (f_e_undo_x9 v_q1 v_q2 v_q10 v_q12 v_p1 v_p2 v_fsh v_fn) → (ry, y0, y1) = (f_m_undo G f0) → va_P D classes ((Wx_undo cI cZ xh v_x v_q1 v_q2 v_rd v_t v_d v_nw v_ps v_im v_is_ v_q10 v_bk v_q12 v_qr v_pr v_cv v_ft v_nwc x1 v_sh v_p1 x0 v_shc v_fsh) ++ ((Wm_undo cI cZ yh Rf y0 y1) ++ wr)) H → va_D (lw_A s) ((Wx_undo cI cZ xh v_x v_q1 v_q2 v_rd v_t v_d v_nw v_ps v_im v_is_ v_q10 v_bk v_q12 v_qr v_pr v_cv v_ft v_nwc x1 v_sh v_p1 x0 v_shc v_fsh) ++ ((Wm_undo cI cZ yh Rf y0 y1) ++ wr)) → va_S (lw_A s) s.heap H locs → lv_has ls 4 [(0, .ref b), (1, .ref xh), (2, .ref yh), (3, .int iv)] → W p l e room_1 s m #[Value.ref b] below meth c H locs 60 4269 (lw_Z below #[Value.ref b] s) (F0 m 1015 ls [])) : W p l e room_1 s m #[Value.ref b] below meth c H locs 60 4269 (lw_Z below #[Value.ref b] s) (F0 m 521 ls []) := by
  obtain ⟨hx, hb, hr, hml, hown, hts, hX, hbl, hlocks, hN⟩ := C0
  have hA : ∀ q, s.heap.size ≤ q → lw_A s q := fun _ h => h
  have hbA : ¬ lw_A s b := Nat.not_le.mpr hbl
  refine lv_aload_n hx hb dL_law_521 rfl (lv_at hl 1 rfl) ?_
  refine cVa (wc := (Wx_undo cI cZ xh v_x v_q1 v_q2 v_rd v_t v_d v_nw v_ps v_im v_is_ v_q10 v_bk v_q12 v_qr v_pr v_cv v_ft v_nwc v_fn v_sh v_p1 v_p2 v_shc v_fsh)) (wr := ((Wm_undo cI cZ yh Rf G f0) ++ wr)) (rest := []) (e_undo_x9 xh v_x v_rd v_t v_d v_nw v_ps v_im v_is_ v_bk v_qr v_pr v_cv v_ft v_sh v_shc v_nwc v_q1 v_q2 v_q10 v_q12 v_p1 v_p2 v_fsh v_fn) okV_X9_undo wd_800 hx hb hml hown hts hK hP hD hS hA hN hl.1 rfl rfl rfl (Nat.le_of_ble_eq_true rfl) (Nat.le_of_ble_eq_true rfl) (Nat.le_of_ble_eq_true rfl) (Nat.le_of_ble_eq_true rfl) (Nat.le_of_ble_eq_true rfl) dL_law_522 (fun rx u1 H locs ex hP hD hS => ?_)
  obtain ⟨x0, x1⟩ := u1
  replace ex : (rx, x0, x1) = (f_e_undo_x9 v_q1 v_q2 v_q10 v_q12 v_p1 v_p2 v_fsh v_fn) := ex
  have hP : va_P D classes (((Wm_undo cI cZ yh Rf G f0) ++ wr) ++ (Wx_undo cI cZ xh v_x v_q1 v_q2 v_rd v_t v_d v_nw v_ps v_im v_is_ v_q10 v_bk v_q12 v_qr v_pr v_cv v_ft v_nwc x1 v_sh v_p1 x0 v_shc v_fsh)) H := hP
  have hD : va_D (lw_A s) (((Wm_undo cI cZ yh Rf G f0) ++ wr) ++ (Wx_undo cI cZ xh v_x v_q1 v_q2 v_rd v_t v_d v_nw v_ps v_im v_is_ v_q10 v_bk v_q12 v_qr v_pr v_cv v_ft v_nwc x1 v_sh v_p1 x0 v_shc v_fsh)) := hD
  rw [List.append_assoc] at hP hD
  refine lv_pop hx hb dL_law_525 rfl ?_
  refine lv_aload_n hx hb dL_law_526 rfl (lv_at hl 2 rfl) ?_
  refine cVa (wc := (Wm_undo cI cZ yh Rf G f0)) (wr := (wr ++ (Wx_undo cI cZ xh v_x v_q1 v_q2 v_rd v_t v_d v_nw v_ps v_im v_is_ v_q10 v_bk v_q12 v_qr v_pr v_cv v_ft v_nwc x1 v_sh v_p1 x0 v_shc v_fsh))) (rest := []) (m_undo Rf yh G f0 hs) okV_X10_undo wd_804 hx hb hml hown hts hK hP hD hS hA hN hl.1 rfl rfl rfl (Nat.le_of_ble_eq_true rfl) (Nat.le_of_ble_eq_true rfl) (Nat.le_of_ble_eq_true rfl) (Nat.le_of_ble_eq_true rfl) (Nat.le_of_ble_eq_true rfl) dL_law_527 (fun ry u2 H locs em hP hD hS => ?_)
  obtain ⟨y0, y1⟩ := u2
  replace em : (ry, y0, y1) = (f_m_undo G f0) := em
  have hP : va_P D classes ((wr ++ (Wx_undo cI cZ xh v_x v_q1 v_q2 v_rd v_t v_d v_nw v_ps v_im v_is_ v_q10 v_bk v_q12 v_qr v_pr v_cv v_ft v_nwc x1 v_sh v_p1 x0 v_shc v_fsh)) ++ (Wm_undo cI cZ yh Rf y0 y1)) H := hP
  have hD : va_D (lw_A s) ((wr ++ (Wx_undo cI cZ xh v_x v_q1 v_q2 v_rd v_t v_d v_nw v_ps v_im v_is_ v_q10 v_bk v_q12 v_qr v_pr v_cv v_ft v_nwc x1 v_sh v_p1 x0 v_shc v_fsh)) ++ (Wm_undo cI cZ yh Rf y0 y1)) := hD
  refine lv_pop hx hb dL_law_530 rfl ?_
  refine lv_goto (tgt := 1015) hx hb dL_law_531 rfl ?_
  exact hnext rx x0 x1 ry y0 y1 _ _ _ ex em (permP rot hP) (permD rot hD) hS hl
def Wx_could (cI cZ : ClassId) (xh : Nat) (v_x : Nat) (v_q1 : Int32) (v_q2 : Int32) (v_rd : Nat) (v_t : Nat) (v_d : Nat) (v_nw : Nat) (v_ps : Nat) (v_im : Nat) (v_is_ : Nat) (v_q10 : Int32) (v_bk : Nat) (v_q12 : Int32) (v_qr : Nat) (v_pr : Nat) (v_cv : Nat) (v_ft : Nat) (v_t0 : Int32) (v_t1 : Int32) (v_t2 : Int32) (v_t3 : Int32) (v_t4 : Int32) (v_ta : Nat) (v_tb : Nat) (v_tc : Nat) (v_td : Nat) (v_te : Nat) (v_fta : Nat → Int32) (v_ftc : Nat → Int32) (v_nwc : Nat) (v_fn : Nat → Int32) (v_k0 : Int32) (v_k1 : Int32) (v_k2 : Int32) (v_k3 : Int32) (v_k4 : Int32) : va_W := [(xh, .inr (9, [.ref v_x, .int v_q1, .int v_q2, .ref v_rd, .ref v_t, .ref v_d, .ref v_nw, .ref v_ps, .ref v_im, .ref v_is_, .int v_q10, .ref v_bk, .int v_q12, .ref v_qr, .ref v_pr, .ref v_cv, .ref v_ft])), (v_qr, .inr (4, [.int v_k0, .int v_k1, .int v_k2, .int v_k3, .int v_k4])), (v_t, .inr (8, [.int v_t0, .int v_t1, .int v_t2, .int v_t3, .int v_t4, .ref v_ta, .ref v_tb, .ref v_tc, .ref v_td, .ref v_te])), (v_ta, .inl (cI, 6, .inl v_fta)), (v_tc, .inl (cI, 30, .inl v_ftc)), (v_nw, .inr (7, [.ref v_nwc])), (v_nwc, .inl (cI, 41, .inl v_fn))]
def Wm_could (cI cZ : ClassId) (yh : Nat) (Rf : Nat → Nat) (G : Nat → Int32) (f0 : Nat → Int32) (f8 : Nat → Int32) (f10 : Nat → Int32) : va_W := [(yh, .inr (10, ML G Rf)), ((Rf 0), .inl (cI, 1302, .inl f0)), ((Rf 10), .inl (cI, 30, .inl f10)), ((Rf 8), .inl (cI, 6, .inl f8))]
set_option maxHeartbeats 4000000 in
set_option maxRecDepth 100000 in
theorem law_could {p : Program} {l : Launch} {e : Env} {s : State} {m : MethodId} {below : List Frame} {meth : Method} {c : Code} {D : va_G} {cI cZ : ClassId} {b : Nat} {xs : Nat → Int32} {L : Nat} (wr : va_W) (v_x : Nat) (v_q1 : Int32) (v_q2 : Int32) (v_rd : Nat) (v_t : Nat) (v_d : Nat) (v_nw : Nat) (v_ps : Nat) (v_im : Nat) (v_is_ : Nat) (v_q10 : Int32) (v_bk : Nat) (v_q12 : Int32) (v_qr : Nat) (v_pr : Nat) (v_cv : Nat) (v_ft : Nat) (v_t0 : Int32) (v_t1 : Int32) (v_t2 : Int32) (v_t3 : Int32) (v_t4 : Int32) (v_ta : Nat) (v_tb : Nat) (v_tc : Nat) (v_td : Nat) (v_te : Nat) (v_fta : Nat → Int32) (v_ftc : Nat → Int32) (v_nwc : Nat) (v_fn : Nat → Int32) (v_k0 : Int32) (v_k1 : Int32) (v_k2 : Int32) (v_k3 : Int32) (v_k4 : Int32) (Rf : Nat → Nat) (G : Nat → Int32) (f0 : Nat → Int32) (f8 : Nat → Int32) (f10 : Nat → Int32) {xh yh : Nat} {iv : Int32} (C0 : lw_C p s m meth c b L xs) {H : Heap} {locs : List Loc} {ls : Array Slot} (hi1 : ¬ ((iv + 1) < 0 ∨ L ≤ (iv + 1 : Int32).toNatClampNeg)) (hi2 : ¬ ((iv + 2) < 0 ∨ L ≤ (iv + 2 : Int32).toNatClampNeg)) (hi3 : ¬ ((iv + 3) < 0 ∨ L ≤ (iv + 3 : Int32).toNatClampNeg)) (hi4 : ¬ ((iv + 4) < 0 ∨ L ≤ (iv + 4 : Int32).toNatClampNeg)) (hK : va_K D classes (TYS cI cZ) s) (hs : S_m_could G f0 f10 f8 (xs ((iv + 1) : Int32).toNatClampNeg) (xs ((iv + 2) : Int32).toNatClampNeg) (xs ((iv + 3) : Int32).toNatClampNeg) (xs ((iv + 4) : Int32).toNatClampNeg)) (hP : va_P D classes ((Wx_could cI cZ xh v_x v_q1 v_q2 v_rd v_t v_d v_nw v_ps v_im v_is_ v_q10 v_bk v_q12 v_qr v_pr v_cv v_ft v_t0 v_t1 v_t2 v_t3 v_t4 v_ta v_tb v_tc v_td v_te v_fta v_ftc v_nwc v_fn v_k0 v_k1 v_k2 v_k3 v_k4) ++ ((Wm_could cI cZ yh Rf G f0 f8 f10) ++ wr)) H) (hD : va_D (lw_A s) ((Wx_could cI cZ xh v_x v_q1 v_q2 v_rd v_t v_d v_nw v_ps v_im v_is_ v_q10 v_bk v_q12 v_qr v_pr v_cv v_ft v_t0 v_t1 v_t2 v_t3 v_t4 v_ta v_tb v_tc v_td v_te v_fta v_ftc v_nwc v_fn v_k0 v_k1 v_k2 v_k3 v_k4) ++ ((Wm_could cI cZ yh Rf G f0 f8 f10) ++ wr))) (hS : va_S (lw_A s) s.heap H locs) (hl : lv_has ls 4 [(0, .ref b), (1, .ref xh), (2, .ref yh), (3, .int iv)]) (hnext : ∀ (rx : Int32) (x0 : Int32) (x1 : Int32) (x2 : Int32) (x3 : Int32) (x4 : Int32) (ry : Int32) (y0 : (Nat → Int32)) (H : Heap) (locs : List Loc) (ls : Array Slot), (rx, x0, x1, x2, x3, x4) = (f_e_could_x9 v_q1 v_q2 v_q10 v_q12 v_k0 v_k1 v_k2 v_k3 v_k4 v_t0 v_t1 v_t2 v_t3 v_t4 v_fta v_ftc v_fn (xs ((iv + 1) : Int32).toNatClampNeg) (xs ((iv + 2) : Int32).toNatClampNeg) (xs ((iv + 3) : Int32).toNatClampNeg) (xs ((iv + 4) : Int32).toNatClampNeg)) → (ry, y0) = (f_m_could G f0 f10 f8 (xs ((iv + 1) : Int32).toNatClampNeg) (xs ((iv + 2) : Int32).toNatClampNeg) (xs ((iv + 3) : Int32).toNatClampNeg) (xs ((iv + 4) : Int32).toNatClampNeg)) → va_P D classes ((Wx_could cI cZ xh v_x v_q1 v_q2 v_rd v_t v_d v_nw v_ps v_im v_is_ v_q10 v_bk v_q12 v_qr v_pr v_cv v_ft v_t0 v_t1 v_t2 v_t3 v_t4 v_ta v_tb v_tc v_td v_te v_fta v_ftc v_nwc v_fn x0 x1 x2 x3 x4) ++ ((Wm_could cI cZ yh Rf y0 f0 f8 f10) ++ wr)) H → va_D (lw_A s) ((Wx_could cI cZ xh v_x v_q1 v_q2 v_rd v_t v_d v_nw v_ps v_im v_is_ v_q10 v_bk v_q12 v_qr v_pr v_cv v_ft v_t0 v_t1 v_t2 v_t3 v_t4 v_ta v_tb v_tc v_td v_te v_fta v_ftc v_nwc v_fn x0 x1 x2 x3 x4) ++ ((Wm_could cI cZ yh Rf y0 f0 f8 f10) ++ wr)) → va_S (lw_A s) s.heap H locs → lv_has ls 4 [(0, .ref b), (1, .ref xh), (2, .ref yh), (3, .int iv)] → W p l e room_1 s m #[Value.ref b] below meth c H locs 60 4269 (lw_Z below #[Value.ref b] s) (F0 m 1015 ls [])) : W p l e room_1 s m #[Value.ref b] below meth c H locs 60 4269 (lw_Z below #[Value.ref b] s) (F0 m 534 ls []) := by
  obtain ⟨hx, hb, hr, hml, hown, hts, hX, hbl, hlocks, hN⟩ := C0
  have hA : ∀ q, s.heap.size ≤ q → lw_A s q := fun _ h => h
  have hbA : ¬ lw_A s b := Nat.not_le.mpr hbl
  refine lv_aload_n hx hb dL_law_534 rfl (lv_at hl 1 rfl) ?_
  refine lv_aload_n hx hb dL_law_535 rfl (lv_at hl 0 rfl) ?_
  refine lv_iload_n hx hb dL_law_536 rfl (lv_at hl 3 rfl) ?_
  refine lv_iconst (v := 1) hx hb dL_law_537 rfl ?_
  refine lv_iadd hx hb dL_law_538 ?_
  refine va_sld hx hb hX hbl hbA hS hi1 dL_law_539 ?_
  refine lv_aload_n hx hb dL_law_540 rfl (lv_at hl 0 rfl) ?_
  refine lv_iload_n hx hb dL_law_541 rfl (lv_at hl 3 rfl) ?_
  refine lv_iconst (v := 2) hx hb dL_law_542 rfl ?_
  refine lv_iadd hx hb dL_law_543 ?_
  refine va_sld hx hb hX hbl hbA hS hi2 dL_law_544 ?_
  refine lv_aload_n hx hb dL_law_545 rfl (lv_at hl 0 rfl) ?_
  refine lv_iload_n hx hb dL_law_546 rfl (lv_at hl 3 rfl) ?_
  refine lv_iconst (v := 3) hx hb dL_law_547 rfl ?_
  refine lv_iadd hx hb dL_law_548 ?_
  refine va_sld hx hb hX hbl hbA hS hi3 dL_law_549 ?_
  refine lv_aload_n hx hb dL_law_550 rfl (lv_at hl 0 rfl) ?_
  refine lv_iload_n hx hb dL_law_551 rfl (lv_at hl 3 rfl) ?_
  refine lv_iconst (v := 4) hx hb dL_law_552 rfl ?_
  refine lv_iadd hx hb dL_law_553 ?_
  refine va_sld hx hb hX hbl hbA hS hi4 dL_law_554 ?_
  refine cVa (wc := (Wx_could cI cZ xh v_x v_q1 v_q2 v_rd v_t v_d v_nw v_ps v_im v_is_ v_q10 v_bk v_q12 v_qr v_pr v_cv v_ft v_t0 v_t1 v_t2 v_t3 v_t4 v_ta v_tb v_tc v_td v_te v_fta v_ftc v_nwc v_fn v_k0 v_k1 v_k2 v_k3 v_k4)) (wr := ((Wm_could cI cZ yh Rf G f0 f8 f10) ++ wr)) (rest := []) (e_could_x9 xh v_x v_rd v_t v_d v_nw v_ps v_im v_is_ v_bk v_qr v_pr v_cv v_ft v_ta v_tb v_tc v_td v_te v_nwc v_q1 v_q2 v_q10 v_q12 v_k0 v_k1 v_k2 v_k3 v_k4 v_t0 v_t1 v_t2 v_t3 v_t4 v_fta v_ftc v_fn (xs ((iv + 1) : Int32).toNatClampNeg) (xs ((iv + 2) : Int32).toNatClampNeg) (xs ((iv + 3) : Int32).toNatClampNeg) (xs ((iv + 4) : Int32).toNatClampNeg)) okV_X9_could wd_808 hx hb hml hown hts hK hP hD hS hA hN hl.1 rfl rfl rfl (Nat.le_of_ble_eq_true rfl) (Nat.le_of_ble_eq_true rfl) (Nat.le_of_ble_eq_true rfl) (Nat.le_of_ble_eq_true rfl) (Nat.le_of_ble_eq_true rfl) dL_law_555 (fun rx u1 H locs ex hP hD hS => ?_)
  obtain ⟨x0, x1, x2, x3, x4⟩ := u1
  replace ex : (rx, x0, x1, x2, x3, x4) = (f_e_could_x9 v_q1 v_q2 v_q10 v_q12 v_k0 v_k1 v_k2 v_k3 v_k4 v_t0 v_t1 v_t2 v_t3 v_t4 v_fta v_ftc v_fn (xs ((iv + 1) : Int32).toNatClampNeg) (xs ((iv + 2) : Int32).toNatClampNeg) (xs ((iv + 3) : Int32).toNatClampNeg) (xs ((iv + 4) : Int32).toNatClampNeg)) := ex
  have hP : va_P D classes (((Wm_could cI cZ yh Rf G f0 f8 f10) ++ wr) ++ (Wx_could cI cZ xh v_x v_q1 v_q2 v_rd v_t v_d v_nw v_ps v_im v_is_ v_q10 v_bk v_q12 v_qr v_pr v_cv v_ft v_t0 v_t1 v_t2 v_t3 v_t4 v_ta v_tb v_tc v_td v_te v_fta v_ftc v_nwc v_fn x0 x1 x2 x3 x4)) H := hP
  have hD : va_D (lw_A s) (((Wm_could cI cZ yh Rf G f0 f8 f10) ++ wr) ++ (Wx_could cI cZ xh v_x v_q1 v_q2 v_rd v_t v_d v_nw v_ps v_im v_is_ v_q10 v_bk v_q12 v_qr v_pr v_cv v_ft v_t0 v_t1 v_t2 v_t3 v_t4 v_ta v_tb v_tc v_td v_te v_fta v_ftc v_nwc v_fn x0 x1 x2 x3 x4)) := hD
  rw [List.append_assoc] at hP hD
  refine lv_pop hx hb dL_law_558 rfl ?_
  refine lv_aload_n hx hb dL_law_559 rfl (lv_at hl 2 rfl) ?_
  refine lv_aload_n hx hb dL_law_560 rfl (lv_at hl 0 rfl) ?_
  refine lv_iload_n hx hb dL_law_561 rfl (lv_at hl 3 rfl) ?_
  refine lv_iconst (v := 1) hx hb dL_law_562 rfl ?_
  refine lv_iadd hx hb dL_law_563 ?_
  refine va_sld hx hb hX hbl hbA hS hi1 dL_law_564 ?_
  refine lv_aload_n hx hb dL_law_565 rfl (lv_at hl 0 rfl) ?_
  refine lv_iload_n hx hb dL_law_566 rfl (lv_at hl 3 rfl) ?_
  refine lv_iconst (v := 2) hx hb dL_law_567 rfl ?_
  refine lv_iadd hx hb dL_law_568 ?_
  refine va_sld hx hb hX hbl hbA hS hi2 dL_law_569 ?_
  refine lv_aload_n hx hb dL_law_570 rfl (lv_at hl 0 rfl) ?_
  refine lv_iload_n hx hb dL_law_571 rfl (lv_at hl 3 rfl) ?_
  refine lv_iconst (v := 3) hx hb dL_law_572 rfl ?_
  refine lv_iadd hx hb dL_law_573 ?_
  refine va_sld hx hb hX hbl hbA hS hi3 dL_law_574 ?_
  refine lv_aload_n hx hb dL_law_575 rfl (lv_at hl 0 rfl) ?_
  refine lv_iload_n hx hb dL_law_576 rfl (lv_at hl 3 rfl) ?_
  refine lv_iconst (v := 4) hx hb dL_law_577 rfl ?_
  refine lv_iadd hx hb dL_law_578 ?_
  refine va_sld hx hb hX hbl hbA hS hi4 dL_law_579 ?_
  refine cVa (wc := (Wm_could cI cZ yh Rf G f0 f8 f10)) (wr := (wr ++ (Wx_could cI cZ xh v_x v_q1 v_q2 v_rd v_t v_d v_nw v_ps v_im v_is_ v_q10 v_bk v_q12 v_qr v_pr v_cv v_ft v_t0 v_t1 v_t2 v_t3 v_t4 v_ta v_tb v_tc v_td v_te v_fta v_ftc v_nwc v_fn x0 x1 x2 x3 x4))) (rest := []) (m_could Rf yh G f0 f10 f8 (xs ((iv + 1) : Int32).toNatClampNeg) (xs ((iv + 2) : Int32).toNatClampNeg) (xs ((iv + 3) : Int32).toNatClampNeg) (xs ((iv + 4) : Int32).toNatClampNeg) hs) okV_X10_could wd_812 hx hb hml hown hts hK hP hD hS hA hN hl.1 rfl rfl rfl (Nat.le_of_ble_eq_true rfl) (Nat.le_of_ble_eq_true rfl) (Nat.le_of_ble_eq_true rfl) (Nat.le_of_ble_eq_true rfl) (Nat.le_of_ble_eq_true rfl) dL_law_580 (fun ry u2 H locs em hP hD hS => ?_)
  obtain ⟨y0, hy0⟩ : ∃ q, q = u2 := ⟨_, rfl⟩
  subst hy0
  replace em : (ry, y0) = (f_m_could G f0 f10 f8 (xs ((iv + 1) : Int32).toNatClampNeg) (xs ((iv + 2) : Int32).toNatClampNeg) (xs ((iv + 3) : Int32).toNatClampNeg) (xs ((iv + 4) : Int32).toNatClampNeg)) := em
  have hP : va_P D classes ((wr ++ (Wx_could cI cZ xh v_x v_q1 v_q2 v_rd v_t v_d v_nw v_ps v_im v_is_ v_q10 v_bk v_q12 v_qr v_pr v_cv v_ft v_t0 v_t1 v_t2 v_t3 v_t4 v_ta v_tb v_tc v_td v_te v_fta v_ftc v_nwc v_fn x0 x1 x2 x3 x4)) ++ (Wm_could cI cZ yh Rf y0 f0 f8 f10)) H := hP
  have hD : va_D (lw_A s) ((wr ++ (Wx_could cI cZ xh v_x v_q1 v_q2 v_rd v_t v_d v_nw v_ps v_im v_is_ v_q10 v_bk v_q12 v_qr v_pr v_cv v_ft v_t0 v_t1 v_t2 v_t3 v_t4 v_ta v_tb v_tc v_td v_te v_fta v_ftc v_nwc v_fn x0 x1 x2 x3 x4)) ++ (Wm_could cI cZ yh Rf y0 f0 f8 f10)) := hD
  refine lv_pop hx hb dL_law_583 rfl ?_
  refine lv_goto (tgt := 1015) hx hb dL_law_584 rfl ?_
  exact hnext rx x0 x1 x2 x3 x4 ry y0 _ _ _ ex em (permP rot hP) (permD rot hD) hS hl
def Wx_bestTheme (cI cZ : ClassId) (xh : Nat) (v_x : Nat) (v_q1 : Int32) (v_q2 : Int32) (v_rd : Nat) (v_t : Nat) (v_d : Nat) (v_nw : Nat) (v_ps : Nat) (v_im : Nat) (v_is_ : Nat) (v_q10 : Int32) (v_bk : Nat) (v_q12 : Int32) (v_qr : Nat) (v_pr : Nat) (v_cv : Nat) (v_ft : Nat) (v_t0 : Int32) (v_t1 : Int32) (v_t2 : Int32) (v_t3 : Int32) (v_t4 : Int32) (v_ta : Nat) (v_tb : Nat) (v_tc : Nat) (v_td : Nat) (v_te : Nat) (v_fta : Nat → Int32) (v_ftc : Nat → Int32) (v_nwc : Nat) (v_fn : Nat → Int32) (v_k0 : Int32) (v_k1 : Int32) (v_k2 : Int32) (v_k3 : Int32) (v_k4 : Int32) : va_W := [(xh, .inr (9, [.ref v_x, .int v_q1, .int v_q2, .ref v_rd, .ref v_t, .ref v_d, .ref v_nw, .ref v_ps, .ref v_im, .ref v_is_, .int v_q10, .ref v_bk, .int v_q12, .ref v_qr, .ref v_pr, .ref v_cv, .ref v_ft])), (v_qr, .inr (4, [.int v_k0, .int v_k1, .int v_k2, .int v_k3, .int v_k4])), (v_t, .inr (8, [.int v_t0, .int v_t1, .int v_t2, .int v_t3, .int v_t4, .ref v_ta, .ref v_tb, .ref v_tc, .ref v_td, .ref v_te])), (v_ta, .inl (cI, 6, .inl v_fta)), (v_tc, .inl (cI, 30, .inl v_ftc)), (v_nw, .inr (7, [.ref v_nwc])), (v_nwc, .inl (cI, 41, .inl v_fn))]
def Wm_bestTheme (cI cZ : ClassId) (yh : Nat) (Rf : Nat → Nat) (G : Nat → Int32) (f0 : Nat → Int32) (f8 : Nat → Int32) (f10 : Nat → Int32) : va_W := [(yh, .inr (10, ML G Rf)), ((Rf 0), .inl (cI, 1302, .inl f0)), ((Rf 10), .inl (cI, 30, .inl f10)), ((Rf 8), .inl (cI, 6, .inl f8))]
set_option maxHeartbeats 4000000 in
set_option maxRecDepth 100000 in
theorem law_bestTheme {p : Program} {l : Launch} {e : Env} {s : State} {m : MethodId} {below : List Frame} {meth : Method} {c : Code} {D : va_G} {cI cZ : ClassId} {b : Nat} {xs : Nat → Int32} {L : Nat} (wr : va_W) (v_x : Nat) (v_q1 : Int32) (v_q2 : Int32) (v_rd : Nat) (v_t : Nat) (v_d : Nat) (v_nw : Nat) (v_ps : Nat) (v_im : Nat) (v_is_ : Nat) (v_q10 : Int32) (v_bk : Nat) (v_q12 : Int32) (v_qr : Nat) (v_pr : Nat) (v_cv : Nat) (v_ft : Nat) (v_t0 : Int32) (v_t1 : Int32) (v_t2 : Int32) (v_t3 : Int32) (v_t4 : Int32) (v_ta : Nat) (v_tb : Nat) (v_tc : Nat) (v_td : Nat) (v_te : Nat) (v_fta : Nat → Int32) (v_ftc : Nat → Int32) (v_nwc : Nat) (v_fn : Nat → Int32) (v_k0 : Int32) (v_k1 : Int32) (v_k2 : Int32) (v_k3 : Int32) (v_k4 : Int32) (Rf : Nat → Nat) (G : Nat → Int32) (f0 : Nat → Int32) (f8 : Nat → Int32) (f10 : Nat → Int32) {xh yh : Nat} {iv : Int32} (C0 : lw_C p s m meth c b L xs) {H : Heap} {locs : List Loc} {ls : Array Slot} (hi1 : ¬ ((iv + 1) < 0 ∨ L ≤ (iv + 1 : Int32).toNatClampNeg)) (hi2 : ¬ ((iv + 2) < 0 ∨ L ≤ (iv + 2 : Int32).toNatClampNeg)) (hi3 : ¬ ((iv + 3) < 0 ∨ L ≤ (iv + 3 : Int32).toNatClampNeg)) (hi4 : ¬ ((iv + 4) < 0 ∨ L ≤ (iv + 4 : Int32).toNatClampNeg)) (hK : va_K D classes (TYS cI cZ) s) (hs : S_m_bestTheme G f0 f10 f8 (xs ((iv + 1) : Int32).toNatClampNeg) (xs ((iv + 2) : Int32).toNatClampNeg)) (hP : va_P D classes ((Wx_bestTheme cI cZ xh v_x v_q1 v_q2 v_rd v_t v_d v_nw v_ps v_im v_is_ v_q10 v_bk v_q12 v_qr v_pr v_cv v_ft v_t0 v_t1 v_t2 v_t3 v_t4 v_ta v_tb v_tc v_td v_te v_fta v_ftc v_nwc v_fn v_k0 v_k1 v_k2 v_k3 v_k4) ++ ((Wm_bestTheme cI cZ yh Rf G f0 f8 f10) ++ wr)) H) (hD : va_D (lw_A s) ((Wx_bestTheme cI cZ xh v_x v_q1 v_q2 v_rd v_t v_d v_nw v_ps v_im v_is_ v_q10 v_bk v_q12 v_qr v_pr v_cv v_ft v_t0 v_t1 v_t2 v_t3 v_t4 v_ta v_tb v_tc v_td v_te v_fta v_ftc v_nwc v_fn v_k0 v_k1 v_k2 v_k3 v_k4) ++ ((Wm_bestTheme cI cZ yh Rf G f0 f8 f10) ++ wr))) (hS : va_S (lw_A s) s.heap H locs) (hl : lv_has ls 4 [(0, .ref b), (1, .ref xh), (2, .ref yh), (3, .int iv)]) (hnext : ∀ (rx : Int32) (x0 : Int32) (x1 : Int32) (x2 : Int32) (x3 : Int32) (x4 : Int32) (ry : Int32) (y0 : (Nat → Int32)) (H : Heap) (locs : List Loc) (ls : Array Slot), (rx, x0, x1, x2, x3, x4) = (f_e_bestTheme_x9 v_q1 v_q2 v_q10 v_q12 v_k0 v_k1 v_k2 v_k3 v_k4 v_t0 v_t1 v_t2 v_t3 v_t4 v_fta v_ftc v_fn (xs ((iv + 1) : Int32).toNatClampNeg) (xs ((iv + 2) : Int32).toNatClampNeg)) → (ry, y0) = (f_m_bestTheme G f0 f10 f8 (xs ((iv + 1) : Int32).toNatClampNeg) (xs ((iv + 2) : Int32).toNatClampNeg)) → va_P D classes ((Wx_bestTheme cI cZ xh v_x v_q1 v_q2 v_rd v_t v_d v_nw v_ps v_im v_is_ v_q10 v_bk v_q12 v_qr v_pr v_cv v_ft v_t0 v_t1 v_t2 v_t3 v_t4 v_ta v_tb v_tc v_td v_te v_fta v_ftc v_nwc v_fn x0 x1 x2 x3 x4) ++ ((Wm_bestTheme cI cZ yh Rf y0 f0 f8 f10) ++ wr)) H → va_D (lw_A s) ((Wx_bestTheme cI cZ xh v_x v_q1 v_q2 v_rd v_t v_d v_nw v_ps v_im v_is_ v_q10 v_bk v_q12 v_qr v_pr v_cv v_ft v_t0 v_t1 v_t2 v_t3 v_t4 v_ta v_tb v_tc v_td v_te v_fta v_ftc v_nwc v_fn x0 x1 x2 x3 x4) ++ ((Wm_bestTheme cI cZ yh Rf y0 f0 f8 f10) ++ wr)) → va_S (lw_A s) s.heap H locs → lv_has ls 4 [(0, .ref b), (1, .ref xh), (2, .ref yh), (3, .int iv)] → W p l e room_1 s m #[Value.ref b] below meth c H locs 60 4269 (lw_Z below #[Value.ref b] s) (F0 m 1015 ls [])) : W p l e room_1 s m #[Value.ref b] below meth c H locs 60 4269 (lw_Z below #[Value.ref b] s) (F0 m 587 ls []) := by
  obtain ⟨hx, hb, hr, hml, hown, hts, hX, hbl, hlocks, hN⟩ := C0
  have hA : ∀ q, s.heap.size ≤ q → lw_A s q := fun _ h => h
  have hbA : ¬ lw_A s b := Nat.not_le.mpr hbl
  refine lv_aload_n hx hb dL_law_587 rfl (lv_at hl 1 rfl) ?_
  refine lv_aload_n hx hb dL_law_588 rfl (lv_at hl 0 rfl) ?_
  refine lv_iload_n hx hb dL_law_589 rfl (lv_at hl 3 rfl) ?_
  refine lv_iconst (v := 1) hx hb dL_law_590 rfl ?_
  refine lv_iadd hx hb dL_law_591 ?_
  refine va_sld hx hb hX hbl hbA hS hi1 dL_law_592 ?_
  refine lv_aload_n hx hb dL_law_593 rfl (lv_at hl 0 rfl) ?_
  refine lv_iload_n hx hb dL_law_594 rfl (lv_at hl 3 rfl) ?_
  refine lv_iconst (v := 2) hx hb dL_law_595 rfl ?_
  refine lv_iadd hx hb dL_law_596 ?_
  refine va_sld hx hb hX hbl hbA hS hi2 dL_law_597 ?_
  refine cVa (wc := (Wx_bestTheme cI cZ xh v_x v_q1 v_q2 v_rd v_t v_d v_nw v_ps v_im v_is_ v_q10 v_bk v_q12 v_qr v_pr v_cv v_ft v_t0 v_t1 v_t2 v_t3 v_t4 v_ta v_tb v_tc v_td v_te v_fta v_ftc v_nwc v_fn v_k0 v_k1 v_k2 v_k3 v_k4)) (wr := ((Wm_bestTheme cI cZ yh Rf G f0 f8 f10) ++ wr)) (rest := []) (e_bestTheme_x9 xh v_x v_rd v_t v_d v_nw v_ps v_im v_is_ v_bk v_qr v_pr v_cv v_ft v_ta v_tb v_tc v_td v_te v_nwc v_q1 v_q2 v_q10 v_q12 v_k0 v_k1 v_k2 v_k3 v_k4 v_t0 v_t1 v_t2 v_t3 v_t4 v_fta v_ftc v_fn (xs ((iv + 1) : Int32).toNatClampNeg) (xs ((iv + 2) : Int32).toNatClampNeg)) okV_X9_bestTheme wd_816 hx hb hml hown hts hK hP hD hS hA hN hl.1 rfl rfl rfl (Nat.le_of_ble_eq_true rfl) (Nat.le_of_ble_eq_true rfl) (Nat.le_of_ble_eq_true rfl) (Nat.le_of_ble_eq_true rfl) (Nat.le_of_ble_eq_true rfl) dL_law_598 (fun rx u1 H locs ex hP hD hS => ?_)
  obtain ⟨x0, x1, x2, x3, x4⟩ := u1
  replace ex : (rx, x0, x1, x2, x3, x4) = (f_e_bestTheme_x9 v_q1 v_q2 v_q10 v_q12 v_k0 v_k1 v_k2 v_k3 v_k4 v_t0 v_t1 v_t2 v_t3 v_t4 v_fta v_ftc v_fn (xs ((iv + 1) : Int32).toNatClampNeg) (xs ((iv + 2) : Int32).toNatClampNeg)) := ex
  have hP : va_P D classes (((Wm_bestTheme cI cZ yh Rf G f0 f8 f10) ++ wr) ++ (Wx_bestTheme cI cZ xh v_x v_q1 v_q2 v_rd v_t v_d v_nw v_ps v_im v_is_ v_q10 v_bk v_q12 v_qr v_pr v_cv v_ft v_t0 v_t1 v_t2 v_t3 v_t4 v_ta v_tb v_tc v_td v_te v_fta v_ftc v_nwc v_fn x0 x1 x2 x3 x4)) H := hP
  have hD : va_D (lw_A s) (((Wm_bestTheme cI cZ yh Rf G f0 f8 f10) ++ wr) ++ (Wx_bestTheme cI cZ xh v_x v_q1 v_q2 v_rd v_t v_d v_nw v_ps v_im v_is_ v_q10 v_bk v_q12 v_qr v_pr v_cv v_ft v_t0 v_t1 v_t2 v_t3 v_t4 v_ta v_tb v_tc v_td v_te v_fta v_ftc v_nwc v_fn x0 x1 x2 x3 x4)) := hD
  rw [List.append_assoc] at hP hD
  refine lv_pop hx hb dL_law_601 rfl ?_
  refine lv_aload_n hx hb dL_law_602 rfl (lv_at hl 2 rfl) ?_
  refine lv_aload_n hx hb dL_law_603 rfl (lv_at hl 0 rfl) ?_
  refine lv_iload_n hx hb dL_law_604 rfl (lv_at hl 3 rfl) ?_
  refine lv_iconst (v := 1) hx hb dL_law_605 rfl ?_
  refine lv_iadd hx hb dL_law_606 ?_
  refine va_sld hx hb hX hbl hbA hS hi1 dL_law_607 ?_
  refine lv_aload_n hx hb dL_law_608 rfl (lv_at hl 0 rfl) ?_
  refine lv_iload_n hx hb dL_law_609 rfl (lv_at hl 3 rfl) ?_
  refine lv_iconst (v := 2) hx hb dL_law_610 rfl ?_
  refine lv_iadd hx hb dL_law_611 ?_
  refine va_sld hx hb hX hbl hbA hS hi2 dL_law_612 ?_
  refine cVa (wc := (Wm_bestTheme cI cZ yh Rf G f0 f8 f10)) (wr := (wr ++ (Wx_bestTheme cI cZ xh v_x v_q1 v_q2 v_rd v_t v_d v_nw v_ps v_im v_is_ v_q10 v_bk v_q12 v_qr v_pr v_cv v_ft v_t0 v_t1 v_t2 v_t3 v_t4 v_ta v_tb v_tc v_td v_te v_fta v_ftc v_nwc v_fn x0 x1 x2 x3 x4))) (rest := []) (m_bestTheme Rf yh G f0 f10 f8 (xs ((iv + 1) : Int32).toNatClampNeg) (xs ((iv + 2) : Int32).toNatClampNeg) hs) okV_X10_bestTheme wd_820 hx hb hml hown hts hK hP hD hS hA hN hl.1 rfl rfl rfl (Nat.le_of_ble_eq_true rfl) (Nat.le_of_ble_eq_true rfl) (Nat.le_of_ble_eq_true rfl) (Nat.le_of_ble_eq_true rfl) (Nat.le_of_ble_eq_true rfl) dL_law_613 (fun ry u2 H locs em hP hD hS => ?_)
  obtain ⟨y0, hy0⟩ : ∃ q, q = u2 := ⟨_, rfl⟩
  subst hy0
  replace em : (ry, y0) = (f_m_bestTheme G f0 f10 f8 (xs ((iv + 1) : Int32).toNatClampNeg) (xs ((iv + 2) : Int32).toNatClampNeg)) := em
  have hP : va_P D classes ((wr ++ (Wx_bestTheme cI cZ xh v_x v_q1 v_q2 v_rd v_t v_d v_nw v_ps v_im v_is_ v_q10 v_bk v_q12 v_qr v_pr v_cv v_ft v_t0 v_t1 v_t2 v_t3 v_t4 v_ta v_tb v_tc v_td v_te v_fta v_ftc v_nwc v_fn x0 x1 x2 x3 x4)) ++ (Wm_bestTheme cI cZ yh Rf y0 f0 f8 f10)) H := hP
  have hD : va_D (lw_A s) ((wr ++ (Wx_bestTheme cI cZ xh v_x v_q1 v_q2 v_rd v_t v_d v_nw v_ps v_im v_is_ v_q10 v_bk v_q12 v_qr v_pr v_cv v_ft v_t0 v_t1 v_t2 v_t3 v_t4 v_ta v_tb v_tc v_td v_te v_fta v_ftc v_nwc v_fn x0 x1 x2 x3 x4)) ++ (Wm_bestTheme cI cZ yh Rf y0 f0 f8 f10)) := hD
  refine lv_pop hx hb dL_law_616 rfl ?_
  refine lv_goto (tgt := 1015) hx hb dL_law_617 rfl ?_
  exact hnext rx x0 x1 x2 x3 x4 ry y0 _ _ _ ex em (permP rot hP) (permD rot hD) hS hl
end
