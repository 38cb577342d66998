section
def dLt_87 : List (Nat × Instr × Nat) := [(376, .aload_n 1, 1), (377, .aload_n 0, 1), (378, .iload_n 3, 1), (379, .iconst 1, 1), (380, .iadd, 1), (381, .iaload, 1), (382, .aload_n 0, 1), (383, .iload_n 3, 1), (384, .iconst 2, 1), (385, .iadd, 1), (386, .iaload, 1), (387, .aload_n 0, 1), (388, .iload_n 3, 1), (389, .iconst 3, 1), (390, .iadd, 1), (391, .iaload, 1), (392, .invokevirtual 48, 3), (395, .pop, 1), (396, .aload_n 2, 1), (397, .aload_n 0, 1), (398, .iload_n 3, 1), (399, .iconst 1, 1), (400, .iadd, 1), (401, .iaload, 1), (402, .aload_n 0, 1), (403, .iload_n 3, 1), (404, .iconst 2, 1), (405, .iadd, 1), (406, .iaload, 1), (407, .aload_n 0, 1), (408, .iload_n 3, 1), (409, .iconst 3, 1), (410, .iadd, 1), (411, .iaload, 1), (412, .invokevirtual 52, 3), (415, .pop, 1), (416, .goto 599, 3), (419, .aload_n 1, 1), (420, .aload_n 0, 1), (421, .iload_n 3, 1), (422, .iconst 1, 1), (423, .iadd, 1), (424, .iaload, 1), (425, .invokevirtual 53, 3), (428, .pop, 1), (429, .aload_n 2, 1), (430, .aload_n 0, 1), (431, .iload_n 3, 1), (432, .iconst 1, 1), (433, .iadd, 1), (434, .iaload, 1), (435, .invokevirtual 56, 3), (438, .pop, 1), (439, .goto 576, 3), (442, .aload_n 1, 1), (443, .aload_n 0, 1), (444, .iload_n 3, 1), (445, .iconst 1, 1), (446, .iadd, 1), (447, .iaload, 1), (448, .invokevirtual 57, 3), (451, .pop, 1), (452, .aload_n 2, 1), (453, .aload_n 0, 1), (454, .iload_n 3, 1), (455, .iconst 1, 1), (456, .iadd, 1), (457, .iaload, 1), (458, .invokevirtual 60, 3), (461, .pop, 1), (462, .goto 553, 3), (465, .aload_n 1, 1), (466, .aload_n 0, 1), (467, .iload_n 3, 1), (468, .iconst 1, 1), (469, .iadd, 1), (470, .iaload, 1), (471, .aload_n 0, 1), (472, .iload_n 3, 1), (473, .iconst 2, 1), (474, .iadd, 1), (475, .iaload, 1), (476, .invokevirtual 61, 3), (479, .pop, 1), (480, .aload_n 2, 1), (481, .aload_n 0, 1), (482, .iload_n 3, 1), (483, .iconst 1, 1), (484, .iadd, 1), (485, .iaload, 1), (486, .aload_n 0, 1), (487, .iload_n 3, 1), (488, .iconst 2, 1), (489, .iadd, 1), (490, .iaload, 1), (491, .invokevirtual 64, 3), (494, .pop, 1), (495, .goto 520, 3), (498, .aload_n 1, 1), (499, .aload_n 0, 1), (500, .iload_n 3, 1), (501, .iconst 1, 1), (502, .iadd, 1), (503, .iaload, 1), (504, .invokevirtual 65, 3), (507, .pop, 1), (508, .aload_n 2, 1), (509, .aload_n 0, 1), (510, .iload_n 3, 1), (511, .iconst 1, 1), (512, .iadd, 1), (513, .iaload, 1), (514, .invokevirtual 68, 3), (517, .pop, 1), (518, .goto 497, 3), (521, .aload_n 1, 1), (522, .invokevirtual 69, 3), (525, .pop, 1), (526, .aload_n 2, 1), (527, .invokevirtual 72, 3), (530, .pop, 1), (531, .goto 484, 3), (534, .aload_n 1, 1), (535, .aload_n 0, 1), (536, .iload_n 3, 1), (537, .iconst 1, 1), (538, .iadd, 1), (539, .iaload, 1), (540, .aload_n 0, 1), (541, .iload_n 3, 1), (542, .iconst 2, 1), (543, .iadd, 1), (544, .iaload, 1), (545, .aload_n 0, 1), (546, .iload_n 3, 1), (547, .iconst 3, 1), (548, .iadd, 1), (549, .iaload, 1), (550, .aload_n 0, 1), (551, .iload_n 3, 1), (552, .iconst 4, 1), (553, .iadd, 1), (554, .iaload, 1), (555, .invokevirtual 73, 3), (558, .pop, 1), (559, .aload_n 2, 1), (560, .aload_n 0, 1), (561, .iload_n 3, 1), (562, .iconst 1, 1), (563, .iadd, 1), (564, .iaload, 1), (565, .aload_n 0, 1), (566, .iload_n 3, 1), (567, .iconst 2, 1), (568, .iadd, 1), (569, .iaload, 1), (570, .aload_n 0, 1), (571, .iload_n 3, 1), (572, .iconst 3, 1), (573, .iadd, 1), (574, .iaload, 1), (575, .aload_n 0, 1), (576, .iload_n 3, 1), (577, .iconst 4, 1), (578, .iadd, 1), (579, .iaload, 1), (580, .invokevirtual 77, 3), (583, .pop, 1), (584, .goto 431, 3), (587, .aload_n 1, 1), (588, .aload_n 0, 1), (589, .iload_n 3, 1), (590, .iconst 1, 1), (591, .iadd, 1), (592, .iaload, 1), (593, .aload_n 0, 1), (594, .iload_n 3, 1), (595, .iconst 2, 1), (596, .iadd, 1), (597, .iaload, 1), (598, .invokevirtual 78, 3), (601, .pop, 1), (602, .aload_n 2, 1), (603, .aload_n 0, 1), (604, .iload_n 3, 1), (605, .iconst 1, 1), (606, .iadd, 1), (607, .iaload, 1), (608, .aload_n 0, 1), (609, .iload_n 3, 1), (610, .iconst 2, 1), (611, .iadd, 1), (612, .iaload, 1), (613, .invokevirtual 81, 3), (616, .pop, 1), (617, .goto 398, 3)]
theorem dLa_87 : dLt_87.all (fun q => decide (decode cL_law q.1 = .ok (q.2.1, q.2.2))) = true := by decide +kernel
theorem dLg_87 (c : ByteArray) (L : List (Nat × Instr × Nat)) (hA : L.all (fun q => decide (decode c q.1 = .ok (q.2.1, q.2.2))) = true) {k a n : Nat} {i : Instr} (h : L[k]? = some (a, i, n)) : decode c a = .ok (i, n) := by
  have hm := List.mem_of_getElem? h
  have h2 := List.all_eq_true.mp hA _ hm
  exact of_decide_eq_true h2
theorem dL_law_376 : decode cL_law 376 = .ok (.aload_n 1, 1) := dLg_87 cL_law dLt_87 dLa_87 (k := 0) rfl
theorem dL_law_377 : decode cL_law 377 = .ok (.aload_n 0, 1) := dLg_87 cL_law dLt_87 dLa_87 (k := 1) rfl
theorem dL_law_378 : decode cL_law 378 = .ok (.iload_n 3, 1) := dLg_87 cL_law dLt_87 dLa_87 (k := 2) rfl
theorem dL_law_379 : decode cL_law 379 = .ok (.iconst 1, 1) := dLg_87 cL_law dLt_87 dLa_87 (k := 3) rfl
theorem dL_law_380 : decode cL_law 380 = .ok (.iadd, 1) := dLg_87 cL_law dLt_87 dLa_87 (k := 4) rfl
theorem dL_law_381 : decode cL_law 381 = .ok (.iaload, 1) := dLg_87 cL_law dLt_87 dLa_87 (k := 5) rfl
theorem dL_law_382 : decode cL_law 382 = .ok (.aload_n 0, 1) := dLg_87 cL_law dLt_87 dLa_87 (k := 6) rfl
theorem dL_law_383 : decode cL_law 383 = .ok (.iload_n 3, 1) := dLg_87 cL_law dLt_87 dLa_87 (k := 7) rfl
theorem dL_law_384 : decode cL_law 384 = .ok (.iconst 2, 1) := dLg_87 cL_law dLt_87 dLa_87 (k := 8) rfl
theorem dL_law_385 : decode cL_law 385 = .ok (.iadd, 1) := dLg_87 cL_law dLt_87 dLa_87 (k := 9) rfl
theorem dL_law_386 : decode cL_law 386 = .ok (.iaload, 1) := dLg_87 cL_law dLt_87 dLa_87 (k := 10) rfl
theorem dL_law_387 : decode cL_law 387 = .ok (.aload_n 0, 1) := dLg_87 cL_law dLt_87 dLa_87 (k := 11) rfl
theorem dL_law_388 : decode cL_law 388 = .ok (.iload_n 3, 1) := dLg_87 cL_law dLt_87 dLa_87 (k := 12) rfl
theorem dL_law_389 : decode cL_law 389 = .ok (.iconst 3, 1) := dLg_87 cL_law dLt_87 dLa_87 (k := 13) rfl
theorem dL_law_390 : decode cL_law 390 = .ok (.iadd, 1) := dLg_87 cL_law dLt_87 dLa_87 (k := 14) rfl
theorem dL_law_391 : decode cL_law 391 = .ok (.iaload, 1) := dLg_87 cL_law dLt_87 dLa_87 (k := 15) rfl
theorem dL_law_392 : decode cL_law 392 = .ok (.invokevirtual 48, 3) := dLg_87 cL_law dLt_87 dLa_87 (k := 16) rfl
theorem wd_760 : Cond.methodLink RL 48 yX9_send ∈ BG := BG_at 502 (by decide +kernel) rfl
theorem wd_761 : Cond.code yX9_send cX9_send 6 (some .int) ∈ BG := BG_at 505 (by decide +kernel) rfl
theorem wd_762 : Cond.instanceMethod yX9_send ∈ BG := BG_at 503 (by decide +kernel) rfl
theorem wd_763 : Cond.selects RX9 yX9_send yX9_send ∈ BG := BG_at 504 (by decide +kernel) rfl
theorem okV_X9_send : okV yX9_send cX9_send 6 (some .int) 3 := ⟨⟨wd_761, wd_71, by decide +kernel⟩, wd_762, wd_763⟩
theorem dL_law_395 : decode cL_law 395 = .ok (.pop, 1) := dLg_87 cL_law dLt_87 dLa_87 (k := 17) rfl
theorem dL_law_396 : decode cL_law 396 = .ok (.aload_n 2, 1) := dLg_87 cL_law dLt_87 dLa_87 (k := 18) rfl
theorem dL_law_397 : decode cL_law 397 = .ok (.aload_n 0, 1) := dLg_87 cL_law dLt_87 dLa_87 (k := 19) rfl
theorem dL_law_398 : decode cL_law 398 = .ok (.iload_n 3, 1) := dLg_87 cL_law dLt_87 dLa_87 (k := 20) rfl
theorem dL_law_399 : decode cL_law 399 = .ok (.iconst 1, 1) := dLg_87 cL_law dLt_87 dLa_87 (k := 21) rfl
theorem dL_law_400 : decode cL_law 400 = .ok (.iadd, 1) := dLg_87 cL_law dLt_87 dLa_87 (k := 22) rfl
theorem dL_law_401 : decode cL_law 401 = .ok (.iaload, 1) := dLg_87 cL_law dLt_87 dLa_87 (k := 23) rfl
theorem dL_law_402 : decode cL_law 402 = .ok (.aload_n 0, 1) := dLg_87 cL_law dLt_87 dLa_87 (k := 24) rfl
theorem dL_law_403 : decode cL_law 403 = .ok (.iload_n 3, 1) := dLg_87 cL_law dLt_87 dLa_87 (k := 25) rfl
theorem dL_law_404 : decode cL_law 404 = .ok (.iconst 2, 1) := dLg_87 cL_law dLt_87 dLa_87 (k := 26) rfl
theorem dL_law_405 : decode cL_law 405 = .ok (.iadd, 1) := dLg_87 cL_law dLt_87 dLa_87 (k := 27) rfl
theorem dL_law_406 : decode cL_law 406 = .ok (.iaload, 1) := dLg_87 cL_law dLt_87 dLa_87 (k := 28) rfl
theorem dL_law_407 : decode cL_law 407 = .ok (.aload_n 0, 1) := dLg_87 cL_law dLt_87 dLa_87 (k := 29) rfl
theorem dL_law_408 : decode cL_law 408 = .ok (.iload_n 3, 1) := dLg_87 cL_law dLt_87 dLa_87 (k := 30) rfl
theorem dL_law_409 : decode cL_law 409 = .ok (.iconst 3, 1) := dLg_87 cL_law dLt_87 dLa_87 (k := 31) rfl
theorem dL_law_410 : decode cL_law 410 = .ok (.iadd, 1) := dLg_87 cL_law dLt_87 dLa_87 (k := 32) rfl
theorem dL_law_411 : decode cL_law 411 = .ok (.iaload, 1) := dLg_87 cL_law dLt_87 dLa_87 (k := 33) rfl
theorem dL_law_412 : decode cL_law 412 = .ok (.invokevirtual 52, 3) := dLg_87 cL_law dLt_87 dLa_87 (k := 34) rfl
theorem wd_764 : Cond.methodLink RL 52 yX10_send ∈ BG := BG_at 1051 (by decide +kernel) rfl
theorem wd_765 : Cond.code yX10_send cX10_send 6 (some .int) ∈ BG := BG_at 1054 (by decide +kernel) rfl
theorem wd_766 : Cond.instanceMethod yX10_send ∈ BG := BG_at 1052 (by decide +kernel) rfl
theorem wd_767 : Cond.selects RX10 yX10_send yX10_send ∈ BG := BG_at 1053 (by decide +kernel) rfl
theorem okV_X10_send : okV yX10_send cX10_send 6 (some .int) 3 := ⟨⟨wd_765, wd_497, by decide +kernel⟩, wd_766, wd_767⟩
theorem dL_law_415 : decode cL_law 415 = .ok (.pop, 1) := dLg_87 cL_law dLt_87 dLa_87 (k := 35) rfl
theorem dL_law_416 : decode cL_law 416 = .ok (.goto 599, 3) := dLg_87 cL_law dLt_87 dLa_87 (k := 36) rfl
theorem dL_law_419 : decode cL_law 419 = .ok (.aload_n 1, 1) := dLg_87 cL_law dLt_87 dLa_87 (k := 37) rfl
theorem dL_law_420 : decode cL_law 420 = .ok (.aload_n 0, 1) := dLg_87 cL_law dLt_87 dLa_87 (k := 38) rfl
theorem dL_law_421 : decode cL_law 421 = .ok (.iload_n 3, 1) := dLg_87 cL_law dLt_87 dLa_87 (k := 39) rfl
theorem dL_law_422 : decode cL_law 422 = .ok (.iconst 1, 1) := dLg_87 cL_law dLt_87 dLa_87 (k := 40) rfl
theorem dL_law_423 : decode cL_law 423 = .ok (.iadd, 1) := dLg_87 cL_law dLt_87 dLa_87 (k := 41) rfl
theorem dL_law_424 : decode cL_law 424 = .ok (.iaload, 1) := dLg_87 cL_law dLt_87 dLa_87 (k := 42) rfl
theorem dL_law_425 : decode cL_law 425 = .ok (.invokevirtual 53, 3) := dLg_87 cL_law dLt_87 dLa_87 (k := 43) rfl
theorem wd_768 : Cond.methodLink RL 53 yX9_home ∈ BG := BG_at 526 (by decide +kernel) rfl
theorem wd_769 : Cond.code yX9_home cX9_home 3 (some .int) ∈ BG := BG_at 529 (by decide +kernel) rfl
theorem wd_770 : Cond.instanceMethod yX9_home ∈ BG := BG_at 527 (by decide +kernel) rfl
theorem wd_771 : Cond.selects RX9 yX9_home yX9_home ∈ BG := BG_at 528 (by decide +kernel) rfl
theorem okV_X9_home : okV yX9_home cX9_home 3 (some .int) 1 := ⟨⟨wd_769, wd_71, by decide +kernel⟩, wd_770, wd_771⟩
theorem dL_law_428 : decode cL_law 428 = .ok (.pop, 1) := dLg_87 cL_law dLt_87 dLa_87 (k := 44) rfl
theorem dL_law_429 : decode cL_law 429 = .ok (.aload_n 2, 1) := dLg_87 cL_law dLt_87 dLa_87 (k := 45) rfl
theorem dL_law_430 : decode cL_law 430 = .ok (.aload_n 0, 1) := dLg_87 cL_law dLt_87 dLa_87 (k := 46) rfl
theorem dL_law_431 : decode cL_law 431 = .ok (.iload_n 3, 1) := dLg_87 cL_law dLt_87 dLa_87 (k := 47) rfl
theorem dL_law_432 : decode cL_law 432 = .ok (.iconst 1, 1) := dLg_87 cL_law dLt_87 dLa_87 (k := 48) rfl
theorem dL_law_433 : decode cL_law 433 = .ok (.iadd, 1) := dLg_87 cL_law dLt_87 dLa_87 (k := 49) rfl
theorem dL_law_434 : decode cL_law 434 = .ok (.iaload, 1) := dLg_87 cL_law dLt_87 dLa_87 (k := 50) rfl
theorem dL_law_435 : decode cL_law 435 = .ok (.invokevirtual 56, 3) := dLg_87 cL_law dLt_87 dLa_87 (k := 51) rfl
theorem wd_772 : Cond.methodLink RL 56 yX10_home ∈ BG := BG_at 1059 (by decide +kernel) rfl
theorem wd_773 : Cond.code yX10_home cX10_home 3 (some .int) ∈ BG := BG_at 1062 (by decide +kernel) rfl
theorem wd_774 : Cond.instanceMethod yX10_home ∈ BG := BG_at 1060 (by decide +kernel) rfl
theorem wd_775 : Cond.selects RX10 yX10_home yX10_home ∈ BG := BG_at 1061 (by decide +kernel) rfl
theorem okV_X10_home : okV yX10_home cX10_home 3 (some .int) 1 := ⟨⟨wd_773, wd_497, by decide +kernel⟩, wd_774, wd_775⟩
theorem dL_law_438 : decode cL_law 438 = .ok (.pop, 1) := dLg_87 cL_law dLt_87 dLa_87 (k := 52) rfl
theorem dL_law_439 : decode cL_law 439 = .ok (.goto 576, 3) := dLg_87 cL_law dLt_87 dLa_87 (k := 53) rfl
theorem dL_law_442 : decode cL_law 442 = .ok (.aload_n 1, 1) := dLg_87 cL_law dLt_87 dLa_87 (k := 54) rfl
theorem dL_law_443 : decode cL_law 443 = .ok (.aload_n 0, 1) := dLg_87 cL_law dLt_87 dLa_87 (k := 55) rfl
theorem dL_law_444 : decode cL_law 444 = .ok (.iload_n 3, 1) := dLg_87 cL_law dLt_87 dLa_87 (k := 56) rfl
theorem dL_law_445 : decode cL_law 445 = .ok (.iconst 1, 1) := dLg_87 cL_law dLt_87 dLa_87 (k := 57) rfl
theorem dL_law_446 : decode cL_law 446 = .ok (.iadd, 1) := dLg_87 cL_law dLt_87 dLa_87 (k := 58) rfl
theorem dL_law_447 : decode cL_law 447 = .ok (.iaload, 1) := dLg_87 cL_law dLt_87 dLa_87 (k := 59) rfl
theorem dL_law_448 : decode cL_law 448 = .ok (.invokevirtual 57, 3) := dLg_87 cL_law dLt_87 dLa_87 (k := 60) rfl
theorem wd_776 : Cond.methodLink RL 57 yX9_pass ∈ BG := BG_at 530 (by decide +kernel) rfl
theorem wd_777 : Cond.code yX9_pass cX9_pass 4 (some .int) ∈ BG := BG_at 533 (by decide +kernel) rfl
theorem wd_778 : Cond.instanceMethod yX9_pass ∈ BG := BG_at 531 (by decide +kernel) rfl
theorem wd_779 : Cond.selects RX9 yX9_pass yX9_pass ∈ BG := BG_at 532 (by decide +kernel) rfl
theorem okV_X9_pass : okV yX9_pass cX9_pass 4 (some .int) 1 := ⟨⟨wd_777, wd_71, by decide +kernel⟩, wd_778, wd_779⟩
theorem dL_law_451 : decode cL_law 451 = .ok (.pop, 1) := dLg_87 cL_law dLt_87 dLa_87 (k := 61) rfl
theorem dL_law_452 : decode cL_law 452 = .ok (.aload_n 2, 1) := dLg_87 cL_law dLt_87 dLa_87 (k := 62) rfl
theorem dL_law_453 : decode cL_law 453 = .ok (.aload_n 0, 1) := dLg_87 cL_law dLt_87 dLa_87 (k := 63) rfl
theorem dL_law_454 : decode cL_law 454 = .ok (.iload_n 3, 1) := dLg_87 cL_law dLt_87 dLa_87 (k := 64) rfl
theorem dL_law_455 : decode cL_law 455 = .ok (.iconst 1, 1) := dLg_87 cL_law dLt_87 dLa_87 (k := 65) rfl
theorem dL_law_456 : decode cL_law 456 = .ok (.iadd, 1) := dLg_87 cL_law dLt_87 dLa_87 (k := 66) rfl
theorem dL_law_457 : decode cL_law 457 = .ok (.iaload, 1) := dLg_87 cL_law dLt_87 dLa_87 (k := 67) rfl
theorem dL_law_458 : decode cL_law 458 = .ok (.invokevirtual 60, 3) := dLg_87 cL_law dLt_87 dLa_87 (k := 68) rfl
theorem wd_780 : Cond.methodLink RL 60 yX10_pass ∈ BG := BG_at 1063 (by decide +kernel) rfl
theorem wd_781 : Cond.code yX10_pass cX10_pass 2 (some .int) ∈ BG := BG_at 1066 (by decide +kernel) rfl
theorem wd_782 : Cond.instanceMethod yX10_pass ∈ BG := BG_at 1064 (by decide +kernel) rfl
theorem wd_783 : Cond.selects RX10 yX10_pass yX10_pass ∈ BG := BG_at 1065 (by decide +kernel) rfl
theorem okV_X10_pass : okV yX10_pass cX10_pass 2 (some .int) 1 := ⟨⟨wd_781, wd_497, by decide +kernel⟩, wd_782, wd_783⟩
theorem dL_law_461 : decode cL_law 461 = .ok (.pop, 1) := dLg_87 cL_law dLt_87 dLa_87 (k := 69) rfl
theorem dL_law_462 : decode cL_law 462 = .ok (.goto 553, 3) := dLg_87 cL_law dLt_87 dLa_87 (k := 70) rfl
theorem dL_law_465 : decode cL_law 465 = .ok (.aload_n 1, 1) := dLg_87 cL_law dLt_87 dLa_87 (k := 71) rfl
theorem dL_law_466 : decode cL_law 466 = .ok (.aload_n 0, 1) := dLg_87 cL_law dLt_87 dLa_87 (k := 72) rfl
theorem dL_law_467 : decode cL_law 467 = .ok (.iload_n 3, 1) := dLg_87 cL_law dLt_87 dLa_87 (k := 73) rfl
theorem dL_law_468 : decode cL_law 468 = .ok (.iconst 1, 1) := dLg_87 cL_law dLt_87 dLa_87 (k := 74) rfl
theorem dL_law_469 : decode cL_law 469 = .ok (.iadd, 1) := dLg_87 cL_law dLt_87 dLa_87 (k := 75) rfl
theorem dL_law_470 : decode cL_law 470 = .ok (.iaload, 1) := dLg_87 cL_law dLt_87 dLa_87 (k := 76) rfl
theorem dL_law_471 : decode cL_law 471 = .ok (.aload_n 0, 1) := dLg_87 cL_law dLt_87 dLa_87 (k := 77) rfl
theorem dL_law_472 : decode cL_law 472 = .ok (.iload_n 3, 1) := dLg_87 cL_law dLt_87 dLa_87 (k := 78) rfl
theorem dL_law_473 : decode cL_law 473 = .ok (.iconst 2, 1) := dLg_87 cL_law dLt_87 dLa_87 (k := 79) rfl
theorem dL_law_474 : decode cL_law 474 = .ok (.iadd, 1) := dLg_87 cL_law dLt_87 dLa_87 (k := 80) rfl
theorem dL_law_475 : decode cL_law 475 = .ok (.iaload, 1) := dLg_87 cL_law dLt_87 dLa_87 (k := 81) rfl
theorem dL_law_476 : decode cL_law 476 = .ok (.invokevirtual 61, 3) := dLg_87 cL_law dLt_87 dLa_87 (k := 82) rfl
theorem wd_784 : Cond.methodLink RL 61 yX9_grieve ∈ BG := BG_at 575 (by decide +kernel) rfl
theorem wd_785 : Cond.code yX9_grieve cX9_grieve 3 (some .int) ∈ BG := BG_at 578 (by decide +kernel) rfl
theorem wd_786 : Cond.instanceMethod yX9_grieve ∈ BG := BG_at 576 (by decide +kernel) rfl
theorem wd_787 : Cond.selects RX9 yX9_grieve yX9_grieve ∈ BG := BG_at 577 (by decide +kernel) rfl
theorem okV_X9_grieve : okV yX9_grieve cX9_grieve 3 (some .int) 2 := ⟨⟨wd_785, wd_71, by decide +kernel⟩, wd_786, wd_787⟩
theorem dL_law_479 : decode cL_law 479 = .ok (.pop, 1) := dLg_87 cL_law dLt_87 dLa_87 (k := 83) rfl
theorem dL_law_480 : decode cL_law 480 = .ok (.aload_n 2, 1) := dLg_87 cL_law dLt_87 dLa_87 (k := 84) rfl
theorem dL_law_481 : decode cL_law 481 = .ok (.aload_n 0, 1) := dLg_87 cL_law dLt_87 dLa_87 (k := 85) rfl
theorem dL_law_482 : decode cL_law 482 = .ok (.iload_n 3, 1) := dLg_87 cL_law dLt_87 dLa_87 (k := 86) rfl
theorem dL_law_483 : decode cL_law 483 = .ok (.iconst 1, 1) := dLg_87 cL_law dLt_87 dLa_87 (k := 87) rfl
theorem dL_law_484 : decode cL_law 484 = .ok (.iadd, 1) := dLg_87 cL_law dLt_87 dLa_87 (k := 88) rfl
theorem dL_law_485 : decode cL_law 485 = .ok (.iaload, 1) := dLg_87 cL_law dLt_87 dLa_87 (k := 89) rfl
theorem dL_law_486 : decode cL_law 486 = .ok (.aload_n 0, 1) := dLg_87 cL_law dLt_87 dLa_87 (k := 90) rfl
theorem dL_law_487 : decode cL_law 487 = .ok (.iload_n 3, 1) := dLg_87 cL_law dLt_87 dLa_87 (k := 91) rfl
theorem dL_law_488 : decode cL_law 488 = .ok (.iconst 2, 1) := dLg_87 cL_law dLt_87 dLa_87 (k := 92) rfl
theorem dL_law_489 : decode cL_law 489 = .ok (.iadd, 1) := dLg_87 cL_law dLt_87 dLa_87 (k := 93) rfl
theorem dL_law_490 : decode cL_law 490 = .ok (.iaload, 1) := dLg_87 cL_law dLt_87 dLa_87 (k := 94) rfl
theorem dL_law_491 : decode cL_law 491 = .ok (.invokevirtual 64, 3) := dLg_87 cL_law dLt_87 dLa_87 (k := 95) rfl
theorem wd_788 : Cond.methodLink RL 64 yX10_grieve ∈ BG := BG_at 1080 (by decide +kernel) rfl
theorem wd_789 : Cond.code yX10_grieve cX10_grieve 3 (some .int) ∈ BG := BG_at 1083 (by decide +kernel) rfl
theorem wd_790 : Cond.instanceMethod yX10_grieve ∈ BG := BG_at 1081 (by decide +kernel) rfl
theorem wd_791 : Cond.selects RX10 yX10_grieve yX10_grieve ∈ BG := BG_at 1082 (by decide +kernel) rfl
theorem okV_X10_grieve : okV yX10_grieve cX10_grieve 3 (some .int) 2 := ⟨⟨wd_789, wd_497, by decide +kernel⟩, wd_790, wd_791⟩
theorem dL_law_494 : decode cL_law 494 = .ok (.pop, 1) := dLg_87 cL_law dLt_87 dLa_87 (k := 96) rfl
theorem dL_law_495 : decode cL_law 495 = .ok (.goto 520, 3) := dLg_87 cL_law dLt_87 dLa_87 (k := 97) rfl
theorem dL_law_498 : decode cL_law 498 = .ok (.aload_n 1, 1) := dLg_87 cL_law dLt_87 dLa_87 (k := 98) rfl
theorem dL_law_499 : decode cL_law 499 = .ok (.aload_n 0, 1) := dLg_87 cL_law dLt_87 dLa_87 (k := 99) rfl
theorem dL_law_500 : decode cL_law 500 = .ok (.iload_n 3, 1) := dLg_87 cL_law dLt_87 dLa_87 (k := 100) rfl
theorem dL_law_501 : decode cL_law 501 = .ok (.iconst 1, 1) := dLg_87 cL_law dLt_87 dLa_87 (k := 101) rfl
theorem dL_law_502 : decode cL_law 502 = .ok (.iadd, 1) := dLg_87 cL_law dLt_87 dLa_87 (k := 102) rfl
theorem dL_law_503 : decode cL_law 503 = .ok (.iaload, 1) := dLg_87 cL_law dLt_87 dLa_87 (k := 103) rfl
theorem dL_law_504 : decode cL_law 504 = .ok (.invokevirtual 65, 3) := dLg_87 cL_law dLt_87 dLa_87 (k := 104) rfl
theorem wd_792 : Cond.methodLink RL 65 yX9_drift ∈ BG := BG_at 585 (by decide +kernel) rfl
theorem wd_793 : Cond.code yX9_drift cX9_drift 5 (some .int) ∈ BG := BG_at 588 (by decide +kernel) rfl
theorem wd_794 : Cond.instanceMethod yX9_drift ∈ BG := BG_at 586 (by decide +kernel) rfl
theorem wd_795 : Cond.selects RX9 yX9_drift yX9_drift ∈ BG := BG_at 587 (by decide +kernel) rfl
theorem okV_X9_drift : okV yX9_drift cX9_drift 5 (some .int) 1 := ⟨⟨wd_793, wd_71, by decide +kernel⟩, wd_794, wd_795⟩
theorem dL_law_507 : decode cL_law 507 = .ok (.pop, 1) := dLg_87 cL_law dLt_87 dLa_87 (k := 105) rfl
theorem dL_law_508 : decode cL_law 508 = .ok (.aload_n 2, 1) := dLg_87 cL_law dLt_87 dLa_87 (k := 106) rfl
theorem dL_law_509 : decode cL_law 509 = .ok (.aload_n 0, 1) := dLg_87 cL_law dLt_87 dLa_87 (k := 107) rfl
theorem dL_law_510 : decode cL_law 510 = .ok (.iload_n 3, 1) := dLg_87 cL_law dLt_87 dLa_87 (k := 108) rfl
theorem dL_law_511 : decode cL_law 511 = .ok (.iconst 1, 1) := dLg_87 cL_law dLt_87 dLa_87 (k := 109) rfl
theorem dL_law_512 : decode cL_law 512 = .ok (.iadd, 1) := dLg_87 cL_law dLt_87 dLa_87 (k := 110) rfl
theorem dL_law_513 : decode cL_law 513 = .ok (.iaload, 1) := dLg_87 cL_law dLt_87 dLa_87 (k := 111) rfl
theorem dL_law_514 : decode cL_law 514 = .ok (.invokevirtual 68, 3) := dLg_87 cL_law dLt_87 dLa_87 (k := 112) rfl
theorem wd_796 : Cond.methodLink RL 68 yX10_drift ∈ BG := BG_at 1089 (by decide +kernel) rfl
theorem wd_797 : Cond.code yX10_drift cX10_drift 4 (some .int) ∈ BG := BG_at 1092 (by decide +kernel) rfl
theorem wd_798 : Cond.instanceMethod yX10_drift ∈ BG := BG_at 1090 (by decide +kernel) rfl
theorem wd_799 : Cond.selects RX10 yX10_drift yX10_drift ∈ BG := BG_at 1091 (by decide +kernel) rfl
theorem okV_X10_drift : okV yX10_drift cX10_drift 4 (some .int) 1 := ⟨⟨wd_797, wd_497, by decide +kernel⟩, wd_798, wd_799⟩
theorem dL_law_517 : decode cL_law 517 = .ok (.pop, 1) := dLg_87 cL_law dLt_87 dLa_87 (k := 113) rfl
theorem dL_law_518 : decode cL_law 518 = .ok (.goto 497, 3) := dLg_87 cL_law dLt_87 dLa_87 (k := 114) rfl
theorem dL_law_521 : decode cL_law 521 = .ok (.aload_n 1, 1) := dLg_87 cL_law dLt_87 dLa_87 (k := 115) rfl
theorem dL_law_522 : decode cL_law 522 = .ok (.invokevirtual 69, 3) := dLg_87 cL_law dLt_87 dLa_87 (k := 116) rfl
theorem wd_800 : Cond.methodLink RL 69 yX9_undo ∈ BG := BG_at 597 (by decide +kernel) rfl
theorem wd_801 : Cond.code yX9_undo cX9_undo 1 (some .int) ∈ BG := BG_at 600 (by decide +kernel) rfl
theorem wd_802 : Cond.instanceMethod yX9_undo ∈ BG := BG_at 598 (by decide +kernel) rfl
theorem wd_803 : Cond.selects RX9 yX9_undo yX9_undo ∈ BG := BG_at 599 (by decide +kernel) rfl
theorem okV_X9_undo : okV yX9_undo cX9_undo 1 (some .int) 0 := ⟨⟨wd_801, wd_71, by decide +kernel⟩, wd_802, wd_803⟩
theorem dL_law_525 : decode cL_law 525 = .ok (.pop, 1) := dLg_87 cL_law dLt_87 dLa_87 (k := 117) rfl
theorem dL_law_526 : decode cL_law 526 = .ok (.aload_n 2, 1) := dLg_87 cL_law dLt_87 dLa_87 (k := 118) rfl
theorem dL_law_527 : decode cL_law 527 = .ok (.invokevirtual 72, 3) := dLg_87 cL_law dLt_87 dLa_87 (k := 119) rfl
theorem wd_804 : Cond.methodLink RL 72 yX10_undo ∈ BG := BG_at 1042 (by decide +kernel) rfl
theorem wd_805 : Cond.code yX10_undo cX10_undo 2 (some .int) ∈ BG := BG_at 1045 (by decide +kernel) rfl
theorem wd_806 : Cond.instanceMethod yX10_undo ∈ BG := BG_at 1043 (by decide +kernel) rfl
theorem wd_807 : Cond.selects RX10 yX10_undo yX10_undo ∈ BG := BG_at 1044 (by decide +kernel) rfl
theorem okV_X10_undo : okV yX10_undo cX10_undo 2 (some .int) 0 := ⟨⟨wd_805, wd_497, by decide +kernel⟩, wd_806, wd_807⟩
theorem dL_law_530 : decode cL_law 530 = .ok (.pop, 1) := dLg_87 cL_law dLt_87 dLa_87 (k := 120) rfl
theorem dL_law_531 : decode cL_law 531 = .ok (.goto 484, 3) := dLg_87 cL_law dLt_87 dLa_87 (k := 121) rfl
theorem dL_law_534 : decode cL_law 534 = .ok (.aload_n 1, 1) := dLg_87 cL_law dLt_87 dLa_87 (k := 122) rfl
theorem dL_law_535 : decode cL_law 535 = .ok (.aload_n 0, 1) := dLg_87 cL_law dLt_87 dLa_87 (k := 123) rfl
theorem dL_law_536 : decode cL_law 536 = .ok (.iload_n 3, 1) := dLg_87 cL_law dLt_87 dLa_87 (k := 124) rfl
theorem dL_law_537 : decode cL_law 537 = .ok (.iconst 1, 1) := dLg_87 cL_law dLt_87 dLa_87 (k := 125) rfl
theorem dL_law_538 : decode cL_law 538 = .ok (.iadd, 1) := dLg_87 cL_law dLt_87 dLa_87 (k := 126) rfl
theorem dL_law_539 : decode cL_law 539 = .ok (.iaload, 1) := dLg_87 cL_law dLt_87 dLa_87 (k := 127) rfl
theorem dL_law_540 : decode cL_law 540 = .ok (.aload_n 0, 1) := dLg_87 cL_law dLt_87 dLa_87 (k := 128) rfl
theorem dL_law_541 : decode cL_law 541 = .ok (.iload_n 3, 1) := dLg_87 cL_law dLt_87 dLa_87 (k := 129) rfl
theorem dL_law_542 : decode cL_law 542 = .ok (.iconst 2, 1) := dLg_87 cL_law dLt_87 dLa_87 (k := 130) rfl
theorem dL_law_543 : decode cL_law 543 = .ok (.iadd, 1) := dLg_87 cL_law dLt_87 dLa_87 (k := 131) rfl
theorem dL_law_544 : decode cL_law 544 = .ok (.iaload, 1) := dLg_87 cL_law dLt_87 dLa_87 (k := 132) rfl
theorem dL_law_545 : decode cL_law 545 = .ok (.aload_n 0, 1) := dLg_87 cL_law dLt_87 dLa_87 (k := 133) rfl
theorem dL_law_546 : decode cL_law 546 = .ok (.iload_n 3, 1) := dLg_87 cL_law dLt_87 dLa_87 (k := 134) rfl
theorem dL_law_547 : decode cL_law 547 = .ok (.iconst 3, 1) := dLg_87 cL_law dLt_87 dLa_87 (k := 135) rfl
theorem dL_law_548 : decode cL_law 548 = .ok (.iadd, 1) := dLg_87 cL_law dLt_87 dLa_87 (k := 136) rfl
theorem dL_law_549 : decode cL_law 549 = .ok (.iaload, 1) := dLg_87 cL_law dLt_87 dLa_87 (k := 137) rfl
theorem dL_law_550 : decode cL_law 550 = .ok (.aload_n 0, 1) := dLg_87 cL_law dLt_87 dLa_87 (k := 138) rfl
theorem dL_law_551 : decode cL_law 551 = .ok (.iload_n 3, 1) := dLg_87 cL_law dLt_87 dLa_87 (k := 139) rfl
theorem dL_law_552 : decode cL_law 552 = .ok (.iconst 4, 1) := dLg_87 cL_law dLt_87 dLa_87 (k := 140) rfl
theorem dL_law_553 : decode cL_law 553 = .ok (.iadd, 1) := dLg_87 cL_law dLt_87 dLa_87 (k := 141) rfl
theorem dL_law_554 : decode cL_law 554 = .ok (.iaload, 1) := dLg_87 cL_law dLt_87 dLa_87 (k := 142) rfl
theorem dL_law_555 : decode cL_law 555 = .ok (.invokevirtual 73, 3) := dLg_87 cL_law dLt_87 dLa_87 (k := 143) rfl
theorem wd_808 : Cond.methodLink RL 73 yX9_could ∈ BG := BG_at 609 (by decide +kernel) rfl
theorem wd_809 : Cond.code yX9_could cX9_could 5 (some .int) ∈ BG := BG_at 612 (by decide +kernel) rfl
theorem wd_810 : Cond.instanceMethod yX9_could ∈ BG := BG_at 610 (by decide +kernel) rfl
theorem wd_811 : Cond.selects RX9 yX9_could yX9_could ∈ BG := BG_at 611 (by decide +kernel) rfl
theorem okV_X9_could : okV yX9_could cX9_could 5 (some .int) 4 := ⟨⟨wd_809, wd_71, by decide +kernel⟩, wd_810, wd_811⟩
theorem dL_law_558 : decode cL_law 558 = .ok (.pop, 1) := dLg_87 cL_law dLt_87 dLa_87 (k := 144) rfl
theorem dL_law_559 : decode cL_law 559 = .ok (.aload_n 2, 1) := dLg_87 cL_law dLt_87 dLa_87 (k := 145) rfl
theorem dL_law_560 : decode cL_law 560 = .ok (.aload_n 0, 1) := dLg_87 cL_law dLt_87 dLa_87 (k := 146) rfl
theorem dL_law_561 : decode cL_law 561 = .ok (.iload_n 3, 1) := dLg_87 cL_law dLt_87 dLa_87 (k := 147) rfl
theorem dL_law_562 : decode cL_law 562 = .ok (.iconst 1, 1) := dLg_87 cL_law dLt_87 dLa_87 (k := 148) rfl
theorem dL_law_563 : decode cL_law 563 = .ok (.iadd, 1) := dLg_87 cL_law dLt_87 dLa_87 (k := 149) rfl
theorem dL_law_564 : decode cL_law 564 = .ok (.iaload, 1) := dLg_87 cL_law dLt_87 dLa_87 (k := 150) rfl
theorem dL_law_565 : decode cL_law 565 = .ok (.aload_n 0, 1) := dLg_87 cL_law dLt_87 dLa_87 (k := 151) rfl
theorem dL_law_566 : decode cL_law 566 = .ok (.iload_n 3, 1) := dLg_87 cL_law dLt_87 dLa_87 (k := 152) rfl
theorem dL_law_567 : decode cL_law 567 = .ok (.iconst 2, 1) := dLg_87 cL_law dLt_87 dLa_87 (k := 153) rfl
theorem dL_law_568 : decode cL_law 568 = .ok (.iadd, 1) := dLg_87 cL_law dLt_87 dLa_87 (k := 154) rfl
theorem dL_law_569 : decode cL_law 569 = .ok (.iaload, 1) := dLg_87 cL_law dLt_87 dLa_87 (k := 155) rfl
theorem dL_law_570 : decode cL_law 570 = .ok (.aload_n 0, 1) := dLg_87 cL_law dLt_87 dLa_87 (k := 156) rfl
theorem dL_law_571 : decode cL_law 571 = .ok (.iload_n 3, 1) := dLg_87 cL_law dLt_87 dLa_87 (k := 157) rfl
theorem dL_law_572 : decode cL_law 572 = .ok (.iconst 3, 1) := dLg_87 cL_law dLt_87 dLa_87 (k := 158) rfl
theorem dL_law_573 : decode cL_law 573 = .ok (.iadd, 1) := dLg_87 cL_law dLt_87 dLa_87 (k := 159) rfl
theorem dL_law_574 : decode cL_law 574 = .ok (.iaload, 1) := dLg_87 cL_law dLt_87 dLa_87 (k := 160) rfl
theorem dL_law_575 : decode cL_law 575 = .ok (.aload_n 0, 1) := dLg_87 cL_law dLt_87 dLa_87 (k := 161) rfl
theorem dL_law_576 : decode cL_law 576 = .ok (.iload_n 3, 1) := dLg_87 cL_law dLt_87 dLa_87 (k := 162) rfl
theorem dL_law_577 : decode cL_law 577 = .ok (.iconst 4, 1) := dLg_87 cL_law dLt_87 dLa_87 (k := 163) rfl
theorem dL_law_578 : decode cL_law 578 = .ok (.iadd, 1) := dLg_87 cL_law dLt_87 dLa_87 (k := 164) rfl
theorem dL_law_579 : decode cL_law 579 = .ok (.iaload, 1) := dLg_87 cL_law dLt_87 dLa_87 (k := 165) rfl
theorem dL_law_580 : decode cL_law 580 = .ok (.invokevirtual 77, 3) := dLg_87 cL_law dLt_87 dLa_87 (k := 166) rfl
theorem wd_812 : Cond.methodLink RL 77 yX10_could ∈ BG := BG_at 1101 (by decide +kernel) rfl
theorem wd_813 : Cond.code yX10_could cX10_could 5 (some .int) ∈ BG := BG_at 1104 (by decide +kernel) rfl
theorem wd_814 : Cond.instanceMethod yX10_could ∈ BG := BG_at 1102 (by decide +kernel) rfl
theorem wd_815 : Cond.selects RX10 yX10_could yX10_could ∈ BG := BG_at 1103 (by decide +kernel) rfl
theorem okV_X10_could : okV yX10_could cX10_could 5 (some .int) 4 := ⟨⟨wd_813, wd_497, by decide +kernel⟩, wd_814, wd_815⟩
theorem dL_law_583 : decode cL_law 583 = .ok (.pop, 1) := dLg_87 cL_law dLt_87 dLa_87 (k := 167) rfl
theorem dL_law_584 : decode cL_law 584 = .ok (.goto 431, 3) := dLg_87 cL_law dLt_87 dLa_87 (k := 168) rfl
theorem dL_law_587 : decode cL_law 587 = .ok (.aload_n 1, 1) := dLg_87 cL_law dLt_87 dLa_87 (k := 169) rfl
theorem dL_law_588 : decode cL_law 588 = .ok (.aload_n 0, 1) := dLg_87 cL_law dLt_87 dLa_87 (k := 170) rfl
theorem dL_law_589 : decode cL_law 589 = .ok (.iload_n 3, 1) := dLg_87 cL_law dLt_87 dLa_87 (k := 171) rfl
theorem dL_law_590 : decode cL_law 590 = .ok (.iconst 1, 1) := dLg_87 cL_law dLt_87 dLa_87 (k := 172) rfl
theorem dL_law_591 : decode cL_law 591 = .ok (.iadd, 1) := dLg_87 cL_law dLt_87 dLa_87 (k := 173) rfl
theorem dL_law_592 : decode cL_law 592 = .ok (.iaload, 1) := dLg_87 cL_law dLt_87 dLa_87 (k := 174) rfl
theorem dL_law_593 : decode cL_law 593 = .ok (.aload_n 0, 1) := dLg_87 cL_law dLt_87 dLa_87 (k := 175) rfl
theorem dL_law_594 : decode cL_law 594 = .ok (.iload_n 3, 1) := dLg_87 cL_law dLt_87 dLa_87 (k := 176) rfl
theorem dL_law_595 : decode cL_law 595 = .ok (.iconst 2, 1) := dLg_87 cL_law dLt_87 dLa_87 (k := 177) rfl
theorem dL_law_596 : decode cL_law 596 = .ok (.iadd, 1) := dLg_87 cL_law dLt_87 dLa_87 (k := 178) rfl
theorem dL_law_597 : decode cL_law 597 = .ok (.iaload, 1) := dLg_87 cL_law dLt_87 dLa_87 (k := 179) rfl
theorem dL_law_598 : decode cL_law 598 = .ok (.invokevirtual 78, 3) := dLg_87 cL_law dLt_87 dLa_87 (k := 180) rfl
theorem wd_816 : Cond.methodLink RL 78 yX9_bestTheme ∈ BG := BG_at 613 (by decide +kernel) rfl
theorem wd_817 : Cond.code yX9_bestTheme cX9_bestTheme 3 (some .int) ∈ BG := BG_at 616 (by decide +kernel) rfl
theorem wd_818 : Cond.instanceMethod yX9_bestTheme ∈ BG := BG_at 614 (by decide +kernel) rfl
theorem wd_819 : Cond.selects RX9 yX9_bestTheme yX9_bestTheme ∈ BG := BG_at 615 (by decide +kernel) rfl
theorem okV_X9_bestTheme : okV yX9_bestTheme cX9_bestTheme 3 (some .int) 2 := ⟨⟨wd_817, wd_71, by decide +kernel⟩, wd_818, wd_819⟩
theorem dL_law_601 : decode cL_law 601 = .ok (.pop, 1) := dLg_87 cL_law dLt_87 dLa_87 (k := 181) rfl
theorem dL_law_602 : decode cL_law 602 = .ok (.aload_n 2, 1) := dLg_87 cL_law dLt_87 dLa_87 (k := 182) rfl
theorem dL_law_603 : decode cL_law 603 = .ok (.aload_n 0, 1) := dLg_87 cL_law dLt_87 dLa_87 (k := 183) rfl
theorem dL_law_604 : decode cL_law 604 = .ok (.iload_n 3, 1) := dLg_87 cL_law dLt_87 dLa_87 (k := 184) rfl
theorem dL_law_605 : decode cL_law 605 = .ok (.iconst 1, 1) := dLg_87 cL_law dLt_87 dLa_87 (k := 185) rfl
theorem dL_law_606 : decode cL_law 606 = .ok (.iadd, 1) := dLg_87 cL_law dLt_87 dLa_87 (k := 186) rfl
theorem dL_law_607 : decode cL_law 607 = .ok (.iaload, 1) := dLg_87 cL_law dLt_87 dLa_87 (k := 187) rfl
theorem dL_law_608 : decode cL_law 608 = .ok (.aload_n 0, 1) := dLg_87 cL_law dLt_87 dLa_87 (k := 188) rfl
theorem dL_law_609 : decode cL_law 609 = .ok (.iload_n 3, 1) := dLg_87 cL_law dLt_87 dLa_87 (k := 189) rfl
theorem dL_law_610 : decode cL_law 610 = .ok (.iconst 2, 1) := dLg_87 cL_law dLt_87 dLa_87 (k := 190) rfl
theorem dL_law_611 : decode cL_law 611 = .ok (.iadd, 1) := dLg_87 cL_law dLt_87 dLa_87 (k := 191) rfl
theorem dL_law_612 : decode cL_law 612 = .ok (.iaload, 1) := dLg_87 cL_law dLt_87 dLa_87 (k := 192) rfl
theorem dL_law_613 : decode cL_law 613 = .ok (.invokevirtual 81, 3) := dLg_87 cL_law dLt_87 dLa_87 (k := 193) rfl
theorem wd_820 : Cond.methodLink RL 81 yX10_bestTheme ∈ BG := BG_at 1109 (by decide +kernel) rfl
theorem wd_821 : Cond.code yX10_bestTheme cX10_bestTheme 3 (some .int) ∈ BG := BG_at 1112 (by decide +kernel) rfl
theorem wd_822 : Cond.instanceMethod yX10_bestTheme ∈ BG := BG_at 1110 (by decide +kernel) rfl
theorem wd_823 : Cond.selects RX10 yX10_bestTheme yX10_bestTheme ∈ BG := BG_at 1111 (by decide +kernel) rfl
theorem okV_X10_bestTheme : okV yX10_bestTheme cX10_bestTheme 3 (some .int) 2 := ⟨⟨wd_821, wd_497, by decide +kernel⟩, wd_822, wd_823⟩
theorem dL_law_616 : decode cL_law 616 = .ok (.pop, 1) := dLg_87 cL_law dLt_87 dLa_87 (k := 194) rfl
theorem dL_law_617 : decode cL_law 617 = .ok (.goto 398, 3) := dLg_87 cL_law dLt_87 dLa_87 (k := 195) rfl
end
section
def Wx_send (cI cZ : ClassId) (xh : Nat) (v_x : Nat) (v_q1 : Int32) (v_q2 : Int32) (v_rd : Nat) (v_t : Nat) (v_d : Nat) (v_nw : Nat) (v_ps : Nat) (v_im : Nat) (v_is_ : Nat) (v_q10 : Int32) (v_bk : Nat) (v_q12 : Int32) (v_qr : Nat) (v_pr : Nat) (v_cv : Nat) (v_ft : Nat) (v_t0 : Int32) (v_t1 : Int32) (v_t2 : Int32) (v_t3 : Int32) (v_t4 : Int32) (v_ta : Nat) (v_tb : Nat) (v_tc : Nat) (v_td : Nat) (v_te : Nat) (v_nwc : Nat) (v_fn : Nat → Int32) (v_sh : Nat) (v_p1 : Int32) (v_p2 : Int32) (v_shc : Nat) (v_fsh : Nat → Int32) : va_W := [(xh, .inr (9, [.ref v_x, .int v_q1, .int v_q2, .ref v_rd, .ref v_t, .ref v_d, .ref v_nw, .ref v_ps, .ref v_im, .ref v_is_, .int v_q10, .ref v_bk, .int v_q12, .ref v_qr, .ref v_pr, .ref v_cv, .ref v_ft])), (v_t, .inr (8, [.int v_t0, .int v_t1, .int v_t2, .int v_t3, .int v_t4, .ref v_ta, .ref v_tb, .ref v_tc, .ref v_td, .ref v_te])), (v_nw, .inr (7, [.ref v_nwc])), (v_nwc, .inl (cI, 41, .inl v_fn)), (v_ps, .inr (2, [.ref v_sh, .int v_p1, .int v_p2])), (v_sh, .inr (6, [.int 20, .ref v_shc])), (v_shc, .inl (cI, 820, .inl v_fsh))]
def Wm_send (cI cZ : ClassId) (yh : Nat) (Rf : Nat → Nat) (G : Nat → Int32) (f0 : Nat → Int32) : va_W := [(yh, .inr (10, ML G Rf)), ((Rf 0), .inl (cI, 1302, .inl f0))]
set_option maxHeartbeats 4000000 in
set_option maxRecDepth 100000 in
theorem law_send {p : Program} {l : Launch} {e : Env} {s : State} {m : MethodId} {below : List Frame} {meth : Method} {c : Code} {D : va_G} {cI cZ : ClassId} {b : Nat} {xs : Nat → Int32} {L : Nat} (wr : va_W) (v_x : Nat) (v_q1 : Int32) (v_q2 : Int32) (v_rd : Nat) (v_t : Nat) (v_d : Nat) (v_nw : Nat) (v_ps : Nat) (v_im : Nat) (v_is_ : Nat) (v_q10 : Int32) (v_bk : Nat) (v_q12 : Int32) (v_qr : Nat) (v_pr : Nat) (v_cv : Nat) (v_ft : Nat) (v_t0 : Int32) (v_t1 : Int32) (v_t2 : Int32) (v_t3 : Int32) (v_t4 : Int32) (v_ta : Nat) (v_tb : Nat) (v_tc : Nat) (v_td : Nat) (v_te : Nat) (v_nwc : Nat) (v_fn : Nat → Int32) (v_sh : Nat) (v_p1 : Int32) (v_p2 : Int32) (v_shc : Nat) (v_fsh : Nat → Int32) (Rf : Nat → Nat) (G : Nat → Int32) (f0 : Nat → Int32) {xh yh : Nat} {iv : Int32} (C0 : lw_C p s m meth c b L xs) {H : Heap} {locs : List Loc} {ls : Array Slot} (hi1 : ¬ ((iv + 1) < 0 ∨ L ≤ (iv + 1 : Int32).toNatClampNeg)) (hi2 : ¬ ((iv + 2) < 0 ∨ L ≤ (iv + 2 : Int32).toNatClampNeg)) (hi3 : ¬ ((iv + 3) < 0 ∨ L ≤ (iv + 3 : Int32).toNatClampNeg)) (hi4 : ¬ ((iv + 4) < 0 ∨ L ≤ (iv + 4 : Int32).toNatClampNeg)) (hK : va_K D classes (TYS cI cZ) s) (hs : S_m_send G f0 (xs ((iv + 1) : Int32).toNatClampNeg) (xs ((iv + 2) : Int32).toNatClampNeg) (xs ((iv + 3) : Int32).toNatClampNeg)) (hP : va_P D classes ((Wx_send cI cZ xh v_x v_q1 v_q2 v_rd v_t v_d v_nw v_ps v_im v_is_ v_q10 v_bk v_q12 v_qr v_pr v_cv v_ft v_t0 v_t1 v_t2 v_t3 v_t4 v_ta v_tb v_tc v_td v_te v_nwc v_fn v_sh v_p1 v_p2 v_shc v_fsh) ++ ((Wm_send cI cZ yh Rf G f0) ++ wr)) H) (hD : va_D (lw_A s) ((Wx_send cI cZ xh v_x v_q1 v_q2 v_rd v_t v_d v_nw v_ps v_im v_is_ v_q10 v_bk v_q12 v_qr v_pr v_cv v_ft v_t0 v_t1 v_t2 v_t3 v_t4 v_ta v_tb v_tc v_td v_te v_nwc v_fn v_sh v_p1 v_p2 v_shc v_fsh) ++ ((Wm_send cI cZ yh Rf G f0) ++ wr))) (hS : va_S (lw_A s) s.heap H locs) (hl : lv_has ls 4 [(0, .ref b), (1, .ref xh), (2, .ref yh), (3, .int iv)]) (hnext : ∀ (rx : Int32) (x0 : (Nat → Int32)) (x1 : Int32) (x2 : Int32) (x3 : (Nat → Int32)) (ry : Int32) (y0 : (Nat → Int32)) (y1 : (Nat → Int32)) (H : Heap) (locs : List Loc) (ls : Array Slot), (rx, x0, x1, x2, x3) = (f_e_send_x9 v_q1 v_q2 v_q10 v_q12 v_t0 v_t1 v_t2 v_t3 v_t4 v_fn v_p1 v_p2 v_fsh (xs ((iv + 1) : Int32).toNatClampNeg) (xs ((iv + 2) : Int32).toNatClampNeg) (xs ((iv + 3) : Int32).toNatClampNeg)) → (ry, y0, y1) = (f_m_send G f0 (xs ((iv + 1) : Int32).toNatClampNeg) (xs ((iv + 2) : Int32).toNatClampNeg) (xs ((iv + 3) : Int32).toNatClampNeg)) → va_P D classes ((Wx_send cI cZ xh v_x v_q1 v_q2 v_rd v_t v_d v_nw v_ps v_im v_is_ v_q10 v_bk v_q12 v_qr v_pr v_cv v_ft v_t0 v_t1 v_t2 v_t3 v_t4 v_ta v_tb v_tc v_td v_te v_nwc x0 v_sh x1 x2 v_shc x3) ++ ((Wm_send cI cZ yh Rf y0 y1) ++ wr)) H → va_D (lw_A s) ((Wx_send cI cZ xh v_x v_q1 v_q2 v_rd v_t v_d v_nw v_ps v_im v_is_ v_q10 v_bk v_q12 v_qr v_pr v_cv v_ft v_t0 v_t1 v_t2 v_t3 v_t4 v_ta v_tb v_tc v_td v_te v_nwc x0 v_sh x1 x2 v_shc x3) ++ ((Wm_send cI cZ yh Rf y0 y1) ++ wr)) → va_S (lw_A s) s.heap H locs → lv_has ls 4 [(0, .ref b), (1, .ref xh), (2, .ref yh), (3, .int iv)] → W p l e room_1 s m #[Value.ref b] below meth c H locs 60 4269 (lw_Z below #[Value.ref b] s) (F0 m 1015 ls [])) : W p l e room_1 s m #[Value.ref b] below meth c H locs 60 4269 (lw_Z below #[Value.ref b] s) (F0 m 376 ls []) := by
  obtain ⟨hx, hb, hr, hml, hown, hts, hX, hbl, hlocks, hN⟩ := C0
  have hA : ∀ q, s.heap.size ≤ q → lw_A s q := fun _ h => h
  have hbA : ¬ lw_A s b := Nat.not_le.mpr hbl
  refine lv_aload_n hx hb dL_law_376 rfl (lv_at hl 1 rfl) ?_
  refine lv_aload_n hx hb dL_law_377 rfl (lv_at hl 0 rfl) ?_
  refine lv_iload_n hx hb dL_law_378 rfl (lv_at hl 3 rfl) ?_
  refine lv_iconst (v := 1) hx hb dL_law_379 (by decide) ?_
  refine lv_iadd hx hb dL_law_380 ?_
  refine va_sld hx hb hX hbl hbA hS hi1 dL_law_381 ?_
  refine lv_aload_n hx hb dL_law_382 rfl (lv_at hl 0 rfl) ?_
  refine lv_iload_n hx hb dL_law_383 rfl (lv_at hl 3 rfl) ?_
  refine lv_iconst (v := 2) hx hb dL_law_384 (by decide) ?_
  refine lv_iadd hx hb dL_law_385 ?_
  refine va_sld hx hb hX hbl hbA hS hi2 dL_law_386 ?_
  refine lv_aload_n hx hb dL_law_387 rfl (lv_at hl 0 rfl) ?_
  refine lv_iload_n hx hb dL_law_388 rfl (lv_at hl 3 rfl) ?_
  refine lv_iconst (v := 3) hx hb dL_law_389 (by decide) ?_
  refine lv_iadd hx hb dL_law_390 ?_
  refine va_sld hx hb hX hbl hbA hS hi3 dL_law_391 ?_
  refine cVa (wc := (Wx_send cI cZ xh v_x v_q1 v_q2 v_rd v_t v_d v_nw v_ps v_im v_is_ v_q10 v_bk v_q12 v_qr v_pr v_cv v_ft v_t0 v_t1 v_t2 v_t3 v_t4 v_ta v_tb v_tc v_td v_te v_nwc v_fn v_sh v_p1 v_p2 v_shc v_fsh)) (wr := ((Wm_send cI cZ yh Rf G f0) ++ wr)) (rest := []) (e_send_x9 xh v_x v_rd v_t v_d v_nw v_ps v_im v_is_ v_bk v_qr v_pr v_cv v_ft v_ta v_tb v_tc v_td v_te v_nwc v_sh v_shc v_q1 v_q2 v_q10 v_q12 v_t0 v_t1 v_t2 v_t3 v_t4 v_fn v_p1 v_p2 v_fsh (xs ((iv + 1) : Int32).toNatClampNeg) (xs ((iv + 2) : Int32).toNatClampNeg) (xs ((iv + 3) : Int32).toNatClampNeg)) okV_X9_send wd_760 hx hb hml hown hts hK hP hD hS hA hN hl.1 rfl rfl rfl (Nat.le_of_ble_eq_true rfl) (Nat.le_of_ble_eq_true rfl) (Nat.le_of_ble_eq_true rfl) (Nat.le_of_ble_eq_true rfl) (Nat.le_of_ble_eq_true rfl) dL_law_392 (fun rx u1 H locs ex hP hD hS => ?_)
  obtain ⟨x0, x1, x2, x3⟩ := u1
  replace ex : (rx, x0, x1, x2, x3) = (f_e_send_x9 v_q1 v_q2 v_q10 v_q12 v_t0 v_t1 v_t2 v_t3 v_t4 v_fn v_p1 v_p2 v_fsh (xs ((iv + 1) : Int32).toNatClampNeg) (xs ((iv + 2) : Int32).toNatClampNeg) (xs ((iv + 3) : Int32).toNatClampNeg)) := ex
  have hP : va_P D classes (((Wm_send cI cZ yh Rf G f0) ++ wr) ++ (Wx_send cI cZ xh v_x v_q1 v_q2 v_rd v_t v_d v_nw v_ps v_im v_is_ v_q10 v_bk v_q12 v_qr v_pr v_cv v_ft v_t0 v_t1 v_t2 v_t3 v_t4 v_ta v_tb v_tc v_td v_te v_nwc x0 v_sh x1 x2 v_shc x3)) H := hP
  have hD : va_D (lw_A s) (((Wm_send cI cZ yh Rf G f0) ++ wr) ++ (Wx_send cI cZ xh v_x v_q1 v_q2 v_rd v_t v_d v_nw v_ps v_im v_is_ v_q10 v_bk v_q12 v_qr v_pr v_cv v_ft v_t0 v_t1 v_t2 v_t3 v_t4 v_ta v_tb v_tc v_td v_te v_nwc x0 v_sh x1 x2 v_shc x3)) := hD
  rw [List.append_assoc] at hP hD
  refine lv_pop hx hb dL_law_395 rfl ?_
  refine lv_aload_n hx hb dL_law_396 rfl (lv_at hl 2 rfl) ?_
  refine lv_aload_n hx hb dL_law_397 rfl (lv_at hl 0 rfl) ?_
  refine lv_iload_n hx hb dL_law_398 rfl (lv_at hl 3 rfl) ?_
  refine lv_iconst (v := 1) hx hb dL_law_399 (by decide) ?_
  refine lv_iadd hx hb dL_law_400 ?_
  refine va_sld hx hb hX hbl hbA hS hi1 dL_law_401 ?_
  refine lv_aload_n hx hb dL_law_402 rfl (lv_at hl 0 rfl) ?_
  refine lv_iload_n hx hb dL_law_403 rfl (lv_at hl 3 rfl) ?_
  refine lv_iconst (v := 2) hx hb dL_law_404 (by decide) ?_
  refine lv_iadd hx hb dL_law_405 ?_
  refine va_sld hx hb hX hbl hbA hS hi2 dL_law_406 ?_
  refine lv_aload_n hx hb dL_law_407 rfl (lv_at hl 0 rfl) ?_
  refine lv_iload_n hx hb dL_law_408 rfl (lv_at hl 3 rfl) ?_
  refine lv_iconst (v := 3) hx hb dL_law_409 (by decide) ?_
  refine lv_iadd hx hb dL_law_410 ?_
  refine va_sld hx hb hX hbl hbA hS hi3 dL_law_411 ?_
  refine cVa (wc := (Wm_send cI cZ yh Rf G f0)) (wr := (wr ++ (Wx_send cI cZ xh v_x v_q1 v_q2 v_rd v_t v_d v_nw v_ps v_im v_is_ v_q10 v_bk v_q12 v_qr v_pr v_cv v_ft v_t0 v_t1 v_t2 v_t3 v_t4 v_ta v_tb v_tc v_td v_te v_nwc x0 v_sh x1 x2 v_shc x3))) (rest := []) (m_send Rf yh G f0 (xs ((iv + 1) : Int32).toNatClampNeg) (xs ((iv + 2) : Int32).toNatClampNeg) (xs ((iv + 3) : Int32).toNatClampNeg) hs) okV_X10_send wd_764 hx hb hml hown hts hK hP hD hS hA hN hl.1 rfl rfl rfl (Nat.le_of_ble_eq_true rfl) (Nat.le_of_ble_eq_true rfl) (Nat.le_of_ble_eq_true rfl) (Nat.le_of_ble_eq_true rfl) (Nat.le_of_ble_eq_true rfl) dL_law_412 (fun ry u2 H locs em hP hD hS => ?_)
  obtain ⟨y0, y1⟩ := u2
  replace em : (ry, y0, y1) = (f_m_send G f0 (xs ((iv + 1) : Int32).toNatClampNeg) (xs ((iv + 2) : Int32).toNatClampNeg) (xs ((iv + 3) : Int32).toNatClampNeg)) := em
  have hP : va_P D classes ((wr ++ (Wx_send cI cZ xh v_x v_q1 v_q2 v_rd v_t v_d v_nw v_ps v_im v_is_ v_q10 v_bk v_q12 v_qr v_pr v_cv v_ft v_t0 v_t1 v_t2 v_t3 v_t4 v_ta v_tb v_tc v_td v_te v_nwc x0 v_sh x1 x2 v_shc x3)) ++ (Wm_send cI cZ yh Rf y0 y1)) H := hP
  have hD : va_D (lw_A s) ((wr ++ (Wx_send cI cZ xh v_x v_q1 v_q2 v_rd v_t v_d v_nw v_ps v_im v_is_ v_q10 v_bk v_q12 v_qr v_pr v_cv v_ft v_t0 v_t1 v_t2 v_t3 v_t4 v_ta v_tb v_tc v_td v_te v_nwc x0 v_sh x1 x2 v_shc x3)) ++ (Wm_send cI cZ yh Rf y0 y1)) := hD
  refine lv_pop hx hb dL_law_415 rfl ?_
  refine lv_goto (tgt := 1015) hx hb dL_law_416 (by decide) ?_
  exact hnext rx x0 x1 x2 x3 ry y0 y1 _ _ _ ex em (permP rot hP) (permD rot hD) hS hl
def Wx_home (cI cZ : ClassId) (xh : Nat) (v_x : Nat) (v_q1 : Int32) (v_q2 : Int32) (v_rd : Nat) (v_t : Nat) (v_d : Nat) (v_nw : Nat) (v_ps : Nat) (v_im : Nat) (v_is_ : Nat) (v_q10 : Int32) (v_bk : Nat) (v_q12 : Int32) (v_qr : Nat) (v_pr : Nat) (v_cv : Nat) (v_ft : Nat) (v_t0 : Int32) (v_t1 : Int32) (v_t2 : Int32) (v_t3 : Int32) (v_t4 : Int32) (v_ta : Nat) (v_tb : Nat) (v_tc : Nat) (v_td : Nat) (v_te : Nat) (v_nwc : Nat) (v_fn : Nat → Int32) (v_sh : Nat) (v_p1 : Int32) (v_p2 : Int32) (v_shc : Nat) (v_fsh : Nat → Int32) : va_W := [(xh, .inr (9, [.ref v_x, .int v_q1, .int v_q2, .ref v_rd, .ref v_t, .ref v_d, .ref v_nw, .ref v_ps, .ref v_im, .ref v_is_, .int v_q10, .ref v_bk, .int v_q12, .ref v_qr, .ref v_pr, .ref v_cv, .ref v_ft])), (v_t, .inr (8, [.int v_t0, .int v_t1, .int v_t2, .int v_t3, .int v_t4, .ref v_ta, .ref v_tb, .ref v_tc, .ref v_td, .ref v_te])), (v_nw, .inr (7, [.ref v_nwc])), (v_nwc, .inl (cI, 41, .inl v_fn)), (v_ps, .inr (2, [.ref v_sh, .int v_p1, .int v_p2])), (v_sh, .inr (6, [.int 20, .ref v_shc])), (v_shc, .inl (cI, 820, .inl v_fsh))]
def Wm_home (cI cZ : ClassId) (yh : Nat) (Rf : Nat → Nat) (G : Nat → Int32) (f0 : Nat → Int32) : va_W := [(yh, .inr (10, ML G Rf)), ((Rf 0), .inl (cI, 1302, .inl f0))]
set_option maxHeartbeats 4000000 in
set_option maxRecDepth 100000 in
theorem law_home {p : Program} {l : Launch} {e : Env} {s : State} {m : MethodId} {below : List Frame} {meth : Method} {c : Code} {D : va_G} {cI cZ : ClassId} {b : Nat} {xs : Nat → Int32} {L : Nat} (wr : va_W) (v_x : Nat) (v_q1 : Int32) (v_q2 : Int32) (v_rd : Nat) (v_t : Nat) (v_d : Nat) (v_nw : Nat) (v_ps : Nat) (v_im : Nat) (v_is_ : Nat) (v_q10 : Int32) (v_bk : Nat) (v_q12 : Int32) (v_qr : Nat) (v_pr : Nat) (v_cv : Nat) (v_ft : Nat) (v_t0 : Int32) (v_t1 : Int32) (v_t2 : Int32) (v_t3 : Int32) (v_t4 : Int32) (v_ta : Nat) (v_tb : Nat) (v_tc : Nat) (v_td : Nat) (v_te : Nat) (v_nwc : Nat) (v_fn : Nat → Int32) (v_sh : Nat) (v_p1 : Int32) (v_p2 : Int32) (v_shc : Nat) (v_fsh : Nat → Int32) (Rf : Nat → Nat) (G : Nat → Int32) (f0 : Nat → Int32) {xh yh : Nat} {iv : Int32} (C0 : lw_C p s m meth c b L xs) {H : Heap} {locs : List Loc} {ls : Array Slot} (hi1 : ¬ ((iv + 1) < 0 ∨ L ≤ (iv + 1 : Int32).toNatClampNeg)) (hi2 : ¬ ((iv + 2) < 0 ∨ L ≤ (iv + 2 : Int32).toNatClampNeg)) (hi3 : ¬ ((iv + 3) < 0 ∨ L ≤ (iv + 3 : Int32).toNatClampNeg)) (hi4 : ¬ ((iv + 4) < 0 ∨ L ≤ (iv + 4 : Int32).toNatClampNeg)) (hK : va_K D classes (TYS cI cZ) s) (hs : S_m_home G f0 (xs ((iv + 1) : Int32).toNatClampNeg)) (hP : va_P D classes ((Wx_home cI cZ xh v_x v_q1 v_q2 v_rd v_t v_d v_nw v_ps v_im v_is_ v_q10 v_bk v_q12 v_qr v_pr v_cv v_ft v_t0 v_t1 v_t2 v_t3 v_t4 v_ta v_tb v_tc v_td v_te v_nwc v_fn v_sh v_p1 v_p2 v_shc v_fsh) ++ ((Wm_home cI cZ yh Rf G f0) ++ wr)) H) (hD : va_D (lw_A s) ((Wx_home cI cZ xh v_x v_q1 v_q2 v_rd v_t v_d v_nw v_ps v_im v_is_ v_q10 v_bk v_q12 v_qr v_pr v_cv v_ft v_t0 v_t1 v_t2 v_t3 v_t4 v_ta v_tb v_tc v_td v_te v_nwc v_fn v_sh v_p1 v_p2 v_shc v_fsh) ++ ((Wm_home cI cZ yh Rf G f0) ++ wr))) (hS : va_S (lw_A s) s.heap H locs) (hl : lv_has ls 4 [(0, .ref b), (1, .ref xh), (2, .ref yh), (3, .int iv)]) (hnext : ∀ (rx : Int32) (x0 : (Nat → Int32)) (x1 : Int32) (x2 : Int32) (x3 : (Nat → Int32)) (ry : Int32) (y0 : (Nat → Int32)) (y1 : (Nat → Int32)) (H : Heap) (locs : List Loc) (ls : Array Slot), (rx, x0, x1, x2, x3) = (f_e_home_x9 v_q1 v_q2 v_q10 v_q12 v_t0 v_t1 v_t2 v_t3 v_t4 v_fn v_p1 v_p2 v_fsh (xs ((iv + 1) : Int32).toNatClampNeg)) → (ry, y0, y1) = (f_m_home G f0 (xs ((iv + 1) : Int32).toNatClampNeg)) → va_P D classes ((Wx_home cI cZ xh v_x v_q1 v_q2 v_rd v_t v_d v_nw v_ps v_im v_is_ v_q10 v_bk v_q12 v_qr v_pr v_cv v_ft v_t0 v_t1 v_t2 v_t3 v_t4 v_ta v_tb v_tc v_td v_te v_nwc x0 v_sh x1 x2 v_shc x3) ++ ((Wm_home cI cZ yh Rf y0 y1) ++ wr)) H → va_D (lw_A s) ((Wx_home cI cZ xh v_x v_q1 v_q2 v_rd v_t v_d v_nw v_ps v_im v_is_ v_q10 v_bk v_q12 v_qr v_pr v_cv v_ft v_t0 v_t1 v_t2 v_t3 v_t4 v_ta v_tb v_tc v_td v_te v_nwc x0 v_sh x1 x2 v_shc x3) ++ ((Wm_home cI cZ yh Rf y0 y1) ++ wr)) → va_S (lw_A s) s.heap H locs → lv_has ls 4 [(0, .ref b), (1, .ref xh), (2, .ref yh), (3, .int iv)] → W p l e room_1 s m #[Value.ref b] below meth c H locs 60 4269 (lw_Z below #[Value.ref b] s) (F0 m 1015 ls [])) : W p l e room_1 s m #[Value.ref b] below meth c H locs 60 4269 (lw_Z below #[Value.ref b] s) (F0 m 419 ls []) := by
  obtain ⟨hx, hb, hr, hml, hown, hts, hX, hbl, hlocks, hN⟩ := C0
  have hA : ∀ q, s.heap.size ≤ q → lw_A s q := fun _ h => h
  have hbA : ¬ lw_A s b := Nat.not_le.mpr hbl
  refine lv_aload_n hx hb dL_law_419 rfl (lv_at hl 1 rfl) ?_
  refine lv_aload_n hx hb dL_law_420 rfl (lv_at hl 0 rfl) ?_
  refine lv_iload_n hx hb dL_law_421 rfl (lv_at hl 3 rfl) ?_
  refine lv_iconst (v := 1) hx hb dL_law_422 (by decide) ?_
  refine lv_iadd hx hb dL_law_423 ?_
  refine va_sld hx hb hX hbl hbA hS hi1 dL_law_424 ?_
  refine cVa (wc := (Wx_home cI cZ xh v_x v_q1 v_q2 v_rd v_t v_d v_nw v_ps v_im v_is_ v_q10 v_bk v_q12 v_qr v_pr v_cv v_ft v_t0 v_t1 v_t2 v_t3 v_t4 v_ta v_tb v_tc v_td v_te v_nwc v_fn v_sh v_p1 v_p2 v_shc v_fsh)) (wr := ((Wm_home cI cZ yh Rf G f0) ++ wr)) (rest := []) (e_home_x9 xh v_x v_rd v_t v_d v_nw v_ps v_im v_is_ v_bk v_qr v_pr v_cv v_ft v_ta v_tb v_tc v_td v_te v_nwc v_sh v_shc v_q1 v_q2 v_q10 v_q12 v_t0 v_t1 v_t2 v_t3 v_t4 v_fn v_p1 v_p2 v_fsh (xs ((iv + 1) : Int32).toNatClampNeg)) okV_X9_home wd_768 hx hb hml hown hts hK hP hD hS hA hN hl.1 rfl rfl rfl (Nat.le_of_ble_eq_true rfl) (Nat.le_of_ble_eq_true rfl) (Nat.le_of_ble_eq_true rfl) (Nat.le_of_ble_eq_true rfl) (Nat.le_of_ble_eq_true rfl) dL_law_425 (fun rx u1 H locs ex hP hD hS => ?_)
  obtain ⟨x0, x1, x2, x3⟩ := u1
  replace ex : (rx, x0, x1, x2, x3) = (f_e_home_x9 v_q1 v_q2 v_q10 v_q12 v_t0 v_t1 v_t2 v_t3 v_t4 v_fn v_p1 v_p2 v_fsh (xs ((iv + 1) : Int32).toNatClampNeg)) := ex
  have hP : va_P D classes (((Wm_home cI cZ yh Rf G f0) ++ wr) ++ (Wx_home cI cZ xh v_x v_q1 v_q2 v_rd v_t v_d v_nw v_ps v_im v_is_ v_q10 v_bk v_q12 v_qr v_pr v_cv v_ft v_t0 v_t1 v_t2 v_t3 v_t4 v_ta v_tb v_tc v_td v_te v_nwc x0 v_sh x1 x2 v_shc x3)) H := hP
  have hD : va_D (lw_A s) (((Wm_home cI cZ yh Rf G f0) ++ wr) ++ (Wx_home cI cZ xh v_x v_q1 v_q2 v_rd v_t v_d v_nw v_ps v_im v_is_ v_q10 v_bk v_q12 v_qr v_pr v_cv v_ft v_t0 v_t1 v_t2 v_t3 v_t4 v_ta v_tb v_tc v_td v_te v_nwc x0 v_sh x1 x2 v_shc x3)) := hD
  rw [List.append_assoc] at hP hD
  refine lv_pop hx hb dL_law_428 rfl ?_
  refine lv_aload_n hx hb dL_law_429 rfl (lv_at hl 2 rfl) ?_
  refine lv_aload_n hx hb dL_law_430 rfl (lv_at hl 0 rfl) ?_
  refine lv_iload_n hx hb dL_law_431 rfl (lv_at hl 3 rfl) ?_
  refine lv_iconst (v := 1) hx hb dL_law_432 (by decide) ?_
  refine lv_iadd hx hb dL_law_433 ?_
  refine va_sld hx hb hX hbl hbA hS hi1 dL_law_434 ?_
  refine cVa (wc := (Wm_home cI cZ yh Rf G f0)) (wr := (wr ++ (Wx_home cI cZ xh v_x v_q1 v_q2 v_rd v_t v_d v_nw v_ps v_im v_is_ v_q10 v_bk v_q12 v_qr v_pr v_cv v_ft v_t0 v_t1 v_t2 v_t3 v_t4 v_ta v_tb v_tc v_td v_te v_nwc x0 v_sh x1 x2 v_shc x3))) (rest := []) (m_home Rf yh G f0 (xs ((iv + 1) : Int32).toNatClampNeg) hs) okV_X10_home wd_772 hx hb hml hown hts hK hP hD hS hA hN hl.1 rfl rfl rfl (Nat.le_of_ble_eq_true rfl) (Nat.le_of_ble_eq_true rfl) (Nat.le_of_ble_eq_true rfl) (Nat.le_of_ble_eq_true rfl) (Nat.le_of_ble_eq_true rfl) dL_law_435 (fun ry u2 H locs em hP hD hS => ?_)
  obtain ⟨y0, y1⟩ := u2
  replace em : (ry, y0, y1) = (f_m_home G f0 (xs ((iv + 1) : Int32).toNatClampNeg)) := em
  have hP : va_P D classes ((wr ++ (Wx_home cI cZ xh v_x v_q1 v_q2 v_rd v_t v_d v_nw v_ps v_im v_is_ v_q10 v_bk v_q12 v_qr v_pr v_cv v_ft v_t0 v_t1 v_t2 v_t3 v_t4 v_ta v_tb v_tc v_td v_te v_nwc x0 v_sh x1 x2 v_shc x3)) ++ (Wm_home cI cZ yh Rf y0 y1)) H := hP
  have hD : va_D (lw_A s) ((wr ++ (Wx_home cI cZ xh v_x v_q1 v_q2 v_rd v_t v_d v_nw v_ps v_im v_is_ v_q10 v_bk v_q12 v_qr v_pr v_cv v_ft v_t0 v_t1 v_t2 v_t3 v_t4 v_ta v_tb v_tc v_td v_te v_nwc x0 v_sh x1 x2 v_shc x3)) ++ (Wm_home cI cZ yh Rf y0 y1)) := hD
  refine lv_pop hx hb dL_law_438 rfl ?_
  refine lv_goto (tgt := 1015) hx hb dL_law_439 (by decide) ?_
  exact hnext rx x0 x1 x2 x3 ry y0 y1 _ _ _ ex em (permP rot hP) (permD rot hD) hS hl
def Wx_pass (cI cZ : ClassId) (xh : Nat) (v_x : Nat) (v_q1 : Int32) (v_q2 : Int32) (v_rd : Nat) (v_t : Nat) (v_d : Nat) (v_nw : Nat) (v_ps : Nat) (v_im : Nat) (v_is_ : Nat) (v_q10 : Int32) (v_bk : Nat) (v_q12 : Int32) (v_qr : Nat) (v_pr : Nat) (v_cv : Nat) (v_ft : Nat) (v_t0 : Int32) (v_t1 : Int32) (v_t2 : Int32) (v_t3 : Int32) (v_t4 : Int32) (v_ta : Nat) (v_tb : Nat) (v_tc : Nat) (v_td : Nat) (v_te : Nat) (v_fta : Nat → Int32) (v_ftc : Nat → Int32) (v_ftd : Nat → Int32) (v_fte : Nat → Int32) (v_nwc : Nat) (v_fn : Nat → Int32) (v_sh : Nat) (v_p1 : Int32) (v_p2 : Int32) (v_shc : Nat) (v_fsh : Nat → Int32) (v_k0 : Int32) (v_k1 : Int32) (v_k2 : Int32) (v_k3 : Int32) (v_k4 : Int32) : va_W := [(xh, .inr (9, [.ref v_x, .int v_q1, .int v_q2, .ref v_rd, .ref v_t, .ref v_d, .ref v_nw, .ref v_ps, .ref v_im, .ref v_is_, .int v_q10, .ref v_bk, .int v_q12, .ref v_qr, .ref v_pr, .ref v_cv, .ref v_ft])), (v_qr, .inr (4, [.int v_k0, .int v_k1, .int v_k2, .int v_k3, .int v_k4])), (v_t, .inr (8, [.int v_t0, .int v_t1, .int v_t2, .int v_t3, .int v_t4, .ref v_ta, .ref v_tb, .ref v_tc, .ref v_td, .ref v_te])), (v_ta, .inl (cI, 6, .inl v_fta)), (v_tc, .inl (cI, 30, .inl v_ftc)), (v_td, .inl (cI, 7, .inl v_ftd)), (v_te, .inl (cI, 7, .inl v_fte)), (v_nw, .inr (7, [.ref v_nwc])), (v_nwc, .inl (cI, 41, .inl v_fn)), (v_ps, .inr (2, [.ref v_sh, .int v_p1, .int v_p2])), (v_sh, .inr (6, [.int 20, .ref v_shc])), (v_shc, .inl (cI, 820, .inl v_fsh))]
def Wm_pass (cI cZ : ClassId) (yh : Nat) (Rf : Nat → Nat) (G : Nat → Int32) (f0 : Nat → Int32) (f8 : Nat → Int32) (f10 : Nat → Int32) (f11 : Nat → Int32) (f12 : Nat → Int32) : va_W := [(yh, .inr (10, ML G Rf)), ((Rf 0), .inl (cI, 1302, .inl f0)), ((Rf 10), .inl (cI, 30, .inl f10)), ((Rf 8), .inl (cI, 6, .inl f8)), ((Rf 11), .inl (cI, 7, .inl f11)), ((Rf 12), .inl (cI, 7, .inl f12))]
set_option maxHeartbeats 4000000 in
set_option maxRecDepth 100000 in
theorem law_pass {p : Program} {l : Launch} {e : Env} {s : State} {m : MethodId} {below : List Frame} {meth : Method} {c : Code} {D : va_G} {cI cZ : ClassId} {b : Nat} {xs : Nat → Int32} {L : Nat} (wr : va_W) (v_x : Nat) (v_q1 : Int32) (v_q2 : Int32) (v_rd : Nat) (v_t : Nat) (v_d : Nat) (v_nw : Nat) (v_ps : Nat) (v_im : Nat) (v_is_ : Nat) (v_q10 : Int32) (v_bk : Nat) (v_q12 : Int32) (v_qr : Nat) (v_pr : Nat) (v_cv : Nat) (v_ft : Nat) (v_t0 : Int32) (v_t1 : Int32) (v_t2 : Int32) (v_t3 : Int32) (v_t4 : Int32) (v_ta : Nat) (v_tb : Nat) (v_tc : Nat) (v_td : Nat) (v_te : Nat) (v_fta : Nat → Int32) (v_ftc : Nat → Int32) (v_ftd : Nat → Int32) (v_fte : Nat → Int32) (v_nwc : Nat) (v_fn : Nat → Int32) (v_sh : Nat) (v_p1 : Int32) (v_p2 : Int32) (v_shc : Nat) (v_fsh : Nat → Int32) (v_k0 : Int32) (v_k1 : Int32) (v_k2 : Int32) (v_k3 : Int32) (v_k4 : Int32) (Rf : Nat → Nat) (G : Nat → Int32) (f0 : Nat → Int32) (f8 : Nat → Int32) (f10 : Nat → Int32) (f11 : Nat → Int32) (f12 : Nat → Int32) {xh yh : Nat} {iv : Int32} (C0 : lw_C p s m meth c b L xs) {H : Heap} {locs : List Loc} {ls : Array Slot} (hi1 : ¬ ((iv + 1) < 0 ∨ L ≤ (iv + 1 : Int32).toNatClampNeg)) (hi2 : ¬ ((iv + 2) < 0 ∨ L ≤ (iv + 2 : Int32).toNatClampNeg)) (hi3 : ¬ ((iv + 3) < 0 ∨ L ≤ (iv + 3 : Int32).toNatClampNeg)) (hi4 : ¬ ((iv + 4) < 0 ∨ L ≤ (iv + 4 : Int32).toNatClampNeg)) (hK : va_K D classes (TYS cI cZ) s) (hs : S_m_pass G f0 f10 f8 f11 f12 (xs ((iv + 1) : Int32).toNatClampNeg)) (hP : va_P D classes ((Wx_pass cI cZ xh v_x v_q1 v_q2 v_rd v_t v_d v_nw v_ps v_im v_is_ v_q10 v_bk v_q12 v_qr v_pr v_cv v_ft v_t0 v_t1 v_t2 v_t3 v_t4 v_ta v_tb v_tc v_td v_te v_fta v_ftc v_ftd v_fte v_nwc v_fn v_sh v_p1 v_p2 v_shc v_fsh v_k0 v_k1 v_k2 v_k3 v_k4) ++ ((Wm_pass cI cZ yh Rf G f0 f8 f10 f11 f12) ++ wr)) H) (hD : va_D (lw_A s) ((Wx_pass cI cZ xh v_x v_q1 v_q2 v_rd v_t v_d v_nw v_ps v_im v_is_ v_q10 v_bk v_q12 v_qr v_pr v_cv v_ft v_t0 v_t1 v_t2 v_t3 v_t4 v_ta v_tb v_tc v_td v_te v_fta v_ftc v_ftd v_fte v_nwc v_fn v_sh v_p1 v_p2 v_shc v_fsh v_k0 v_k1 v_k2 v_k3 v_k4) ++ ((Wm_pass cI cZ yh Rf G f0 f8 f10 f11 f12) ++ wr))) (hS : va_S (lw_A s) s.heap H locs) (hl : lv_has ls 4 [(0, .ref b), (1, .ref xh), (2, .ref yh), (3, .int iv)]) (hnext : ∀ (rx : Int32) (x0 : Int32) (x1 : Int32) (x2 : Int32) (x3 : Int32) (x4 : Int32) (x5 : (Nat → Int32)) (x6 : Int32) (x7 : Int32) (x8 : (Nat → Int32)) (ry : Int32) (y0 : (Nat → Int32)) (y1 : (Nat → Int32)) (H : Heap) (locs : List Loc) (ls : Array Slot), (rx, x0, x1, x2, x3, x4, x5, x6, x7, x8) = (f_e_pass_x9 v_q1 v_q2 v_q10 v_q12 v_k0 v_k1 v_k2 v_k3 v_k4 v_t0 v_t1 v_t2 v_t3 v_t4 v_fta v_ftc v_ftd v_fte v_fn v_p1 v_p2 v_fsh (xs ((iv + 1) : Int32).toNatClampNeg)) → (ry, y0, y1) = (f_m_pass G f0 f10 f8 f11 f12 (xs ((iv + 1) : Int32).toNatClampNeg)) → va_P D classes ((Wx_pass cI cZ xh v_x v_q1 v_q2 v_rd v_t v_d v_nw v_ps v_im v_is_ v_q10 v_bk v_q12 v_qr v_pr v_cv v_ft v_t0 v_t1 v_t2 v_t3 v_t4 v_ta v_tb v_tc v_td v_te v_fta v_ftc v_ftd v_fte v_nwc x5 v_sh x6 x7 v_shc x8 x0 x1 x2 x3 x4) ++ ((Wm_pass cI cZ yh Rf y0 y1 f8 f10 f11 f12) ++ wr)) H → va_D (lw_A s) ((Wx_pass cI cZ xh v_x v_q1 v_q2 v_rd v_t v_d v_nw v_ps v_im v_is_ v_q10 v_bk v_q12 v_qr v_pr v_cv v_ft v_t0 v_t1 v_t2 v_t3 v_t4 v_ta v_tb v_tc v_td v_te v_fta v_ftc v_ftd v_fte v_nwc x5 v_sh x6 x7 v_shc x8 x0 x1 x2 x3 x4) ++ ((Wm_pass cI cZ yh Rf y0 y1 f8 f10 f11 f12) ++ wr)) → va_S (lw_A s) s.heap H locs → lv_has ls 4 [(0, .ref b), (1, .ref xh), (2, .ref yh), (3, .int iv)] → W p l e room_1 s m #[Value.ref b] below meth c H locs 60 4269 (lw_Z below #[Value.ref b] s) (F0 m 1015 ls [])) : W p l e room_1 s m #[Value.ref b] below meth c H locs 60 4269 (lw_Z below #[Value.ref b] s) (F0 m 442 ls []) := by
  obtain ⟨hx, hb, hr, hml, hown, hts, hX, hbl, hlocks, hN⟩ := C0
  have hA : ∀ q, s.heap.size ≤ q → lw_A s q := fun _ h => h
  have hbA : ¬ lw_A s b := Nat.not_le.mpr hbl
  refine lv_aload_n hx hb dL_law_442 rfl (lv_at hl 1 rfl) ?_
  refine lv_aload_n hx hb dL_law_443 rfl (lv_at hl 0 rfl) ?_
  refine lv_iload_n hx hb dL_law_444 rfl (lv_at hl 3 rfl) ?_
  refine lv_iconst (v := 1) hx hb dL_law_445 (by decide) ?_
  refine lv_iadd hx hb dL_law_446 ?_
  refine va_sld hx hb hX hbl hbA hS hi1 dL_law_447 ?_
  refine cVa (wc := (Wx_pass cI cZ xh v_x v_q1 v_q2 v_rd v_t v_d v_nw v_ps v_im v_is_ v_q10 v_bk v_q12 v_qr v_pr v_cv v_ft v_t0 v_t1 v_t2 v_t3 v_t4 v_ta v_tb v_tc v_td v_te v_fta v_ftc v_ftd v_fte v_nwc v_fn v_sh v_p1 v_p2 v_shc v_fsh v_k0 v_k1 v_k2 v_k3 v_k4)) (wr := ((Wm_pass cI cZ yh Rf G f0 f8 f10 f11 f12) ++ wr)) (rest := []) (e_pass_x9 xh v_x v_rd v_t v_d v_nw v_ps v_im v_is_ v_bk v_qr v_pr v_cv v_ft v_ta v_tb v_tc v_td v_te v_nwc v_sh v_shc v_q1 v_q2 v_q10 v_q12 v_k0 v_k1 v_k2 v_k3 v_k4 v_t0 v_t1 v_t2 v_t3 v_t4 v_fta v_ftc v_ftd v_fte v_fn v_p1 v_p2 v_fsh (xs ((iv + 1) : Int32).toNatClampNeg)) okV_X9_pass wd_776 hx hb hml hown hts hK hP hD hS hA hN hl.1 rfl rfl rfl (Nat.le_of_ble_eq_true rfl) (Nat.le_of_ble_eq_true rfl) (Nat.le_of_ble_eq_true rfl) (Nat.le_of_ble_eq_true rfl) (Nat.le_of_ble_eq_true rfl) dL_law_448 (fun rx u1 H locs ex hP hD hS => ?_)
  obtain ⟨x0, x1, x2, x3, x4, x5, x6, x7, x8⟩ := u1
  replace ex : (rx, x0, x1, x2, x3, x4, x5, x6, x7, x8) = (f_e_pass_x9 v_q1 v_q2 v_q10 v_q12 v_k0 v_k1 v_k2 v_k3 v_k4 v_t0 v_t1 v_t2 v_t3 v_t4 v_fta v_ftc v_ftd v_fte v_fn v_p1 v_p2 v_fsh (xs ((iv + 1) : Int32).toNatClampNeg)) := ex
  have hP : va_P D classes (((Wm_pass cI cZ yh Rf G f0 f8 f10 f11 f12) ++ wr) ++ (Wx_pass cI cZ xh v_x v_q1 v_q2 v_rd v_t v_d v_nw v_ps v_im v_is_ v_q10 v_bk v_q12 v_qr v_pr v_cv v_ft v_t0 v_t1 v_t2 v_t3 v_t4 v_ta v_tb v_tc v_td v_te v_fta v_ftc v_ftd v_fte v_nwc x5 v_sh x6 x7 v_shc x8 x0 x1 x2 x3 x4)) H := hP
  have hD : va_D (lw_A s) (((Wm_pass cI cZ yh Rf G f0 f8 f10 f11 f12) ++ wr) ++ (Wx_pass cI cZ xh v_x v_q1 v_q2 v_rd v_t v_d v_nw v_ps v_im v_is_ v_q10 v_bk v_q12 v_qr v_pr v_cv v_ft v_t0 v_t1 v_t2 v_t3 v_t4 v_ta v_tb v_tc v_td v_te v_fta v_ftc v_ftd v_fte v_nwc x5 v_sh x6 x7 v_shc x8 x0 x1 x2 x3 x4)) := hD
  rw [List.append_assoc] at hP hD
  refine lv_pop hx hb dL_law_451 rfl ?_
  refine lv_aload_n hx hb dL_law_452 rfl (lv_at hl 2 rfl) ?_
  refine lv_aload_n hx hb dL_law_453 rfl (lv_at hl 0 rfl) ?_
  refine lv_iload_n hx hb dL_law_454 rfl (lv_at hl 3 rfl) ?_
  refine lv_iconst (v := 1) hx hb dL_law_455 (by decide) ?_
  refine lv_iadd hx hb dL_law_456 ?_
  refine va_sld hx hb hX hbl hbA hS hi1 dL_law_457 ?_
  refine cVa (wc := (Wm_pass cI cZ yh Rf G f0 f8 f10 f11 f12)) (wr := (wr ++ (Wx_pass cI cZ xh v_x v_q1 v_q2 v_rd v_t v_d v_nw v_ps v_im v_is_ v_q10 v_bk v_q12 v_qr v_pr v_cv v_ft v_t0 v_t1 v_t2 v_t3 v_t4 v_ta v_tb v_tc v_td v_te v_fta v_ftc v_ftd v_fte v_nwc x5 v_sh x6 x7 v_shc x8 x0 x1 x2 x3 x4))) (rest := []) (m_pass Rf yh G f0 f10 f8 f11 f12 (xs ((iv + 1) : Int32).toNatClampNeg) hs) okV_X10_pass wd_780 hx hb hml hown hts hK hP hD hS hA hN hl.1 rfl rfl rfl (Nat.le_of_ble_eq_true rfl) (Nat.le_of_ble_eq_true rfl) (Nat.le_of_ble_eq_true rfl) (Nat.le_of_ble_eq_true rfl) (Nat.le_of_ble_eq_true rfl) dL_law_458 (fun ry u2 H locs em hP hD hS => ?_)
  obtain ⟨y0, y1⟩ := u2
  replace em : (ry, y0, y1) = (f_m_pass G f0 f10 f8 f11 f12 (xs ((iv + 1) : Int32).toNatClampNeg)) := em
  have hP : va_P D classes ((wr ++ (Wx_pass cI cZ xh v_x v_q1 v_q2 v_rd v_t v_d v_nw v_ps v_im v_is_ v_q10 v_bk v_q12 v_qr v_pr v_cv v_ft v_t0 v_t1 v_t2 v_t3 v_t4 v_ta v_tb v_tc v_td v_te v_fta v_ftc v_ftd v_fte v_nwc x5 v_sh x6 x7 v_shc x8 x0 x1 x2 x3 x4)) ++ (Wm_pass cI cZ yh Rf y0 y1 f8 f10 f11 f12)) H := hP
  have hD : va_D (lw_A s) ((wr ++ (Wx_pass cI cZ xh v_x v_q1 v_q2 v_rd v_t v_d v_nw v_ps v_im v_is_ v_q10 v_bk v_q12 v_qr v_pr v_cv v_ft v_t0 v_t1 v_t2 v_t3 v_t4 v_ta v_tb v_tc v_td v_te v_fta v_ftc v_ftd v_fte v_nwc x5 v_sh x6 x7 v_shc x8 x0 x1 x2 x3 x4)) ++ (Wm_pass cI cZ yh Rf y0 y1 f8 f10 f11 f12)) := hD
  refine lv_pop hx hb dL_law_461 rfl ?_
  refine lv_goto (tgt := 1015) hx hb dL_law_462 (by decide) ?_
  exact hnext rx x0 x1 x2 x3 x4 x5 x6 x7 x8 ry y0 y1 _ _ _ ex em (permP rot hP) (permD rot hD) hS hl
def Wx_grieve (cI cZ : ClassId) (xh : Nat) (v_x : Nat) (v_q1 : Int32) (v_q2 : Int32) (v_rd : Nat) (v_t : Nat) (v_d : Nat) (v_nw : Nat) (v_ps : Nat) (v_im : Nat) (v_is_ : Nat) (v_q10 : Int32) (v_bk : Nat) (v_q12 : Int32) (v_qr : Nat) (v_pr : Nat) (v_cv : Nat) (v_ft : Nat) (v_t0 : Int32) (v_t1 : Int32) (v_t2 : Int32) (v_t3 : Int32) (v_t4 : Int32) (v_ta : Nat) (v_tb : Nat) (v_tc : Nat) (v_td : Nat) (v_te : Nat) (v_nwc : Nat) (v_fn : Nat → Int32) (v_sh : Nat) (v_p1 : Int32) (v_p2 : Int32) (v_shc : Nat) (v_fsh : Nat → Int32) : va_W := [(xh, .inr (9, [.ref v_x, .int v_q1, .int v_q2, .ref v_rd, .ref v_t, .ref v_d, .ref v_nw, .ref v_ps, .ref v_im, .ref v_is_, .int v_q10, .ref v_bk, .int v_q12, .ref v_qr, .ref v_pr, .ref v_cv, .ref v_ft])), (v_t, .inr (8, [.int v_t0, .int v_t1, .int v_t2, .int v_t3, .int v_t4, .ref v_ta, .ref v_tb, .ref v_tc, .ref v_td, .ref v_te])), (v_nw, .inr (7, [.ref v_nwc])), (v_nwc, .inl (cI, 41, .inl v_fn)), (v_ps, .inr (2, [.ref v_sh, .int v_p1, .int v_p2])), (v_sh, .inr (6, [.int 20, .ref v_shc])), (v_shc, .inl (cI, 820, .inl v_fsh))]
def Wm_grieve (cI cZ : ClassId) (yh : Nat) (Rf : Nat → Nat) (G : Nat → Int32) (f0 : Nat → Int32) : va_W := [(yh, .inr (10, ML G Rf)), ((Rf 0), .inl (cI, 1302, .inl f0))]
set_option maxHeartbeats 4000000 in
set_option maxRecDepth 100000 in
theorem law_grieve {p : Program} {l : Launch} {e : Env} {s : State} {m : MethodId} {below : List Frame} {meth : Method} {c : Code} {D : va_G} {cI cZ : ClassId} {b : Nat} {xs : Nat → Int32} {L : Nat} (wr : va_W) (v_x : Nat) (v_q1 : Int32) (v_q2 : Int32) (v_rd : Nat) (v_t : Nat) (v_d : Nat) (v_nw : Nat) (v_ps : Nat) (v_im : Nat) (v_is_ : Nat) (v_q10 : Int32) (v_bk : Nat) (v_q12 : Int32) (v_qr : Nat) (v_pr : Nat) (v_cv : Nat) (v_ft : Nat) (v_t0 : Int32) (v_t1 : Int32) (v_t2 : Int32) (v_t3 : Int32) (v_t4 : Int32) (v_ta : Nat) (v_tb : Nat) (v_tc : Nat) (v_td : Nat) (v_te : Nat) (v_nwc : Nat) (v_fn : Nat → Int32) (v_sh : Nat) (v_p1 : Int32) (v_p2 : Int32) (v_shc : Nat) (v_fsh : Nat → Int32) (Rf : Nat → Nat) (G : Nat → Int32) (f0 : Nat → Int32) {xh yh : Nat} {iv : Int32} (C0 : lw_C p s m meth c b L xs) {H : Heap} {locs : List Loc} {ls : Array Slot} (hi1 : ¬ ((iv + 1) < 0 ∨ L ≤ (iv + 1 : Int32).toNatClampNeg)) (hi2 : ¬ ((iv + 2) < 0 ∨ L ≤ (iv + 2 : Int32).toNatClampNeg)) (hi3 : ¬ ((iv + 3) < 0 ∨ L ≤ (iv + 3 : Int32).toNatClampNeg)) (hi4 : ¬ ((iv + 4) < 0 ∨ L ≤ (iv + 4 : Int32).toNatClampNeg)) (hK : va_K D classes (TYS cI cZ) s) (hs : S_m_grieve G f0 (xs ((iv + 1) : Int32).toNatClampNeg) (xs ((iv + 2) : Int32).toNatClampNeg)) (hP : va_P D classes ((Wx_grieve cI cZ xh v_x v_q1 v_q2 v_rd v_t v_d v_nw v_ps v_im v_is_ v_q10 v_bk v_q12 v_qr v_pr v_cv v_ft v_t0 v_t1 v_t2 v_t3 v_t4 v_ta v_tb v_tc v_td v_te v_nwc v_fn v_sh v_p1 v_p2 v_shc v_fsh) ++ ((Wm_grieve cI cZ yh Rf G f0) ++ wr)) H) (hD : va_D (lw_A s) ((Wx_grieve cI cZ xh v_x v_q1 v_q2 v_rd v_t v_d v_nw v_ps v_im v_is_ v_q10 v_bk v_q12 v_qr v_pr v_cv v_ft v_t0 v_t1 v_t2 v_t3 v_t4 v_ta v_tb v_tc v_td v_te v_nwc v_fn v_sh v_p1 v_p2 v_shc v_fsh) ++ ((Wm_grieve cI cZ yh Rf G f0) ++ wr))) (hS : va_S (lw_A s) s.heap H locs) (hl : lv_has ls 4 [(0, .ref b), (1, .ref xh), (2, .ref yh), (3, .int iv)]) (hnext : ∀ (rx : Int32) (x0 : (Nat → Int32)) (x1 : Int32) (x2 : Int32) (x3 : (Nat → Int32)) (ry : Int32) (y0 : (Nat → Int32)) (y1 : (Nat → Int32)) (H : Heap) (locs : List Loc) (ls : Array Slot), (rx, x0, x1, x2, x3) = (f_e_grieve_x9 v_q1 v_q2 v_q10 v_q12 v_t0 v_t1 v_t2 v_t3 v_t4 v_fn v_p1 v_p2 v_fsh (xs ((iv + 1) : Int32).toNatClampNeg) (xs ((iv + 2) : Int32).toNatClampNeg)) → (ry, y0, y1) = (f_m_grieve G f0 (xs ((iv + 1) : Int32).toNatClampNeg) (xs ((iv + 2) : Int32).toNatClampNeg)) → va_P D classes ((Wx_grieve cI cZ xh v_x v_q1 v_q2 v_rd v_t v_d v_nw v_ps v_im v_is_ v_q10 v_bk v_q12 v_qr v_pr v_cv v_ft v_t0 v_t1 v_t2 v_t3 v_t4 v_ta v_tb v_tc v_td v_te v_nwc x0 v_sh x1 x2 v_shc x3) ++ ((Wm_grieve cI cZ yh Rf y0 y1) ++ wr)) H → va_D (lw_A s) ((Wx_grieve cI cZ xh v_x v_q1 v_q2 v_rd v_t v_d v_nw v_ps v_im v_is_ v_q10 v_bk v_q12 v_qr v_pr v_cv v_ft v_t0 v_t1 v_t2 v_t3 v_t4 v_ta v_tb v_tc v_td v_te v_nwc x0 v_sh x1 x2 v_shc x3) ++ ((Wm_grieve cI cZ yh Rf y0 y1) ++ wr)) → va_S (lw_A s) s.heap H locs → lv_has ls 4 [(0, .ref b), (1, .ref xh), (2, .ref yh), (3, .int iv)] → W p l e room_1 s m #[Value.ref b] below meth c H locs 60 4269 (lw_Z below #[Value.ref b] s) (F0 m 1015 ls [])) : W p l e room_1 s m #[Value.ref b] below meth c H locs 60 4269 (lw_Z below #[Value.ref b] s) (F0 m 465 ls []) := by
  obtain ⟨hx, hb, hr, hml, hown, hts, hX, hbl, hlocks, hN⟩ := C0
  have hA : ∀ q, s.heap.size ≤ q → lw_A s q := fun _ h => h
  have hbA : ¬ lw_A s b := Nat.not_le.mpr hbl
  refine lv_aload_n hx hb dL_law_465 rfl (lv_at hl 1 rfl) ?_
  refine lv_aload_n hx hb dL_law_466 rfl (lv_at hl 0 rfl) ?_
  refine lv_iload_n hx hb dL_law_467 rfl (lv_at hl 3 rfl) ?_
  refine lv_iconst (v := 1) hx hb dL_law_468 (by decide) ?_
  refine lv_iadd hx hb dL_law_469 ?_
  refine va_sld hx hb hX hbl hbA hS hi1 dL_law_470 ?_
  refine lv_aload_n hx hb dL_law_471 rfl (lv_at hl 0 rfl) ?_
  refine lv_iload_n hx hb dL_law_472 rfl (lv_at hl 3 rfl) ?_
  refine lv_iconst (v := 2) hx hb dL_law_473 (by decide) ?_
  refine lv_iadd hx hb dL_law_474 ?_
  refine va_sld hx hb hX hbl hbA hS hi2 dL_law_475 ?_
  refine cVa (wc := (Wx_grieve cI cZ xh v_x v_q1 v_q2 v_rd v_t v_d v_nw v_ps v_im v_is_ v_q10 v_bk v_q12 v_qr v_pr v_cv v_ft v_t0 v_t1 v_t2 v_t3 v_t4 v_ta v_tb v_tc v_td v_te v_nwc v_fn v_sh v_p1 v_p2 v_shc v_fsh)) (wr := ((Wm_grieve cI cZ yh Rf G f0) ++ wr)) (rest := []) (e_grieve_x9 xh v_x v_rd v_t v_d v_nw v_ps v_im v_is_ v_bk v_qr v_pr v_cv v_ft v_ta v_tb v_tc v_td v_te v_nwc v_sh v_shc v_q1 v_q2 v_q10 v_q12 v_t0 v_t1 v_t2 v_t3 v_t4 v_fn v_p1 v_p2 v_fsh (xs ((iv + 1) : Int32).toNatClampNeg) (xs ((iv + 2) : Int32).toNatClampNeg)) okV_X9_grieve wd_784 hx hb hml hown hts hK hP hD hS hA hN hl.1 rfl rfl rfl (Nat.le_of_ble_eq_true rfl) (Nat.le_of_ble_eq_true rfl) (Nat.le_of_ble_eq_true rfl) (Nat.le_of_ble_eq_true rfl) (Nat.le_of_ble_eq_true rfl) dL_law_476 (fun rx u1 H locs ex hP hD hS => ?_)
  obtain ⟨x0, x1, x2, x3⟩ := u1
  replace ex : (rx, x0, x1, x2, x3) = (f_e_grieve_x9 v_q1 v_q2 v_q10 v_q12 v_t0 v_t1 v_t2 v_t3 v_t4 v_fn v_p1 v_p2 v_fsh (xs ((iv + 1) : Int32).toNatClampNeg) (xs ((iv + 2) : Int32).toNatClampNeg)) := ex
  have hP : va_P D classes (((Wm_grieve cI cZ yh Rf G f0) ++ wr) ++ (Wx_grieve cI cZ xh v_x v_q1 v_q2 v_rd v_t v_d v_nw v_ps v_im v_is_ v_q10 v_bk v_q12 v_qr v_pr v_cv v_ft v_t0 v_t1 v_t2 v_t3 v_t4 v_ta v_tb v_tc v_td v_te v_nwc x0 v_sh x1 x2 v_shc x3)) H := hP
  have hD : va_D (lw_A s) (((Wm_grieve cI cZ yh Rf G f0) ++ wr) ++ (Wx_grieve cI cZ xh v_x v_q1 v_q2 v_rd v_t v_d v_nw v_ps v_im v_is_ v_q10 v_bk v_q12 v_qr v_pr v_cv v_ft v_t0 v_t1 v_t2 v_t3 v_t4 v_ta v_tb v_tc v_td v_te v_nwc x0 v_sh x1 x2 v_shc x3)) := hD
  rw [List.append_assoc] at hP hD
  refine lv_pop hx hb dL_law_479 rfl ?_
  refine lv_aload_n hx hb dL_law_480 rfl (lv_at hl 2 rfl) ?_
  refine lv_aload_n hx hb dL_law_481 rfl (lv_at hl 0 rfl) ?_
  refine lv_iload_n hx hb dL_law_482 rfl (lv_at hl 3 rfl) ?_
  refine lv_iconst (v := 1) hx hb dL_law_483 (by decide) ?_
  refine lv_iadd hx hb dL_law_484 ?_
  refine va_sld hx hb hX hbl hbA hS hi1 dL_law_485 ?_
  refine lv_aload_n hx hb dL_law_486 rfl (lv_at hl 0 rfl) ?_
  refine lv_iload_n hx hb dL_law_487 rfl (lv_at hl 3 rfl) ?_
  refine lv_iconst (v := 2) hx hb dL_law_488 (by decide) ?_
  refine lv_iadd hx hb dL_law_489 ?_
  refine va_sld hx hb hX hbl hbA hS hi2 dL_law_490 ?_
  refine cVa (wc := (Wm_grieve cI cZ yh Rf G f0)) (wr := (wr ++ (Wx_grieve cI cZ xh v_x v_q1 v_q2 v_rd v_t v_d v_nw v_ps v_im v_is_ v_q10 v_bk v_q12 v_qr v_pr v_cv v_ft v_t0 v_t1 v_t2 v_t3 v_t4 v_ta v_tb v_tc v_td v_te v_nwc x0 v_sh x1 x2 v_shc x3))) (rest := []) (m_grieve Rf yh G f0 (xs ((iv + 1) : Int32).toNatClampNeg) (xs ((iv + 2) : Int32).toNatClampNeg) hs) okV_X10_grieve wd_788 hx hb hml hown hts hK hP hD hS hA hN hl.1 rfl rfl rfl (Nat.le_of_ble_eq_true rfl) (Nat.le_of_ble_eq_true rfl) (Nat.le_of_ble_eq_true rfl) (Nat.le_of_ble_eq_true rfl) (Nat.le_of_ble_eq_true rfl) dL_law_491 (fun ry u2 H locs em hP hD hS => ?_)
  obtain ⟨y0, y1⟩ := u2
  replace em : (ry, y0, y1) = (f_m_grieve G f0 (xs ((iv + 1) : Int32).toNatClampNeg) (xs ((iv + 2) : Int32).toNatClampNeg)) := em
  have hP : va_P D classes ((wr ++ (Wx_grieve cI cZ xh v_x v_q1 v_q2 v_rd v_t v_d v_nw v_ps v_im v_is_ v_q10 v_bk v_q12 v_qr v_pr v_cv v_ft v_t0 v_t1 v_t2 v_t3 v_t4 v_ta v_tb v_tc v_td v_te v_nwc x0 v_sh x1 x2 v_shc x3)) ++ (Wm_grieve cI cZ yh Rf y0 y1)) H := hP
  have hD : va_D (lw_A s) ((wr ++ (Wx_grieve cI cZ xh v_x v_q1 v_q2 v_rd v_t v_d v_nw v_ps v_im v_is_ v_q10 v_bk v_q12 v_qr v_pr v_cv v_ft v_t0 v_t1 v_t2 v_t3 v_t4 v_ta v_tb v_tc v_td v_te v_nwc x0 v_sh x1 x2 v_shc x3)) ++ (Wm_grieve cI cZ yh Rf y0 y1)) := hD
  refine lv_pop hx hb dL_law_494 rfl ?_
  refine lv_goto (tgt := 1015) hx hb dL_law_495 (by decide) ?_
  exact hnext rx x0 x1 x2 x3 ry y0 y1 _ _ _ ex em (permP rot hP) (permD rot hD) hS hl
def Wx_drift (cI cZ : ClassId) (xh : Nat) (v_x : Nat) (v_q1 : Int32) (v_q2 : Int32) (v_rd : Nat) (v_t : Nat) (v_d : Nat) (v_nw : Nat) (v_ps : Nat) (v_im : Nat) (v_is_ : Nat) (v_q10 : Int32) (v_bk : Nat) (v_q12 : Int32) (v_qr : Nat) (v_pr : Nat) (v_cv : Nat) (v_ft : Nat) (v_t0 : Int32) (v_t1 : Int32) (v_t2 : Int32) (v_t3 : Int32) (v_t4 : Int32) (v_ta : Nat) (v_tb : Nat) (v_tc : Nat) (v_td : Nat) (v_te : Nat) (v_nwc : Nat) (v_fn : Nat → Int32) (v_sh : Nat) (v_p1 : Int32) (v_p2 : Int32) (v_shc : Nat) (v_fsh : Nat → Int32) : va_W := [(xh, .inr (9, [.ref v_x, .int v_q1, .int v_q2, .ref v_rd, .ref v_t, .ref v_d, .ref v_nw, .ref v_ps, .ref v_im, .ref v_is_, .int v_q10, .ref v_bk, .int v_q12, .ref v_qr, .ref v_pr, .ref v_cv, .ref v_ft])), (v_t, .inr (8, [.int v_t0, .int v_t1, .int v_t2, .int v_t3, .int v_t4, .ref v_ta, .ref v_tb, .ref v_tc, .ref v_td, .ref v_te])), (v_nw, .inr (7, [.ref v_nwc])), (v_nwc, .inl (cI, 41, .inl v_fn)), (v_ps, .inr (2, [.ref v_sh, .int v_p1, .int v_p2])), (v_sh, .inr (6, [.int 20, .ref v_shc])), (v_shc, .inl (cI, 820, .inl v_fsh))]
def Wm_drift (cI cZ : ClassId) (yh : Nat) (Rf : Nat → Nat) (G : Nat → Int32) (f0 : Nat → Int32) : va_W := [(yh, .inr (10, ML G Rf)), ((Rf 0), .inl (cI, 1302, .inl f0))]
set_option maxHeartbeats 4000000 in
set_option maxRecDepth 100000 in
theorem law_drift {p : Program} {l : Launch} {e : Env} {s : State} {m : MethodId} {below : List Frame} {meth : Method} {c : Code} {D : va_G} {cI cZ : ClassId} {b : Nat} {xs : Nat → Int32} {L : Nat} (wr : va_W) (v_x : Nat) (v_q1 : Int32) (v_q2 : Int32) (v_rd : Nat) (v_t : Nat) (v_d : Nat) (v_nw : Nat) (v_ps : Nat) (v_im : Nat) (v_is_ : Nat) (v_q10 : Int32) (v_bk : Nat) (v_q12 : Int32) (v_qr : Nat) (v_pr : Nat) (v_cv : Nat) (v_ft : Nat) (v_t0 : Int32) (v_t1 : Int32) (v_t2 : Int32) (v_t3 : Int32) (v_t4 : Int32) (v_ta : Nat) (v_tb : Nat) (v_tc : Nat) (v_td : Nat) (v_te : Nat) (v_nwc : Nat) (v_fn : Nat → Int32) (v_sh : Nat) (v_p1 : Int32) (v_p2 : Int32) (v_shc : Nat) (v_fsh : Nat → Int32) (Rf : Nat → Nat) (G : Nat → Int32) (f0 : Nat → Int32) {xh yh : Nat} {iv : Int32} (C0 : lw_C p s m meth c b L xs) {H : Heap} {locs : List Loc} {ls : Array Slot} (hi1 : ¬ ((iv + 1) < 0 ∨ L ≤ (iv + 1 : Int32).toNatClampNeg)) (hi2 : ¬ ((iv + 2) < 0 ∨ L ≤ (iv + 2 : Int32).toNatClampNeg)) (hi3 : ¬ ((iv + 3) < 0 ∨ L ≤ (iv + 3 : Int32).toNatClampNeg)) (hi4 : ¬ ((iv + 4) < 0 ∨ L ≤ (iv + 4 : Int32).toNatClampNeg)) (hK : va_K D classes (TYS cI cZ) s) (hs : S_m_drift G f0 (xs ((iv + 1) : Int32).toNatClampNeg)) (hP : va_P D classes ((Wx_drift cI cZ xh v_x v_q1 v_q2 v_rd v_t v_d v_nw v_ps v_im v_is_ v_q10 v_bk v_q12 v_qr v_pr v_cv v_ft v_t0 v_t1 v_t2 v_t3 v_t4 v_ta v_tb v_tc v_td v_te v_nwc v_fn v_sh v_p1 v_p2 v_shc v_fsh) ++ ((Wm_drift cI cZ yh Rf G f0) ++ wr)) H) (hD : va_D (lw_A s) ((Wx_drift cI cZ xh v_x v_q1 v_q2 v_rd v_t v_d v_nw v_ps v_im v_is_ v_q10 v_bk v_q12 v_qr v_pr v_cv v_ft v_t0 v_t1 v_t2 v_t3 v_t4 v_ta v_tb v_tc v_td v_te v_nwc v_fn v_sh v_p1 v_p2 v_shc v_fsh) ++ ((Wm_drift cI cZ yh Rf G f0) ++ wr))) (hS : va_S (lw_A s) s.heap H locs) (hl : lv_has ls 4 [(0, .ref b), (1, .ref xh), (2, .ref yh), (3, .int iv)]) (hnext : ∀ (rx : Int32) (x0 : Int32) (x1 : (Nat → Int32)) (x2 : Int32) (x3 : Int32) (x4 : (Nat → Int32)) (ry : Int32) (y0 : (Nat → Int32)) (y1 : (Nat → Int32)) (H : Heap) (locs : List Loc) (ls : Array Slot), (rx, x0, x1, x2, x3, x4) = (f_e_drift_x9 v_q1 v_q2 v_q10 v_q12 v_t0 v_t1 v_t2 v_t3 v_t4 v_fn v_p1 v_p2 v_fsh (xs ((iv + 1) : Int32).toNatClampNeg)) → (ry, y0, y1) = (f_m_drift G f0 (xs ((iv + 1) : Int32).toNatClampNeg)) → va_P D classes ((Wx_drift cI cZ xh v_x v_q1 v_q2 v_rd v_t v_d v_nw v_ps v_im v_is_ v_q10 v_bk x0 v_qr v_pr v_cv v_ft v_t0 v_t1 v_t2 v_t3 v_t4 v_ta v_tb v_tc v_td v_te v_nwc x1 v_sh x2 x3 v_shc x4) ++ ((Wm_drift cI cZ yh Rf y0 y1) ++ wr)) H → va_D (lw_A s) ((Wx_drift cI cZ xh v_x v_q1 v_q2 v_rd v_t v_d v_nw v_ps v_im v_is_ v_q10 v_bk x0 v_qr v_pr v_cv v_ft v_t0 v_t1 v_t2 v_t3 v_t4 v_ta v_tb v_tc v_td v_te v_nwc x1 v_sh x2 x3 v_shc x4) ++ ((Wm_drift cI cZ yh Rf y0 y1) ++ wr)) → va_S (lw_A s) s.heap H locs → lv_has ls 4 [(0, .ref b), (1, .ref xh), (2, .ref yh), (3, .int iv)] → W p l e room_1 s m #[Value.ref b] below meth c H locs 60 4269 (lw_Z below #[Value.ref b] s) (F0 m 1015 ls [])) : W p l e room_1 s m #[Value.ref b] below meth c H locs 60 4269 (lw_Z below #[Value.ref b] s) (F0 m 498 ls []) := by
  obtain ⟨hx, hb, hr, hml, hown, hts, hX, hbl, hlocks, hN⟩ := C0
  have hA : ∀ q, s.heap.size ≤ q → lw_A s q := fun _ h => h
  have hbA : ¬ lw_A s b := Nat.not_le.mpr hbl
  refine lv_aload_n hx hb dL_law_498 rfl (lv_at hl 1 rfl) ?_
  refine lv_aload_n hx hb dL_law_499 rfl (lv_at hl 0 rfl) ?_
  refine lv_iload_n hx hb dL_law_500 rfl (lv_at hl 3 rfl) ?_
  refine lv_iconst (v := 1) hx hb dL_law_501 (by decide) ?_
  refine lv_iadd hx hb dL_law_502 ?_
  refine va_sld hx hb hX hbl hbA hS hi1 dL_law_503 ?_
  refine cVa (wc := (Wx_drift cI cZ xh v_x v_q1 v_q2 v_rd v_t v_d v_nw v_ps v_im v_is_ v_q10 v_bk v_q12 v_qr v_pr v_cv v_ft v_t0 v_t1 v_t2 v_t3 v_t4 v_ta v_tb v_tc v_td v_te v_nwc v_fn v_sh v_p1 v_p2 v_shc v_fsh)) (wr := ((Wm_drift cI cZ yh Rf G f0) ++ wr)) (rest := []) (e_drift_x9 xh v_x v_rd v_t v_d v_nw v_ps v_im v_is_ v_bk v_qr v_pr v_cv v_ft v_ta v_tb v_tc v_td v_te v_nwc v_sh v_shc v_q1 v_q2 v_q10 v_q12 v_t0 v_t1 v_t2 v_t3 v_t4 v_fn v_p1 v_p2 v_fsh (xs ((iv + 1) : Int32).toNatClampNeg)) okV_X9_drift wd_792 hx hb hml hown hts hK hP hD hS hA hN hl.1 rfl rfl rfl (Nat.le_of_ble_eq_true rfl) (Nat.le_of_ble_eq_true rfl) (Nat.le_of_ble_eq_true rfl) (Nat.le_of_ble_eq_true rfl) (Nat.le_of_ble_eq_true rfl) dL_law_504 (fun rx u1 H locs ex hP hD hS => ?_)
  obtain ⟨x0, x1, x2, x3, x4⟩ := u1
  replace ex : (rx, x0, x1, x2, x3, x4) = (f_e_drift_x9 v_q1 v_q2 v_q10 v_q12 v_t0 v_t1 v_t2 v_t3 v_t4 v_fn v_p1 v_p2 v_fsh (xs ((iv + 1) : Int32).toNatClampNeg)) := ex
  have hP : va_P D classes (((Wm_drift cI cZ yh Rf G f0) ++ wr) ++ (Wx_drift cI cZ xh v_x v_q1 v_q2 v_rd v_t v_d v_nw v_ps v_im v_is_ v_q10 v_bk x0 v_qr v_pr v_cv v_ft v_t0 v_t1 v_t2 v_t3 v_t4 v_ta v_tb v_tc v_td v_te v_nwc x1 v_sh x2 x3 v_shc x4)) H := hP
  have hD : va_D (lw_A s) (((Wm_drift cI cZ yh Rf G f0) ++ wr) ++ (Wx_drift cI cZ xh v_x v_q1 v_q2 v_rd v_t v_d v_nw v_ps v_im v_is_ v_q10 v_bk x0 v_qr v_pr v_cv v_ft v_t0 v_t1 v_t2 v_t3 v_t4 v_ta v_tb v_tc v_td v_te v_nwc x1 v_sh x2 x3 v_shc x4)) := hD
  rw [List.append_assoc] at hP hD
  refine lv_pop hx hb dL_law_507 rfl ?_
  refine lv_aload_n hx hb dL_law_508 rfl (lv_at hl 2 rfl) ?_
  refine lv_aload_n hx hb dL_law_509 rfl (lv_at hl 0 rfl) ?_
  refine lv_iload_n hx hb dL_law_510 rfl (lv_at hl 3 rfl) ?_
  refine lv_iconst (v := 1) hx hb dL_law_511 (by decide) ?_
  refine lv_iadd hx hb dL_law_512 ?_
  refine va_sld hx hb hX hbl hbA hS hi1 dL_law_513 ?_
  refine cVa (wc := (Wm_drift cI cZ yh Rf G f0)) (wr := (wr ++ (Wx_drift cI cZ xh v_x v_q1 v_q2 v_rd v_t v_d v_nw v_ps v_im v_is_ v_q10 v_bk x0 v_qr v_pr v_cv v_ft v_t0 v_t1 v_t2 v_t3 v_t4 v_ta v_tb v_tc v_td v_te v_nwc x1 v_sh x2 x3 v_shc x4))) (rest := []) (m_drift Rf yh G f0 (xs ((iv + 1) : Int32).toNatClampNeg) hs) okV_X10_drift wd_796 hx hb hml hown hts hK hP hD hS hA hN hl.1 rfl rfl rfl (Nat.le_of_ble_eq_true rfl) (Nat.le_of_ble_eq_true rfl) (Nat.le_of_ble_eq_true rfl) (Nat.le_of_ble_eq_true rfl) (Nat.le_of_ble_eq_true rfl) dL_law_514 (fun ry u2 H locs em hP hD hS => ?_)
  obtain ⟨y0, y1⟩ := u2
  replace em : (ry, y0, y1) = (f_m_drift G f0 (xs ((iv + 1) : Int32).toNatClampNeg)) := em
  have hP : va_P D classes ((wr ++ (Wx_drift cI cZ xh v_x v_q1 v_q2 v_rd v_t v_d v_nw v_ps v_im v_is_ v_q10 v_bk x0 v_qr v_pr v_cv v_ft v_t0 v_t1 v_t2 v_t3 v_t4 v_ta v_tb v_tc v_td v_te v_nwc x1 v_sh x2 x3 v_shc x4)) ++ (Wm_drift cI cZ yh Rf y0 y1)) H := hP
  have hD : va_D (lw_A s) ((wr ++ (Wx_drift cI cZ xh v_x v_q1 v_q2 v_rd v_t v_d v_nw v_ps v_im v_is_ v_q10 v_bk x0 v_qr v_pr v_cv v_ft v_t0 v_t1 v_t2 v_t3 v_t4 v_ta v_tb v_tc v_td v_te v_nwc x1 v_sh x2 x3 v_shc x4)) ++ (Wm_drift cI cZ yh Rf y0 y1)) := hD
  refine lv_pop hx hb dL_law_517 rfl ?_
  refine lv_goto (tgt := 1015) hx hb dL_law_518 (by decide) ?_
  exact hnext rx x0 x1 x2 x3 x4 ry y0 y1 _ _ _ ex em (permP rot hP) (permD rot hD) hS hl
def Wx_undo (cI cZ : ClassId) (xh : Nat) (v_x : Nat) (v_q1 : Int32) (v_q2 : Int32) (v_rd : Nat) (v_t : Nat) (v_d : Nat) (v_nw : Nat) (v_ps : Nat) (v_im : Nat) (v_is_ : Nat) (v_q10 : Int32) (v_bk : Nat) (v_q12 : Int32) (v_qr : Nat) (v_pr : Nat) (v_cv : Nat) (v_ft : Nat) (v_nwc : Nat) (v_fn : Nat → Int32) (v_sh : Nat) (v_p1 : Int32) (v_p2 : Int32) (v_shc : Nat) (v_fsh : Nat → Int32) : va_W := [(xh, .inr (9, [.ref v_x, .int v_q1, .int v_q2, .ref v_rd, .ref v_t, .ref v_d, .ref v_nw, .ref v_ps, .ref v_im, .ref v_is_, .int v_q10, .ref v_bk, .int v_q12, .ref v_qr, .ref v_pr, .ref v_cv, .ref v_ft])), (v_ps, .inr (2, [.ref v_sh, .int v_p1, .int v_p2])), (v_sh, .inr (6, [.int 20, .ref v_shc])), (v_shc, .inl (cI, 820, .inl v_fsh)), (v_nw, .inr (7, [.ref v_nwc])), (v_nwc, .inl (cI, 41, .inl v_fn))]
def Wm_undo (cI cZ : ClassId) (yh : Nat) (Rf : Nat → Nat) (G : Nat → Int32) (f0 : Nat → Int32) : va_W := [(yh, .inr (10, ML G Rf)), ((Rf 0), .inl (cI, 1302, .inl f0))]
set_option maxHeartbeats 4000000 in
set_option maxRecDepth 100000 in
theorem law_undo {p : Program} {l : Launch} {e : Env} {s : State} {m : MethodId} {below : List Frame} {meth : Method} {c : Code} {D : va_G} {cI cZ : ClassId} {b : Nat} {xs : Nat → Int32} {L : Nat} (wr : va_W) (v_x : Nat) (v_q1 : Int32) (v_q2 : Int32) (v_rd : Nat) (v_t : Nat) (v_d : Nat) (v_nw : Nat) (v_ps : Nat) (v_im : Nat) (v_is_ : Nat) (v_q10 : Int32) (v_bk : Nat) (v_q12 : Int32) (v_qr : Nat) (v_pr : Nat) (v_cv : Nat) (v_ft : Nat) (v_nwc : Nat) (v_fn : Nat → Int32) (v_sh : Nat) (v_p1 : Int32) (v_p2 : Int32) (v_shc : Nat) (v_fsh : Nat → Int32) (Rf : Nat → Nat) (G : Nat → Int32) (f0 : Nat → Int32) {xh yh : Nat} {iv : Int32} (C0 : lw_C p s m meth c b L xs) {H : Heap} {locs : List Loc} {ls : Array Slot} (hi1 : ¬ ((iv + 1) < 0 ∨ L ≤ (iv + 1 : Int32).toNatClampNeg)) (hi2 : ¬ ((iv + 2) < 0 ∨ L ≤ (iv + 2 : Int32).toNatClampNeg)) (hi3 : ¬ ((iv + 3) < 0 ∨ L ≤ (iv + 3 : Int32).toNatClampNeg)) (hi4 : ¬ ((iv + 4) < 0 ∨ L ≤ (iv + 4 : Int32).toNatClampNeg)) (hK : va_K D classes (TYS cI cZ) s) (hs : S_m_undo G f0) (hP : va_P D classes ((Wx_undo cI cZ xh v_x v_q1 v_q2 v_rd v_t v_d v_nw v_ps v_im v_is_ v_q10 v_bk v_q12 v_qr v_pr v_cv v_ft v_nwc v_fn v_sh v_p1 v_p2 v_shc v_fsh) ++ ((Wm_undo cI cZ yh Rf G f0) ++ wr)) H) (hD : va_D (lw_A s) ((Wx_undo cI cZ xh v_x v_q1 v_q2 v_rd v_t v_d v_nw v_ps v_im v_is_ v_q10 v_bk v_q12 v_qr v_pr v_cv v_ft v_nwc v_fn v_sh v_p1 v_p2 v_shc v_fsh) ++ ((Wm_undo cI cZ yh Rf G f0) ++ wr))) (hS : va_S (lw_A s) s.heap H locs) (hl : lv_has ls 4 [(0, .ref b), (1, .ref xh), (2, .ref yh), (3, .int iv)]) (hnext : ∀ (rx : Int32) (x0 : Int32) (x1 : (Nat → Int32)) (ry : Int32) (y0 : (Nat → Int32)) (y1 : (Nat → Int32)) (H : Heap) (locs : List Loc) (ls : Array Slot), (rx, x0, x1) = (f_e_undo_x9 v_q1 v_q2 v_q10 v_q12 v_p1 v_p2 v_fsh v_fn) → (ry, y0, y1) = (f_m_undo G f0) → va_P D classes ((Wx_undo cI cZ xh v_x v_q1 v_q2 v_rd v_t v_d v_nw v_ps v_im v_is_ v_q10 v_bk v_q12 v_qr v_pr v_cv v_ft v_nwc x1 v_sh v_p1 x0 v_shc v_fsh) ++ ((Wm_undo cI cZ yh Rf y0 y1) ++ wr)) H → va_D (lw_A s) ((Wx_undo cI cZ xh v_x v_q1 v_q2 v_rd v_t v_d v_nw v_ps v_im v_is_ v_q10 v_bk v_q12 v_qr v_pr v_cv v_ft v_nwc x1 v_sh v_p1 x0 v_shc v_fsh) ++ ((Wm_undo cI cZ yh Rf y0 y1) ++ wr)) → va_S (lw_A s) s.heap H locs → lv_has ls 4 [(0, .ref b), (1, .ref xh), (2, .ref yh), (3, .int iv)] → W p l e room_1 s m #[Value.ref b] below meth c H locs 60 4269 (lw_Z below #[Value.ref b] s) (F0 m 1015 ls [])) : W p l e room_1 s m #[Value.ref b] below meth c H locs 60 4269 (lw_Z below #[Value.ref b] s) (F0 m 521 ls []) := by
  obtain ⟨hx, hb, hr, hml, hown, hts, hX, hbl, hlocks, hN⟩ := C0
  have hA : ∀ q, s.heap.size ≤ q → lw_A s q := fun _ h => h
  have hbA : ¬ lw_A s b := Nat.not_le.mpr hbl
  refine lv_aload_n hx hb dL_law_521 rfl (lv_at hl 1 rfl) ?_
  refine cVa (wc := (Wx_undo cI cZ xh v_x v_q1 v_q2 v_rd v_t v_d v_nw v_ps v_im v_is_ v_q10 v_bk v_q12 v_qr v_pr v_cv v_ft v_nwc v_fn v_sh v_p1 v_p2 v_shc v_fsh)) (wr := ((Wm_undo cI cZ yh Rf G f0) ++ wr)) (rest := []) (e_undo_x9 xh v_x v_rd v_t v_d v_nw v_ps v_im v_is_ v_bk v_qr v_pr v_cv v_ft v_sh v_shc v_nwc v_q1 v_q2 v_q10 v_q12 v_p1 v_p2 v_fsh v_fn) okV_X9_undo wd_800 hx hb hml hown hts hK hP hD hS hA hN hl.1 rfl rfl rfl (Nat.le_of_ble_eq_true rfl) (Nat.le_of_ble_eq_true rfl) (Nat.le_of_ble_eq_true rfl) (Nat.le_of_ble_eq_true rfl) (Nat.le_of_ble_eq_true rfl) dL_law_522 (fun rx u1 H locs ex hP hD hS => ?_)
  obtain ⟨x0, x1⟩ := u1
  replace ex : (rx, x0, x1) = (f_e_undo_x9 v_q1 v_q2 v_q10 v_q12 v_p1 v_p2 v_fsh v_fn) := ex
  have hP : va_P D classes (((Wm_undo cI cZ yh Rf G f0) ++ wr) ++ (Wx_undo cI cZ xh v_x v_q1 v_q2 v_rd v_t v_d v_nw v_ps v_im v_is_ v_q10 v_bk v_q12 v_qr v_pr v_cv v_ft v_nwc x1 v_sh v_p1 x0 v_shc v_fsh)) H := hP
  have hD : va_D (lw_A s) (((Wm_undo cI cZ yh Rf G f0) ++ wr) ++ (Wx_undo cI cZ xh v_x v_q1 v_q2 v_rd v_t v_d v_nw v_ps v_im v_is_ v_q10 v_bk v_q12 v_qr v_pr v_cv v_ft v_nwc x1 v_sh v_p1 x0 v_shc v_fsh)) := hD
  rw [List.append_assoc] at hP hD
  refine lv_pop hx hb dL_law_525 rfl ?_
  refine lv_aload_n hx hb dL_law_526 rfl (lv_at hl 2 rfl) ?_
  refine cVa (wc := (Wm_undo cI cZ yh Rf G f0)) (wr := (wr ++ (Wx_undo cI cZ xh v_x v_q1 v_q2 v_rd v_t v_d v_nw v_ps v_im v_is_ v_q10 v_bk v_q12 v_qr v_pr v_cv v_ft v_nwc x1 v_sh v_p1 x0 v_shc v_fsh))) (rest := []) (m_undo Rf yh G f0 hs) okV_X10_undo wd_804 hx hb hml hown hts hK hP hD hS hA hN hl.1 rfl rfl rfl (Nat.le_of_ble_eq_true rfl) (Nat.le_of_ble_eq_true rfl) (Nat.le_of_ble_eq_true rfl) (Nat.le_of_ble_eq_true rfl) (Nat.le_of_ble_eq_true rfl) dL_law_527 (fun ry u2 H locs em hP hD hS => ?_)
  obtain ⟨y0, y1⟩ := u2
  replace em : (ry, y0, y1) = (f_m_undo G f0) := em
  have hP : va_P D classes ((wr ++ (Wx_undo cI cZ xh v_x v_q1 v_q2 v_rd v_t v_d v_nw v_ps v_im v_is_ v_q10 v_bk v_q12 v_qr v_pr v_cv v_ft v_nwc x1 v_sh v_p1 x0 v_shc v_fsh)) ++ (Wm_undo cI cZ yh Rf y0 y1)) H := hP
  have hD : va_D (lw_A s) ((wr ++ (Wx_undo cI cZ xh v_x v_q1 v_q2 v_rd v_t v_d v_nw v_ps v_im v_is_ v_q10 v_bk v_q12 v_qr v_pr v_cv v_ft v_nwc x1 v_sh v_p1 x0 v_shc v_fsh)) ++ (Wm_undo cI cZ yh Rf y0 y1)) := hD
  refine lv_pop hx hb dL_law_530 rfl ?_
  refine lv_goto (tgt := 1015) hx hb dL_law_531 (by decide) ?_
  exact hnext rx x0 x1 ry y0 y1 _ _ _ ex em (permP rot hP) (permD rot hD) hS hl
def Wx_could (cI cZ : ClassId) (xh : Nat) (v_x : Nat) (v_q1 : Int32) (v_q2 : Int32) (v_rd : Nat) (v_t : Nat) (v_d : Nat) (v_nw : Nat) (v_ps : Nat) (v_im : Nat) (v_is_ : Nat) (v_q10 : Int32) (v_bk : Nat) (v_q12 : Int32) (v_qr : Nat) (v_pr : Nat) (v_cv : Nat) (v_ft : Nat) (v_t0 : Int32) (v_t1 : Int32) (v_t2 : Int32) (v_t3 : Int32) (v_t4 : Int32) (v_ta : Nat) (v_tb : Nat) (v_tc : Nat) (v_td : Nat) (v_te : Nat) (v_fta : Nat → Int32) (v_ftc : Nat → Int32) (v_nwc : Nat) (v_fn : Nat → Int32) (v_k0 : Int32) (v_k1 : Int32) (v_k2 : Int32) (v_k3 : Int32) (v_k4 : Int32) : va_W := [(xh, .inr (9, [.ref v_x, .int v_q1, .int v_q2, .ref v_rd, .ref v_t, .ref v_d, .ref v_nw, .ref v_ps, .ref v_im, .ref v_is_, .int v_q10, .ref v_bk, .int v_q12, .ref v_qr, .ref v_pr, .ref v_cv, .ref v_ft])), (v_qr, .inr (4, [.int v_k0, .int v_k1, .int v_k2, .int v_k3, .int v_k4])), (v_t, .inr (8, [.int v_t0, .int v_t1, .int v_t2, .int v_t3, .int v_t4, .ref v_ta, .ref v_tb, .ref v_tc, .ref v_td, .ref v_te])), (v_ta, .inl (cI, 6, .inl v_fta)), (v_tc, .inl (cI, 30, .inl v_ftc)), (v_nw, .inr (7, [.ref v_nwc])), (v_nwc, .inl (cI, 41, .inl v_fn))]
def Wm_could (cI cZ : ClassId) (yh : Nat) (Rf : Nat → Nat) (G : Nat → Int32) (f0 : Nat → Int32) (f8 : Nat → Int32) (f10 : Nat → Int32) : va_W := [(yh, .inr (10, ML G Rf)), ((Rf 0), .inl (cI, 1302, .inl f0)), ((Rf 10), .inl (cI, 30, .inl f10)), ((Rf 8), .inl (cI, 6, .inl f8))]
set_option maxHeartbeats 4000000 in
set_option maxRecDepth 100000 in
theorem law_could {p : Program} {l : Launch} {e : Env} {s : State} {m : MethodId} {below : List Frame} {meth : Method} {c : Code} {D : va_G} {cI cZ : ClassId} {b : Nat} {xs : Nat → Int32} {L : Nat} (wr : va_W) (v_x : Nat) (v_q1 : Int32) (v_q2 : Int32) (v_rd : Nat) (v_t : Nat) (v_d : Nat) (v_nw : Nat) (v_ps : Nat) (v_im : Nat) (v_is_ : Nat) (v_q10 : Int32) (v_bk : Nat) (v_q12 : Int32) (v_qr : Nat) (v_pr : Nat) (v_cv : Nat) (v_ft : Nat) (v_t0 : Int32) (v_t1 : Int32) (v_t2 : Int32) (v_t3 : Int32) (v_t4 : Int32) (v_ta : Nat) (v_tb : Nat) (v_tc : Nat) (v_td : Nat) (v_te : Nat) (v_fta : Nat → Int32) (v_ftc : Nat → Int32) (v_nwc : Nat) (v_fn : Nat → Int32) (v_k0 : Int32) (v_k1 : Int32) (v_k2 : Int32) (v_k3 : Int32) (v_k4 : Int32) (Rf : Nat → Nat) (G : Nat → Int32) (f0 : Nat → Int32) (f8 : Nat → Int32) (f10 : Nat → Int32) {xh yh : Nat} {iv : Int32} (C0 : lw_C p s m meth c b L xs) {H : Heap} {locs : List Loc} {ls : Array Slot} (hi1 : ¬ ((iv + 1) < 0 ∨ L ≤ (iv + 1 : Int32).toNatClampNeg)) (hi2 : ¬ ((iv + 2) < 0 ∨ L ≤ (iv + 2 : Int32).toNatClampNeg)) (hi3 : ¬ ((iv + 3) < 0 ∨ L ≤ (iv + 3 : Int32).toNatClampNeg)) (hi4 : ¬ ((iv + 4) < 0 ∨ L ≤ (iv + 4 : Int32).toNatClampNeg)) (hK : va_K D classes (TYS cI cZ) s) (hs : S_m_could G f0 f10 f8 (xs ((iv + 1) : Int32).toNatClampNeg) (xs ((iv + 2) : Int32).toNatClampNeg) (xs ((iv + 3) : Int32).toNatClampNeg) (xs ((iv + 4) : Int32).toNatClampNeg)) (hP : va_P D classes ((Wx_could cI cZ xh v_x v_q1 v_q2 v_rd v_t v_d v_nw v_ps v_im v_is_ v_q10 v_bk v_q12 v_qr v_pr v_cv v_ft v_t0 v_t1 v_t2 v_t3 v_t4 v_ta v_tb v_tc v_td v_te v_fta v_ftc v_nwc v_fn v_k0 v_k1 v_k2 v_k3 v_k4) ++ ((Wm_could cI cZ yh Rf G f0 f8 f10) ++ wr)) H) (hD : va_D (lw_A s) ((Wx_could cI cZ xh v_x v_q1 v_q2 v_rd v_t v_d v_nw v_ps v_im v_is_ v_q10 v_bk v_q12 v_qr v_pr v_cv v_ft v_t0 v_t1 v_t2 v_t3 v_t4 v_ta v_tb v_tc v_td v_te v_fta v_ftc v_nwc v_fn v_k0 v_k1 v_k2 v_k3 v_k4) ++ ((Wm_could cI cZ yh Rf G f0 f8 f10) ++ wr))) (hS : va_S (lw_A s) s.heap H locs) (hl : lv_has ls 4 [(0, .ref b), (1, .ref xh), (2, .ref yh), (3, .int iv)]) (hnext : ∀ (rx : Int32) (x0 : Int32) (x1 : Int32) (x2 : Int32) (x3 : Int32) (x4 : Int32) (ry : Int32) (y0 : (Nat → Int32)) (H : Heap) (locs : List Loc) (ls : Array Slot), (rx, x0, x1, x2, x3, x4) = (f_e_could_x9 v_q1 v_q2 v_q10 v_q12 v_k0 v_k1 v_k2 v_k3 v_k4 v_t0 v_t1 v_t2 v_t3 v_t4 v_fta v_ftc v_fn (xs ((iv + 1) : Int32).toNatClampNeg) (xs ((iv + 2) : Int32).toNatClampNeg) (xs ((iv + 3) : Int32).toNatClampNeg) (xs ((iv + 4) : Int32).toNatClampNeg)) → (ry, y0) = (f_m_could G f0 f10 f8 (xs ((iv + 1) : Int32).toNatClampNeg) (xs ((iv + 2) : Int32).toNatClampNeg) (xs ((iv + 3) : Int32).toNatClampNeg) (xs ((iv + 4) : Int32).toNatClampNeg)) → va_P D classes ((Wx_could cI cZ xh v_x v_q1 v_q2 v_rd v_t v_d v_nw v_ps v_im v_is_ v_q10 v_bk v_q12 v_qr v_pr v_cv v_ft v_t0 v_t1 v_t2 v_t3 v_t4 v_ta v_tb v_tc v_td v_te v_fta v_ftc v_nwc v_fn x0 x1 x2 x3 x4) ++ ((Wm_could cI cZ yh Rf y0 f0 f8 f10) ++ wr)) H → va_D (lw_A s) ((Wx_could cI cZ xh v_x v_q1 v_q2 v_rd v_t v_d v_nw v_ps v_im v_is_ v_q10 v_bk v_q12 v_qr v_pr v_cv v_ft v_t0 v_t1 v_t2 v_t3 v_t4 v_ta v_tb v_tc v_td v_te v_fta v_ftc v_nwc v_fn x0 x1 x2 x3 x4) ++ ((Wm_could cI cZ yh Rf y0 f0 f8 f10) ++ wr)) → va_S (lw_A s) s.heap H locs → lv_has ls 4 [(0, .ref b), (1, .ref xh), (2, .ref yh), (3, .int iv)] → W p l e room_1 s m #[Value.ref b] below meth c H locs 60 4269 (lw_Z below #[Value.ref b] s) (F0 m 1015 ls [])) : W p l e room_1 s m #[Value.ref b] below meth c H locs 60 4269 (lw_Z below #[Value.ref b] s) (F0 m 534 ls []) := by
  obtain ⟨hx, hb, hr, hml, hown, hts, hX, hbl, hlocks, hN⟩ := C0
  have hA : ∀ q, s.heap.size ≤ q → lw_A s q := fun _ h => h
  have hbA : ¬ lw_A s b := Nat.not_le.mpr hbl
  refine lv_aload_n hx hb dL_law_534 rfl (lv_at hl 1 rfl) ?_
  refine lv_aload_n hx hb dL_law_535 rfl (lv_at hl 0 rfl) ?_
  refine lv_iload_n hx hb dL_law_536 rfl (lv_at hl 3 rfl) ?_
  refine lv_iconst (v := 1) hx hb dL_law_537 (by decide) ?_
  refine lv_iadd hx hb dL_law_538 ?_
  refine va_sld hx hb hX hbl hbA hS hi1 dL_law_539 ?_
  refine lv_aload_n hx hb dL_law_540 rfl (lv_at hl 0 rfl) ?_
  refine lv_iload_n hx hb dL_law_541 rfl (lv_at hl 3 rfl) ?_
  refine lv_iconst (v := 2) hx hb dL_law_542 (by decide) ?_
  refine lv_iadd hx hb dL_law_543 ?_
  refine va_sld hx hb hX hbl hbA hS hi2 dL_law_544 ?_
  refine lv_aload_n hx hb dL_law_545 rfl (lv_at hl 0 rfl) ?_
  refine lv_iload_n hx hb dL_law_546 rfl (lv_at hl 3 rfl) ?_
  refine lv_iconst (v := 3) hx hb dL_law_547 (by decide) ?_
  refine lv_iadd hx hb dL_law_548 ?_
  refine va_sld hx hb hX hbl hbA hS hi3 dL_law_549 ?_
  refine lv_aload_n hx hb dL_law_550 rfl (lv_at hl 0 rfl) ?_
  refine lv_iload_n hx hb dL_law_551 rfl (lv_at hl 3 rfl) ?_
  refine lv_iconst (v := 4) hx hb dL_law_552 (by decide) ?_
  refine lv_iadd hx hb dL_law_553 ?_
  refine va_sld hx hb hX hbl hbA hS hi4 dL_law_554 ?_
  refine cVa (wc := (Wx_could cI cZ xh v_x v_q1 v_q2 v_rd v_t v_d v_nw v_ps v_im v_is_ v_q10 v_bk v_q12 v_qr v_pr v_cv v_ft v_t0 v_t1 v_t2 v_t3 v_t4 v_ta v_tb v_tc v_td v_te v_fta v_ftc v_nwc v_fn v_k0 v_k1 v_k2 v_k3 v_k4)) (wr := ((Wm_could cI cZ yh Rf G f0 f8 f10) ++ wr)) (rest := []) (e_could_x9 xh v_x v_rd v_t v_d v_nw v_ps v_im v_is_ v_bk v_qr v_pr v_cv v_ft v_ta v_tb v_tc v_td v_te v_nwc v_q1 v_q2 v_q10 v_q12 v_k0 v_k1 v_k2 v_k3 v_k4 v_t0 v_t1 v_t2 v_t3 v_t4 v_fta v_ftc v_fn (xs ((iv + 1) : Int32).toNatClampNeg) (xs ((iv + 2) : Int32).toNatClampNeg) (xs ((iv + 3) : Int32).toNatClampNeg) (xs ((iv + 4) : Int32).toNatClampNeg)) okV_X9_could wd_808 hx hb hml hown hts hK hP hD hS hA hN hl.1 rfl rfl rfl (Nat.le_of_ble_eq_true rfl) (Nat.le_of_ble_eq_true rfl) (Nat.le_of_ble_eq_true rfl) (Nat.le_of_ble_eq_true rfl) (Nat.le_of_ble_eq_true rfl) dL_law_555 (fun rx u1 H locs ex hP hD hS => ?_)
  obtain ⟨x0, x1, x2, x3, x4⟩ := u1
  replace ex : (rx, x0, x1, x2, x3, x4) = (f_e_could_x9 v_q1 v_q2 v_q10 v_q12 v_k0 v_k1 v_k2 v_k3 v_k4 v_t0 v_t1 v_t2 v_t3 v_t4 v_fta v_ftc v_fn (xs ((iv + 1) : Int32).toNatClampNeg) (xs ((iv + 2) : Int32).toNatClampNeg) (xs ((iv + 3) : Int32).toNatClampNeg) (xs ((iv + 4) : Int32).toNatClampNeg)) := ex
  have hP : va_P D classes (((Wm_could cI cZ yh Rf G f0 f8 f10) ++ wr) ++ (Wx_could cI cZ xh v_x v_q1 v_q2 v_rd v_t v_d v_nw v_ps v_im v_is_ v_q10 v_bk v_q12 v_qr v_pr v_cv v_ft v_t0 v_t1 v_t2 v_t3 v_t4 v_ta v_tb v_tc v_td v_te v_fta v_ftc v_nwc v_fn x0 x1 x2 x3 x4)) H := hP
  have hD : va_D (lw_A s) (((Wm_could cI cZ yh Rf G f0 f8 f10) ++ wr) ++ (Wx_could cI cZ xh v_x v_q1 v_q2 v_rd v_t v_d v_nw v_ps v_im v_is_ v_q10 v_bk v_q12 v_qr v_pr v_cv v_ft v_t0 v_t1 v_t2 v_t3 v_t4 v_ta v_tb v_tc v_td v_te v_fta v_ftc v_nwc v_fn x0 x1 x2 x3 x4)) := hD
  rw [List.append_assoc] at hP hD
  refine lv_pop hx hb dL_law_558 rfl ?_
  refine lv_aload_n hx hb dL_law_559 rfl (lv_at hl 2 rfl) ?_
  refine lv_aload_n hx hb dL_law_560 rfl (lv_at hl 0 rfl) ?_
  refine lv_iload_n hx hb dL_law_561 rfl (lv_at hl 3 rfl) ?_
  refine lv_iconst (v := 1) hx hb dL_law_562 (by decide) ?_
  refine lv_iadd hx hb dL_law_563 ?_
  refine va_sld hx hb hX hbl hbA hS hi1 dL_law_564 ?_
  refine lv_aload_n hx hb dL_law_565 rfl (lv_at hl 0 rfl) ?_
  refine lv_iload_n hx hb dL_law_566 rfl (lv_at hl 3 rfl) ?_
  refine lv_iconst (v := 2) hx hb dL_law_567 (by decide) ?_
  refine lv_iadd hx hb dL_law_568 ?_
  refine va_sld hx hb hX hbl hbA hS hi2 dL_law_569 ?_
  refine lv_aload_n hx hb dL_law_570 rfl (lv_at hl 0 rfl) ?_
  refine lv_iload_n hx hb dL_law_571 rfl (lv_at hl 3 rfl) ?_
  refine lv_iconst (v := 3) hx hb dL_law_572 (by decide) ?_
  refine lv_iadd hx hb dL_law_573 ?_
  refine va_sld hx hb hX hbl hbA hS hi3 dL_law_574 ?_
  refine lv_aload_n hx hb dL_law_575 rfl (lv_at hl 0 rfl) ?_
  refine lv_iload_n hx hb dL_law_576 rfl (lv_at hl 3 rfl) ?_
  refine lv_iconst (v := 4) hx hb dL_law_577 (by decide) ?_
  refine lv_iadd hx hb dL_law_578 ?_
  refine va_sld hx hb hX hbl hbA hS hi4 dL_law_579 ?_
  refine cVa (wc := (Wm_could cI cZ yh Rf G f0 f8 f10)) (wr := (wr ++ (Wx_could cI cZ xh v_x v_q1 v_q2 v_rd v_t v_d v_nw v_ps v_im v_is_ v_q10 v_bk v_q12 v_qr v_pr v_cv v_ft v_t0 v_t1 v_t2 v_t3 v_t4 v_ta v_tb v_tc v_td v_te v_fta v_ftc v_nwc v_fn x0 x1 x2 x3 x4))) (rest := []) (m_could Rf yh G f0 f10 f8 (xs ((iv + 1) : Int32).toNatClampNeg) (xs ((iv + 2) : Int32).toNatClampNeg) (xs ((iv + 3) : Int32).toNatClampNeg) (xs ((iv + 4) : Int32).toNatClampNeg) hs) okV_X10_could wd_812 hx hb hml hown hts hK hP hD hS hA hN hl.1 rfl rfl rfl (Nat.le_of_ble_eq_true rfl) (Nat.le_of_ble_eq_true rfl) (Nat.le_of_ble_eq_true rfl) (Nat.le_of_ble_eq_true rfl) (Nat.le_of_ble_eq_true rfl) dL_law_580 (fun ry u2 H locs em hP hD hS => ?_)
  obtain ⟨y0, hy0⟩ : ∃ q, q = u2 := ⟨_, rfl⟩
  subst hy0
  replace em : (ry, y0) = (f_m_could G f0 f10 f8 (xs ((iv + 1) : Int32).toNatClampNeg) (xs ((iv + 2) : Int32).toNatClampNeg) (xs ((iv + 3) : Int32).toNatClampNeg) (xs ((iv + 4) : Int32).toNatClampNeg)) := em
  have hP : va_P D classes ((wr ++ (Wx_could cI cZ xh v_x v_q1 v_q2 v_rd v_t v_d v_nw v_ps v_im v_is_ v_q10 v_bk v_q12 v_qr v_pr v_cv v_ft v_t0 v_t1 v_t2 v_t3 v_t4 v_ta v_tb v_tc v_td v_te v_fta v_ftc v_nwc v_fn x0 x1 x2 x3 x4)) ++ (Wm_could cI cZ yh Rf y0 f0 f8 f10)) H := hP
  have hD : va_D (lw_A s) ((wr ++ (Wx_could cI cZ xh v_x v_q1 v_q2 v_rd v_t v_d v_nw v_ps v_im v_is_ v_q10 v_bk v_q12 v_qr v_pr v_cv v_ft v_t0 v_t1 v_t2 v_t3 v_t4 v_ta v_tb v_tc v_td v_te v_fta v_ftc v_nwc v_fn x0 x1 x2 x3 x4)) ++ (Wm_could cI cZ yh Rf y0 f0 f8 f10)) := hD
  refine lv_pop hx hb dL_law_583 rfl ?_
  refine lv_goto (tgt := 1015) hx hb dL_law_584 (by decide) ?_
  exact hnext rx x0 x1 x2 x3 x4 ry y0 _ _ _ ex em (permP rot hP) (permD rot hD) hS hl
def Wx_bestTheme (cI cZ : ClassId) (xh : Nat) (v_x : Nat) (v_q1 : Int32) (v_q2 : Int32) (v_rd : Nat) (v_t : Nat) (v_d : Nat) (v_nw : Nat) (v_ps : Nat) (v_im : Nat) (v_is_ : Nat) (v_q10 : Int32) (v_bk : Nat) (v_q12 : Int32) (v_qr : Nat) (v_pr : Nat) (v_cv : Nat) (v_ft : Nat) (v_t0 : Int32) (v_t1 : Int32) (v_t2 : Int32) (v_t3 : Int32) (v_t4 : Int32) (v_ta : Nat) (v_tb : Nat) (v_tc : Nat) (v_td : Nat) (v_te : Nat) (v_fta : Nat → Int32) (v_ftc : Nat → Int32) (v_nwc : Nat) (v_fn : Nat → Int32) (v_k0 : Int32) (v_k1 : Int32) (v_k2 : Int32) (v_k3 : Int32) (v_k4 : Int32) : va_W := [(xh, .inr (9, [.ref v_x, .int v_q1, .int v_q2, .ref v_rd, .ref v_t, .ref v_d, .ref v_nw, .ref v_ps, .ref v_im, .ref v_is_, .int v_q10, .ref v_bk, .int v_q12, .ref v_qr, .ref v_pr, .ref v_cv, .ref v_ft])), (v_qr, .inr (4, [.int v_k0, .int v_k1, .int v_k2, .int v_k3, .int v_k4])), (v_t, .inr (8, [.int v_t0, .int v_t1, .int v_t2, .int v_t3, .int v_t4, .ref v_ta, .ref v_tb, .ref v_tc, .ref v_td, .ref v_te])), (v_ta, .inl (cI, 6, .inl v_fta)), (v_tc, .inl (cI, 30, .inl v_ftc)), (v_nw, .inr (7, [.ref v_nwc])), (v_nwc, .inl (cI, 41, .inl v_fn))]
def Wm_bestTheme (cI cZ : ClassId) (yh : Nat) (Rf : Nat → Nat) (G : Nat → Int32) (f0 : Nat → Int32) (f8 : Nat → Int32) (f10 : Nat → Int32) : va_W := [(yh, .inr (10, ML G Rf)), ((Rf 0), .inl (cI, 1302, .inl f0)), ((Rf 10), .inl (cI, 30, .inl f10)), ((Rf 8), .inl (cI, 6, .inl f8))]
set_option maxHeartbeats 4000000 in
set_option maxRecDepth 100000 in
theorem law_bestTheme {p : Program} {l : Launch} {e : Env} {s : State} {m : MethodId} {below : List Frame} {meth : Method} {c : Code} {D : va_G} {cI cZ : ClassId} {b : Nat} {xs : Nat → Int32} {L : Nat} (wr : va_W) (v_x : Nat) (v_q1 : Int32) (v_q2 : Int32) (v_rd : Nat) (v_t : Nat) (v_d : Nat) (v_nw : Nat) (v_ps : Nat) (v_im : Nat) (v_is_ : Nat) (v_q10 : Int32) (v_bk : Nat) (v_q12 : Int32) (v_qr : Nat) (v_pr : Nat) (v_cv : Nat) (v_ft : Nat) (v_t0 : Int32) (v_t1 : Int32) (v_t2 : Int32) (v_t3 : Int32) (v_t4 : Int32) (v_ta : Nat) (v_tb : Nat) (v_tc : Nat) (v_td : Nat) (v_te : Nat) (v_fta : Nat → Int32) (v_ftc : Nat → Int32) (v_nwc : Nat) (v_fn : Nat → Int32) (v_k0 : Int32) (v_k1 : Int32) (v_k2 : Int32) (v_k3 : Int32) (v_k4 : Int32) (Rf : Nat → Nat) (G : Nat → Int32) (f0 : Nat → Int32) (f8 : Nat → Int32) (f10 : Nat → Int32) {xh yh : Nat} {iv : Int32} (C0 : lw_C p s m meth c b L xs) {H : Heap} {locs : List Loc} {ls : Array Slot} (hi1 : ¬ ((iv + 1) < 0 ∨ L ≤ (iv + 1 : Int32).toNatClampNeg)) (hi2 : ¬ ((iv + 2) < 0 ∨ L ≤ (iv + 2 : Int32).toNatClampNeg)) (hi3 : ¬ ((iv + 3) < 0 ∨ L ≤ (iv + 3 : Int32).toNatClampNeg)) (hi4 : ¬ ((iv + 4) < 0 ∨ L ≤ (iv + 4 : Int32).toNatClampNeg)) (hK : va_K D classes (TYS cI cZ) s) (hs : S_m_bestTheme G f0 f10 f8 (xs ((iv + 1) : Int32).toNatClampNeg) (xs ((iv + 2) : Int32).toNatClampNeg)) (hP : va_P D classes ((Wx_bestTheme cI cZ xh v_x v_q1 v_q2 v_rd v_t v_d v_nw v_ps v_im v_is_ v_q10 v_bk v_q12 v_qr v_pr v_cv v_ft v_t0 v_t1 v_t2 v_t3 v_t4 v_ta v_tb v_tc v_td v_te v_fta v_ftc v_nwc v_fn v_k0 v_k1 v_k2 v_k3 v_k4) ++ ((Wm_bestTheme cI cZ yh Rf G f0 f8 f10) ++ wr)) H) (hD : va_D (lw_A s) ((Wx_bestTheme cI cZ xh v_x v_q1 v_q2 v_rd v_t v_d v_nw v_ps v_im v_is_ v_q10 v_bk v_q12 v_qr v_pr v_cv v_ft v_t0 v_t1 v_t2 v_t3 v_t4 v_ta v_tb v_tc v_td v_te v_fta v_ftc v_nwc v_fn v_k0 v_k1 v_k2 v_k3 v_k4) ++ ((Wm_bestTheme cI cZ yh Rf G f0 f8 f10) ++ wr))) (hS : va_S (lw_A s) s.heap H locs) (hl : lv_has ls 4 [(0, .ref b), (1, .ref xh), (2, .ref yh), (3, .int iv)]) (hnext : ∀ (rx : Int32) (x0 : Int32) (x1 : Int32) (x2 : Int32) (x3 : Int32) (x4 : Int32) (ry : Int32) (y0 : (Nat → Int32)) (H : Heap) (locs : List Loc) (ls : Array Slot), (rx, x0, x1, x2, x3, x4) = (f_e_bestTheme_x9 v_q1 v_q2 v_q10 v_q12 v_k0 v_k1 v_k2 v_k3 v_k4 v_t0 v_t1 v_t2 v_t3 v_t4 v_fta v_ftc v_fn (xs ((iv + 1) : Int32).toNatClampNeg) (xs ((iv + 2) : Int32).toNatClampNeg)) → (ry, y0) = (f_m_bestTheme G f0 f10 f8 (xs ((iv + 1) : Int32).toNatClampNeg) (xs ((iv + 2) : Int32).toNatClampNeg)) → va_P D classes ((Wx_bestTheme cI cZ xh v_x v_q1 v_q2 v_rd v_t v_d v_nw v_ps v_im v_is_ v_q10 v_bk v_q12 v_qr v_pr v_cv v_ft v_t0 v_t1 v_t2 v_t3 v_t4 v_ta v_tb v_tc v_td v_te v_fta v_ftc v_nwc v_fn x0 x1 x2 x3 x4) ++ ((Wm_bestTheme cI cZ yh Rf y0 f0 f8 f10) ++ wr)) H → va_D (lw_A s) ((Wx_bestTheme cI cZ xh v_x v_q1 v_q2 v_rd v_t v_d v_nw v_ps v_im v_is_ v_q10 v_bk v_q12 v_qr v_pr v_cv v_ft v_t0 v_t1 v_t2 v_t3 v_t4 v_ta v_tb v_tc v_td v_te v_fta v_ftc v_nwc v_fn x0 x1 x2 x3 x4) ++ ((Wm_bestTheme cI cZ yh Rf y0 f0 f8 f10) ++ wr)) → va_S (lw_A s) s.heap H locs → lv_has ls 4 [(0, .ref b), (1, .ref xh), (2, .ref yh), (3, .int iv)] → W p l e room_1 s m #[Value.ref b] below meth c H locs 60 4269 (lw_Z below #[Value.ref b] s) (F0 m 1015 ls [])) : W p l e room_1 s m #[Value.ref b] below meth c H locs 60 4269 (lw_Z below #[Value.ref b] s) (F0 m 587 ls []) := by
  obtain ⟨hx, hb, hr, hml, hown, hts, hX, hbl, hlocks, hN⟩ := C0
  have hA : ∀ q, s.heap.size ≤ q → lw_A s q := fun _ h => h
  have hbA : ¬ lw_A s b := Nat.not_le.mpr hbl
  refine lv_aload_n hx hb dL_law_587 rfl (lv_at hl 1 rfl) ?_
  refine lv_aload_n hx hb dL_law_588 rfl (lv_at hl 0 rfl) ?_
  refine lv_iload_n hx hb dL_law_589 rfl (lv_at hl 3 rfl) ?_
  refine lv_iconst (v := 1) hx hb dL_law_590 (by decide) ?_
  refine lv_iadd hx hb dL_law_591 ?_
  refine va_sld hx hb hX hbl hbA hS hi1 dL_law_592 ?_
  refine lv_aload_n hx hb dL_law_593 rfl (lv_at hl 0 rfl) ?_
  refine lv_iload_n hx hb dL_law_594 rfl (lv_at hl 3 rfl) ?_
  refine lv_iconst (v := 2) hx hb dL_law_595 (by decide) ?_
  refine lv_iadd hx hb dL_law_596 ?_
  refine va_sld hx hb hX hbl hbA hS hi2 dL_law_597 ?_
  refine cVa (wc := (Wx_bestTheme cI cZ xh v_x v_q1 v_q2 v_rd v_t v_d v_nw v_ps v_im v_is_ v_q10 v_bk v_q12 v_qr v_pr v_cv v_ft v_t0 v_t1 v_t2 v_t3 v_t4 v_ta v_tb v_tc v_td v_te v_fta v_ftc v_nwc v_fn v_k0 v_k1 v_k2 v_k3 v_k4)) (wr := ((Wm_bestTheme cI cZ yh Rf G f0 f8 f10) ++ wr)) (rest := []) (e_bestTheme_x9 xh v_x v_rd v_t v_d v_nw v_ps v_im v_is_ v_bk v_qr v_pr v_cv v_ft v_ta v_tb v_tc v_td v_te v_nwc v_q1 v_q2 v_q10 v_q12 v_k0 v_k1 v_k2 v_k3 v_k4 v_t0 v_t1 v_t2 v_t3 v_t4 v_fta v_ftc v_fn (xs ((iv + 1) : Int32).toNatClampNeg) (xs ((iv + 2) : Int32).toNatClampNeg)) okV_X9_bestTheme wd_816 hx hb hml hown hts hK hP hD hS hA hN hl.1 rfl rfl rfl (Nat.le_of_ble_eq_true rfl) (Nat.le_of_ble_eq_true rfl) (Nat.le_of_ble_eq_true rfl) (Nat.le_of_ble_eq_true rfl) (Nat.le_of_ble_eq_true rfl) dL_law_598 (fun rx u1 H locs ex hP hD hS => ?_)
  obtain ⟨x0, x1, x2, x3, x4⟩ := u1
  replace ex : (rx, x0, x1, x2, x3, x4) = (f_e_bestTheme_x9 v_q1 v_q2 v_q10 v_q12 v_k0 v_k1 v_k2 v_k3 v_k4 v_t0 v_t1 v_t2 v_t3 v_t4 v_fta v_ftc v_fn (xs ((iv + 1) : Int32).toNatClampNeg) (xs ((iv + 2) : Int32).toNatClampNeg)) := ex
  have hP : va_P D classes (((Wm_bestTheme cI cZ yh Rf G f0 f8 f10) ++ wr) ++ (Wx_bestTheme cI cZ xh v_x v_q1 v_q2 v_rd v_t v_d v_nw v_ps v_im v_is_ v_q10 v_bk v_q12 v_qr v_pr v_cv v_ft v_t0 v_t1 v_t2 v_t3 v_t4 v_ta v_tb v_tc v_td v_te v_fta v_ftc v_nwc v_fn x0 x1 x2 x3 x4)) H := hP
  have hD : va_D (lw_A s) (((Wm_bestTheme cI cZ yh Rf G f0 f8 f10) ++ wr) ++ (Wx_bestTheme cI cZ xh v_x v_q1 v_q2 v_rd v_t v_d v_nw v_ps v_im v_is_ v_q10 v_bk v_q12 v_qr v_pr v_cv v_ft v_t0 v_t1 v_t2 v_t3 v_t4 v_ta v_tb v_tc v_td v_te v_fta v_ftc v_nwc v_fn x0 x1 x2 x3 x4)) := hD
  rw [List.append_assoc] at hP hD
  refine lv_pop hx hb dL_law_601 rfl ?_
  refine lv_aload_n hx hb dL_law_602 rfl (lv_at hl 2 rfl) ?_
  refine lv_aload_n hx hb dL_law_603 rfl (lv_at hl 0 rfl) ?_
  refine lv_iload_n hx hb dL_law_604 rfl (lv_at hl 3 rfl) ?_
  refine lv_iconst (v := 1) hx hb dL_law_605 (by decide) ?_
  refine lv_iadd hx hb dL_law_606 ?_
  refine va_sld hx hb hX hbl hbA hS hi1 dL_law_607 ?_
  refine lv_aload_n hx hb dL_law_608 rfl (lv_at hl 0 rfl) ?_
  refine lv_iload_n hx hb dL_law_609 rfl (lv_at hl 3 rfl) ?_
  refine lv_iconst (v := 2) hx hb dL_law_610 (by decide) ?_
  refine lv_iadd hx hb dL_law_611 ?_
  refine va_sld hx hb hX hbl hbA hS hi2 dL_law_612 ?_
  refine cVa (wc := (Wm_bestTheme cI cZ yh Rf G f0 f8 f10)) (wr := (wr ++ (Wx_bestTheme cI cZ xh v_x v_q1 v_q2 v_rd v_t v_d v_nw v_ps v_im v_is_ v_q10 v_bk v_q12 v_qr v_pr v_cv v_ft v_t0 v_t1 v_t2 v_t3 v_t4 v_ta v_tb v_tc v_td v_te v_fta v_ftc v_nwc v_fn x0 x1 x2 x3 x4))) (rest := []) (m_bestTheme Rf yh G f0 f10 f8 (xs ((iv + 1) : Int32).toNatClampNeg) (xs ((iv + 2) : Int32).toNatClampNeg) hs) okV_X10_bestTheme wd_820 hx hb hml hown hts hK hP hD hS hA hN hl.1 rfl rfl rfl (Nat.le_of_ble_eq_true rfl) (Nat.le_of_ble_eq_true rfl) (Nat.le_of_ble_eq_true rfl) (Nat.le_of_ble_eq_true rfl) (Nat.le_of_ble_eq_true rfl) dL_law_613 (fun ry u2 H locs em hP hD hS => ?_)
  obtain ⟨y0, hy0⟩ : ∃ q, q = u2 := ⟨_, rfl⟩
  subst hy0
  replace em : (ry, y0) = (f_m_bestTheme G f0 f10 f8 (xs ((iv + 1) : Int32).toNatClampNeg) (xs ((iv + 2) : Int32).toNatClampNeg)) := em
  have hP : va_P D classes ((wr ++ (Wx_bestTheme cI cZ xh v_x v_q1 v_q2 v_rd v_t v_d v_nw v_ps v_im v_is_ v_q10 v_bk v_q12 v_qr v_pr v_cv v_ft v_t0 v_t1 v_t2 v_t3 v_t4 v_ta v_tb v_tc v_td v_te v_fta v_ftc v_nwc v_fn x0 x1 x2 x3 x4)) ++ (Wm_bestTheme cI cZ yh Rf y0 f0 f8 f10)) H := hP
  have hD : va_D (lw_A s) ((wr ++ (Wx_bestTheme cI cZ xh v_x v_q1 v_q2 v_rd v_t v_d v_nw v_ps v_im v_is_ v_q10 v_bk v_q12 v_qr v_pr v_cv v_ft v_t0 v_t1 v_t2 v_t3 v_t4 v_ta v_tb v_tc v_td v_te v_fta v_ftc v_nwc v_fn x0 x1 x2 x3 x4)) ++ (Wm_bestTheme cI cZ yh Rf y0 f0 f8 f10)) := hD
  refine lv_pop hx hb dL_law_616 rfl ?_
  refine lv_goto (tgt := 1015) hx hb dL_law_617 (by decide) ?_
  exact hnext rx x0 x1 x2 x3 x4 ry y0 _ _ _ ex em (permP rot hP) (permD rot hD) hS hl
end
