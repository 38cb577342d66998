section
-- ===== PART A: goes FIRST, ahead of the names: the tables' words, and 'selects' of the private methods out of them =====
/-- a private method of a class that the tables say can be made, by its rows of tables_1 -/
def lw_okq (q : MethodName × Nat) : Prop := (q.1.cls ≠ "java/lang/invoke/MethodHandle" ∧ q.1.cls ≠ "java/lang/invoke/VarHandle") ∧ Cond.instantiable q.1.cls q.2 ∈ tables_1 ∧ Cond.privateMethod q.1 ∈ tables_1 ∧ Cond.instanceMethod q.1 ∈ tables_1
theorem lw_p0 : lw_okq (⟨"QuarrelBridges$Reader", "next", "()I"⟩, 7) := ⟨⟨by decide +kernel, by decide +kernel⟩, List.mem_of_getElem? (i := 25) (by decide +kernel), List.mem_of_getElem? (i := 347) (by decide +kernel), List.mem_of_getElem? (i := 348) (by decide +kernel)⟩
theorem lw_p1 : lw_okq (⟨"QuarrelBridges$Reader", "letter", "()I"⟩, 7) := ⟨⟨by decide +kernel, by decide +kernel⟩, List.mem_of_getElem? (i := 25) (by decide +kernel), List.mem_of_getElem? (i := 351) (by decide +kernel), List.mem_of_getElem? (i := 352) (by decide +kernel)⟩
theorem lw_p2 : lw_okq (⟨"QuarrelBridges$Reader", "readClause", "(LQuarrelBridges$Town;)V"⟩, 7) := ⟨⟨by decide +kernel, by decide +kernel⟩, List.mem_of_getElem? (i := 25) (by decide +kernel), List.mem_of_getElem? (i := 355) (by decide +kernel), List.mem_of_getElem? (i := 356) (by decide +kernel)⟩
theorem lw_p3 : lw_okq (⟨"QuarrelBridges$Reader", "blame", "(II)V"⟩, 7) := ⟨⟨by decide +kernel, by decide +kernel⟩, List.mem_of_getElem? (i := 25) (by decide +kernel), List.mem_of_getElem? (i := 359) (by decide +kernel), List.mem_of_getElem? (i := 360) (by decide +kernel)⟩
theorem lw_p4 : lw_okq (⟨"QuarrelBridges$Reader", "isTooOften", "(ILQuarrelBridges$Town;)Z"⟩, 7) := ⟨⟨by decide +kernel, by decide +kernel⟩, List.mem_of_getElem? (i := 25) (by decide +kernel), List.mem_of_getElem? (i := 363) (by decide +kernel), List.mem_of_getElem? (i := 364) (by decide +kernel)⟩
theorem lw_p5 : lw_okq (⟨"QuarrelBridges$Reader", "readBridges", "(LQuarrelBridges$Town;)V"⟩, 7) := ⟨⟨by decide +kernel, by decide +kernel⟩, List.mem_of_getElem? (i := 25) (by decide +kernel), List.mem_of_getElem? (i := 367) (by decide +kernel), List.mem_of_getElem? (i := 368) (by decide +kernel)⟩
theorem lw_p6 : lw_okq (⟨"QuarrelBridges$Reader", "number", "(II)I"⟩, 7) := ⟨⟨by decide +kernel, by decide +kernel⟩, List.mem_of_getElem? (i := 25) (by decide +kernel), List.mem_of_getElem? (i := 371) (by decide +kernel), List.mem_of_getElem? (i := 372) (by decide +kernel)⟩
theorem lw_p7 : lw_okq (⟨"QuarrelBridges$Reader", "isFigure", "(I)Z"⟩, 7) := ⟨⟨by decide +kernel, by decide +kernel⟩, List.mem_of_getElem? (i := 25) (by decide +kernel), List.mem_of_getElem? (i := 375) (by decide +kernel), List.mem_of_getElem? (i := 376) (by decide +kernel)⟩
theorem lw_p8 : lw_okq (⟨"QuarrelBridges$Reader", "readCouple", "(LQuarrelBridges$Town;)V"⟩, 7) := ⟨⟨by decide +kernel, by decide +kernel⟩, List.mem_of_getElem? (i := 25) (by decide +kernel), List.mem_of_getElem? (i := 380) (by decide +kernel), List.mem_of_getElem? (i := 381) (by decide +kernel)⟩
theorem lw_p9 : lw_okq (⟨"QuarrelBridges$Reader", "expect", "(I)V"⟩, 7) := ⟨⟨by decide +kernel, by decide +kernel⟩, List.mem_of_getElem? (i := 25) (by decide +kernel), List.mem_of_getElem? (i := 384) (by decide +kernel), List.mem_of_getElem? (i := 385) (by decide +kernel)⟩
theorem lw_p10 : lw_okq (⟨"QuarrelBridges$Reader", "readBarge", "(LQuarrelBridges$Town;)V"⟩, 7) := ⟨⟨by decide +kernel, by decide +kernel⟩, List.mem_of_getElem? (i := 25) (by decide +kernel), List.mem_of_getElem? (i := 388) (by decide +kernel), List.mem_of_getElem? (i := 389) (by decide +kernel)⟩
theorem lw_p11 : lw_okq (⟨"QuarrelBridges", "swing", "(I)Z"⟩, 17) := ⟨⟨by decide +kernel, by decide +kernel⟩, List.mem_of_getElem? (i := 17) (by decide +kernel), List.mem_of_getElem? (i := 539) (by decide +kernel), List.mem_of_getElem? (i := 540) (by decide +kernel)⟩
theorem lw_p12 : lw_okq (⟨"QuarrelBridges", "attempt", "(III)V"⟩, 17) := ⟨⟨by decide +kernel, by decide +kernel⟩, List.mem_of_getElem? (i := 17) (by decide +kernel), List.mem_of_getElem? (i := 543) (by decide +kernel), List.mem_of_getElem? (i := 544) (by decide +kernel)⟩
theorem lw_p13 : lw_okq (⟨"QuarrelBridges", "draw", "(I)I"⟩, 17) := ⟨⟨by decide +kernel, by decide +kernel⟩, List.mem_of_getElem? (i := 17) (by decide +kernel), List.mem_of_getElem? (i := 590) (by decide +kernel), List.mem_of_getElem? (i := 591) (by decide +kernel)⟩
theorem lw_p14 : lw_okq (⟨"QuarrelBridges", "themeFor", "(II)I"⟩, 17) := ⟨⟨by decide +kernel, by decide +kernel⟩, List.mem_of_getElem? (i := 17) (by decide +kernel), List.mem_of_getElem? (i := 618) (by decide +kernel), List.mem_of_getElem? (i := 619) (by decide +kernel)⟩
theorem lw_p15 : lw_okq (⟨"QuarrelBridges", "costFor", "(II)I"⟩, 17) := ⟨⟨by decide +kernel, by decide +kernel⟩, List.mem_of_getElem? (i := 17) (by decide +kernel), List.mem_of_getElem? (i := 626) (by decide +kernel), List.mem_of_getElem? (i := 627) (by decide +kernel)⟩
def lw_privs_1 : List (MethodName × Nat) := [(⟨"QuarrelBridges$Reader", "next", "()I"⟩, 7), (⟨"QuarrelBridges$Reader", "letter", "()I"⟩, 7), (⟨"QuarrelBridges$Reader", "readClause", "(LQuarrelBridges$Town;)V"⟩, 7), (⟨"QuarrelBridges$Reader", "blame", "(II)V"⟩, 7), (⟨"QuarrelBridges$Reader", "isTooOften", "(ILQuarrelBridges$Town;)Z"⟩, 7), (⟨"QuarrelBridges$Reader", "readBridges", "(LQuarrelBridges$Town;)V"⟩, 7), (⟨"QuarrelBridges$Reader", "number", "(II)I"⟩, 7), (⟨"QuarrelBridges$Reader", "isFigure", "(I)Z"⟩, 7), (⟨"QuarrelBridges$Reader", "readCouple", "(LQuarrelBridges$Town;)V"⟩, 7), (⟨"QuarrelBridges$Reader", "expect", "(I)V"⟩, 7), (⟨"QuarrelBridges$Reader", "readBarge", "(LQuarrelBridges$Town;)V"⟩, 7), (⟨"QuarrelBridges", "swing", "(I)Z"⟩, 17), (⟨"QuarrelBridges", "attempt", "(III)V"⟩, 17), (⟨"QuarrelBridges", "draw", "(I)I"⟩, 17), (⟨"QuarrelBridges", "themeFor", "(II)I"⟩, 17), (⟨"QuarrelBridges", "costFor", "(II)I"⟩, 17)]
theorem lw_r1 : ∀ q ∈ lw_privs_1, lw_okq q := List.forall_mem_cons.mpr ⟨lw_p0, List.forall_mem_cons.mpr ⟨lw_p1, List.forall_mem_cons.mpr ⟨lw_p2, List.forall_mem_cons.mpr ⟨lw_p3, List.forall_mem_cons.mpr ⟨lw_p4, List.forall_mem_cons.mpr ⟨lw_p5, List.forall_mem_cons.mpr ⟨lw_p6, List.forall_mem_cons.mpr ⟨lw_p7, List.forall_mem_cons.mpr ⟨lw_p8, List.forall_mem_cons.mpr ⟨lw_p9, List.forall_mem_cons.mpr ⟨lw_p10, List.forall_mem_cons.mpr ⟨lw_p11, List.forall_mem_cons.mpr ⟨lw_p12, List.forall_mem_cons.mpr ⟨lw_p13, List.forall_mem_cons.mpr ⟨lw_p14, List.forall_mem_cons.mpr ⟨lw_p15, fun _ h => absurd h List.not_mem_nil⟩⟩⟩⟩⟩⟩⟩⟩⟩⟩⟩⟩⟩⟩⟩⟩
theorem lw_p16 : lw_okq (⟨"QuarrelBridges$Pairing", "weigh", "(III)V"⟩, 3) := ⟨⟨by decide +kernel, by decide +kernel⟩, List.mem_of_getElem? (i := 208) (by decide +kernel), List.mem_of_getElem? (i := 645) (by decide +kernel), List.mem_of_getElem? (i := 646) (by decide +kernel)⟩
theorem lw_p17 : lw_okq (⟨"QuarrelBridges", "noteOpenings", "(I)V"⟩, 17) := ⟨⟨by decide +kernel, by decide +kernel⟩, List.mem_of_getElem? (i := 17) (by decide +kernel), List.mem_of_getElem? (i := 669) (by decide +kernel), List.mem_of_getElem? (i := 670) (by decide +kernel)⟩
theorem lw_p18 : lw_okq (⟨"QuarrelBridges$Convoy", "minuteBehind", "(I)I"⟩, 10) := ⟨⟨by decide +kernel, by decide +kernel⟩, List.mem_of_getElem? (i := 224) (by decide +kernel), List.mem_of_getElem? (i := 683) (by decide +kernel), List.mem_of_getElem? (i := 684) (by decide +kernel)⟩
theorem lw_p19 : lw_okq (⟨"QuarrelBridges$Convoy", "weigh", "(II)V"⟩, 10) := ⟨⟨by decide +kernel, by decide +kernel⟩, List.mem_of_getElem? (i := 224) (by decide +kernel), List.mem_of_getElem? (i := 687) (by decide +kernel), List.mem_of_getElem? (i := 688) (by decide +kernel)⟩
theorem lw_p20 : lw_okq (⟨"QuarrelBridges$Convoy", "layOutRow", "()V"⟩, 10) := ⟨⟨by decide +kernel, by decide +kernel⟩, List.mem_of_getElem? (i := 224) (by decide +kernel), List.mem_of_getElem? (i := 691) (by decide +kernel), List.mem_of_getElem? (i := 692) (by decide +kernel)⟩
theorem lw_p21 : lw_okq (⟨"QuarrelBridges", "minutesLeft", "(II)I"⟩, 17) := ⟨⟨by decide +kernel, by decide +kernel⟩, List.mem_of_getElem? (i := 17) (by decide +kernel), List.mem_of_getElem? (i := 703) (by decide +kernel), List.mem_of_getElem? (i := 704) (by decide +kernel)⟩
theorem lw_p22 : lw_okq (⟨"QuarrelBridgesModel", "begins", "()V"⟩, 45) := ⟨⟨by decide +kernel, by decide +kernel⟩, List.mem_of_getElem? (i := 774) (by decide +kernel), List.mem_of_getElem? (i := 780) (by decide +kernel), List.mem_of_getElem? (i := 781) (by decide +kernel)⟩
theorem lw_p23 : lw_okq (⟨"QuarrelBridgesModel", "here", "()I"⟩, 45) := ⟨⟨by decide +kernel, by decide +kernel⟩, List.mem_of_getElem? (i := 774) (by decide +kernel), List.mem_of_getElem? (i := 935) (by decide +kernel), List.mem_of_getElem? (i := 936) (by decide +kernel)⟩
theorem lw_p24 : lw_okq (⟨"QuarrelBridgesModel", "letterAt", "(I)I"⟩, 45) := ⟨⟨by decide +kernel, by decide +kernel⟩, List.mem_of_getElem? (i := 774) (by decide +kernel), List.mem_of_getElem? (i := 939) (by decide +kernel), List.mem_of_getElem? (i := 940) (by decide +kernel)⟩
theorem lw_p25 : lw_okq (⟨"QuarrelBridgesModel", "takesClause", "()Z"⟩, 45) := ⟨⟨by decide +kernel, by decide +kernel⟩, List.mem_of_getElem? (i := 774) (by decide +kernel), List.mem_of_getElem? (i := 943) (by decide +kernel), List.mem_of_getElem? (i := 944) (by decide +kernel)⟩
theorem lw_p26 : lw_okq (⟨"QuarrelBridgesModel", "fails", "(II)Z"⟩, 45) := ⟨⟨by decide +kernel, by decide +kernel⟩, List.mem_of_getElem? (i := 774) (by decide +kernel), List.mem_of_getElem? (i := 947) (by decide +kernel), List.mem_of_getElem? (i := 948) (by decide +kernel)⟩
theorem lw_p27 : lw_okq (⟨"QuarrelBridgesModel", "takesBridges", "()Z"⟩, 45) := ⟨⟨by decide +kernel, by decide +kernel⟩, List.mem_of_getElem? (i := 774) (by decide +kernel), List.mem_of_getElem? (i := 951) (by decide +kernel), List.mem_of_getElem? (i := 952) (by decide +kernel)⟩
theorem lw_p28 : lw_okq (⟨"QuarrelBridgesModel", "takesNumber", "(II)Z"⟩, 45) := ⟨⟨by decide +kernel, by decide +kernel⟩, List.mem_of_getElem? (i := 774) (by decide +kernel), List.mem_of_getElem? (i := 955) (by decide +kernel), List.mem_of_getElem? (i := 956) (by decide +kernel)⟩
theorem lw_p29 : lw_okq (⟨"QuarrelBridgesModel", "takesThemes", "()Z"⟩, 45) := ⟨⟨by decide +kernel, by decide +kernel⟩, List.mem_of_getElem? (i := 774) (by decide +kernel), List.mem_of_getElem? (i := 961) (by decide +kernel), List.mem_of_getElem? (i := 962) (by decide +kernel)⟩
theorem lw_p30 : lw_okq (⟨"QuarrelBridgesModel", "takesCouple", "()Z"⟩, 45) := ⟨⟨by decide +kernel, by decide +kernel⟩, List.mem_of_getElem? (i := 774) (by decide +kernel), List.mem_of_getElem? (i := 965) (by decide +kernel), List.mem_of_getElem? (i := 966) (by decide +kernel)⟩
theorem lw_p31 : lw_okq (⟨"QuarrelBridgesModel", "takes", "(I)Z"⟩, 45) := ⟨⟨by decide +kernel, by decide +kernel⟩, List.mem_of_getElem? (i := 774) (by decide +kernel), List.mem_of_getElem? (i := 969) (by decide +kernel), List.mem_of_getElem? (i := 970) (by decide +kernel)⟩
def lw_privs_2 : List (MethodName × Nat) := [(⟨"QuarrelBridges$Pairing", "weigh", "(III)V"⟩, 3), (⟨"QuarrelBridges", "noteOpenings", "(I)V"⟩, 17), (⟨"QuarrelBridges$Convoy", "minuteBehind", "(I)I"⟩, 10), (⟨"QuarrelBridges$Convoy", "weigh", "(II)V"⟩, 10), (⟨"QuarrelBridges$Convoy", "layOutRow", "()V"⟩, 10), (⟨"QuarrelBridges", "minutesLeft", "(II)I"⟩, 17), (⟨"QuarrelBridgesModel", "begins", "()V"⟩, 45), (⟨"QuarrelBridgesModel", "here", "()I"⟩, 45), (⟨"QuarrelBridgesModel", "letterAt", "(I)I"⟩, 45), (⟨"QuarrelBridgesModel", "takesClause", "()Z"⟩, 45), (⟨"QuarrelBridgesModel", "fails", "(II)Z"⟩, 45), (⟨"QuarrelBridgesModel", "takesBridges", "()Z"⟩, 45), (⟨"QuarrelBridgesModel", "takesNumber", "(II)Z"⟩, 45), (⟨"QuarrelBridgesModel", "takesThemes", "()Z"⟩, 45), (⟨"QuarrelBridgesModel", "takesCouple", "()Z"⟩, 45), (⟨"QuarrelBridgesModel", "takes", "(I)Z"⟩, 45)]
theorem lw_r2 : ∀ q ∈ lw_privs_2, lw_okq q := List.forall_mem_cons.mpr ⟨lw_p16, List.forall_mem_cons.mpr ⟨lw_p17, List.forall_mem_cons.mpr ⟨lw_p18, List.forall_mem_cons.mpr ⟨lw_p19, List.forall_mem_cons.mpr ⟨lw_p20, List.forall_mem_cons.mpr ⟨lw_p21, List.forall_mem_cons.mpr ⟨lw_p22, List.forall_mem_cons.mpr ⟨lw_p23, List.forall_mem_cons.mpr ⟨lw_p24, List.forall_mem_cons.mpr ⟨lw_p25, List.forall_mem_cons.mpr ⟨lw_p26, List.forall_mem_cons.mpr ⟨lw_p27, List.forall_mem_cons.mpr ⟨lw_p28, List.forall_mem_cons.mpr ⟨lw_p29, List.forall_mem_cons.mpr ⟨lw_p30, List.forall_mem_cons.mpr ⟨lw_p31, fun _ h => absurd h List.not_mem_nil⟩⟩⟩⟩⟩⟩⟩⟩⟩⟩⟩⟩⟩⟩⟩⟩
theorem lw_p32 : lw_okq (⟨"QuarrelBridgesModel", "takesBarge", "()Z"⟩, 45) := ⟨⟨by decide +kernel, by decide +kernel⟩, List.mem_of_getElem? (i := 774) (by decide +kernel), List.mem_of_getElem? (i := 973) (by decide +kernel), List.mem_of_getElem? (i := 974) (by decide +kernel)⟩
theorem lw_p33 : lw_okq (⟨"QuarrelBridgesModel", "takesSnow", "()Z"⟩, 45) := ⟨⟨by decide +kernel, by decide +kernel⟩, List.mem_of_getElem? (i := 774) (by decide +kernel), List.mem_of_getElem? (i := 977) (by decide +kernel), List.mem_of_getElem? (i := 978) (by decide +kernel)⟩
theorem lw_p34 : lw_okq (⟨"QuarrelBridgesModel", "griefOf", "(I)I"⟩, 45) := ⟨⟨by decide +kernel, by decide +kernel⟩, List.mem_of_getElem? (i := 774) (by decide +kernel), List.mem_of_getElem? (i := 989) (by decide +kernel), List.mem_of_getElem? (i := 990) (by decide +kernel)⟩
theorem lw_p35 : lw_okq (⟨"QuarrelBridgesModel", "bargesThat", "(I)I"⟩, 45) := ⟨⟨by decide +kernel, by decide +kernel⟩, List.mem_of_getElem? (i := 774) (by decide +kernel), List.mem_of_getElem? (i := 998) (by decide +kernel), List.mem_of_getElem? (i := 999) (by decide +kernel)⟩
theorem lw_p36 : lw_okq (⟨"QuarrelBridgesModel", "isBridge", "(I)Z"⟩, 45) := ⟨⟨by decide +kernel, by decide +kernel⟩, List.mem_of_getElem? (i := 774) (by decide +kernel), List.mem_of_getElem? (i := 1006) (by decide +kernel), List.mem_of_getElem? (i := 1007) (by decide +kernel)⟩
theorem lw_p37 : lw_okq (⟨"QuarrelBridgesModel", "whoIsAt", "(II)I"⟩, 45) := ⟨⟨by decide +kernel, by decide +kernel⟩, List.mem_of_getElem? (i := 774) (by decide +kernel), List.mem_of_getElem? (i := 1011) (by decide +kernel), List.mem_of_getElem? (i := 1012) (by decide +kernel)⟩
theorem lw_p38 : lw_okq (⟨"QuarrelBridgesModel", "isCouple", "(I)Z"⟩, 45) := ⟨⟨by decide +kernel, by decide +kernel⟩, List.mem_of_getElem? (i := 774) (by decide +kernel), List.mem_of_getElem? (i := 1019) (by decide +kernel), List.mem_of_getElem? (i := 1020) (by decide +kernel)⟩
theorem lw_p39 : lw_okq (⟨"QuarrelBridgesModel", "isDone", "(I)Z"⟩, 45) := ⟨⟨by decide +kernel, by decide +kernel⟩, List.mem_of_getElem? (i := 774) (by decide +kernel), List.mem_of_getElem? (i := 1023) (by decide +kernel), List.mem_of_getElem? (i := 1024) (by decide +kernel)⟩
theorem lw_p40 : lw_okq (⟨"QuarrelBridgesModel", "isTheme", "(I)Z"⟩, 45) := ⟨⟨by decide +kernel, by decide +kernel⟩, List.mem_of_getElem? (i := 774) (by decide +kernel), List.mem_of_getElem? (i := 1031) (by decide +kernel), List.mem_of_getElem? (i := 1032) (by decide +kernel)⟩
theorem lw_p41 : lw_okq (⟨"QuarrelBridgesModel", "isBarge", "(I)Z"⟩, 45) := ⟨⟨by decide +kernel, by decide +kernel⟩, List.mem_of_getElem? (i := 774) (by decide +kernel), List.mem_of_getElem? (i := 1039) (by decide +kernel), List.mem_of_getElem? (i := 1040) (by decide +kernel)⟩
theorem lw_p42 : lw_okq (⟨"QuarrelBridgesModel", "copy", "(II)V"⟩, 45) := ⟨⟨by decide +kernel, by decide +kernel⟩, List.mem_of_getElem? (i := 774) (by decide +kernel), List.mem_of_getElem? (i := 1048) (by decide +kernel), List.mem_of_getElem? (i := 1049) (by decide +kernel)⟩
theorem lw_p43 : lw_okq (⟨"QuarrelBridgesModel", "minds", "()V"⟩, 45) := ⟨⟨by decide +kernel, by decide +kernel⟩, List.mem_of_getElem? (i := 774) (by decide +kernel), List.mem_of_getElem? (i := 1056) (by decide +kernel), List.mem_of_getElem? (i := 1057) (by decide +kernel)⟩
theorem lw_p44 : lw_okq (⟨"QuarrelBridgesModel", "passes", "(II)V"⟩, 45) := ⟨⟨by decide +kernel, by decide +kernel⟩, List.mem_of_getElem? (i := 774) (by decide +kernel), List.mem_of_getElem? (i := 1069) (by decide +kernel), List.mem_of_getElem? (i := 1070) (by decide +kernel)⟩
theorem lw_p45 : lw_okq (⟨"QuarrelBridgesModel", "quarrels", "(IIII)V"⟩, 45) := ⟨⟨by decide +kernel, by decide +kernel⟩, List.mem_of_getElem? (i := 774) (by decide +kernel), List.mem_of_getElem? (i := 1073) (by decide +kernel), List.mem_of_getElem? (i := 1074) (by decide +kernel)⟩
theorem lw_p46 : lw_okq (⟨"QuarrelBridgesModel", "stampOf", "(III)I"⟩, 45) := ⟨⟨by decide +kernel, by decide +kernel⟩, List.mem_of_getElem? (i := 774) (by decide +kernel), List.mem_of_getElem? (i := 1077) (by decide +kernel), List.mem_of_getElem? (i := 1078) (by decide +kernel)⟩
theorem lw_p47 : lw_okq (⟨"QuarrelBridgesModel", "grieves", "(II)V"⟩, 45) := ⟨⟨by decide +kernel, by decide +kernel⟩, List.mem_of_getElem? (i := 774) (by decide +kernel), List.mem_of_getElem? (i := 1086) (by decide +kernel), List.mem_of_getElem? (i := 1087) (by decide +kernel)⟩
def lw_privs_3 : List (MethodName × Nat) := [(⟨"QuarrelBridgesModel", "takesBarge", "()Z"⟩, 45), (⟨"QuarrelBridgesModel", "takesSnow", "()Z"⟩, 45), (⟨"QuarrelBridgesModel", "griefOf", "(I)I"⟩, 45), (⟨"QuarrelBridgesModel", "bargesThat", "(I)I"⟩, 45), (⟨"QuarrelBridgesModel", "isBridge", "(I)Z"⟩, 45), (⟨"QuarrelBridgesModel", "whoIsAt", "(II)I"⟩, 45), (⟨"QuarrelBridgesModel", "isCouple", "(I)Z"⟩, 45), (⟨"QuarrelBridgesModel", "isDone", "(I)Z"⟩, 45), (⟨"QuarrelBridgesModel", "isTheme", "(I)Z"⟩, 45), (⟨"QuarrelBridgesModel", "isBarge", "(I)Z"⟩, 45), (⟨"QuarrelBridgesModel", "copy", "(II)V"⟩, 45), (⟨"QuarrelBridgesModel", "minds", "()V"⟩, 45), (⟨"QuarrelBridgesModel", "passes", "(II)V"⟩, 45), (⟨"QuarrelBridgesModel", "quarrels", "(IIII)V"⟩, 45), (⟨"QuarrelBridgesModel", "stampOf", "(III)I"⟩, 45), (⟨"QuarrelBridgesModel", "grieves", "(II)V"⟩, 45)]
theorem lw_r3 : ∀ q ∈ lw_privs_3, lw_okq q := List.forall_mem_cons.mpr ⟨lw_p32, List.forall_mem_cons.mpr ⟨lw_p33, List.forall_mem_cons.mpr ⟨lw_p34, List.forall_mem_cons.mpr ⟨lw_p35, List.forall_mem_cons.mpr ⟨lw_p36, List.forall_mem_cons.mpr ⟨lw_p37, List.forall_mem_cons.mpr ⟨lw_p38, List.forall_mem_cons.mpr ⟨lw_p39, List.forall_mem_cons.mpr ⟨lw_p40, List.forall_mem_cons.mpr ⟨lw_p41, List.forall_mem_cons.mpr ⟨lw_p42, List.forall_mem_cons.mpr ⟨lw_p43, List.forall_mem_cons.mpr ⟨lw_p44, List.forall_mem_cons.mpr ⟨lw_p45, List.forall_mem_cons.mpr ⟨lw_p46, List.forall_mem_cons.mpr ⟨lw_p47, fun _ h => absurd h List.not_mem_nil⟩⟩⟩⟩⟩⟩⟩⟩⟩⟩⟩⟩⟩⟩⟩⟩
theorem lw_p48 : lw_okq (⟨"QuarrelBridgesModel", "draw", "(I)I"⟩, 45) := ⟨⟨by decide +kernel, by decide +kernel⟩, List.mem_of_getElem? (i := 774) (by decide +kernel), List.mem_of_getElem? (i := 1094) (by decide +kernel), List.mem_of_getElem? (i := 1095) (by decide +kernel)⟩
theorem lw_p49 : lw_okq (⟨"QuarrelBridgesModel", "opens", "(III)Z"⟩, 45) := ⟨⟨by decide +kernel, by decide +kernel⟩, List.mem_of_getElem? (i := 774) (by decide +kernel), List.mem_of_getElem? (i := 1106) (by decide +kernel), List.mem_of_getElem? (i := 1107) (by decide +kernel)⟩
theorem lw_p50 : lw_okq (⟨"QuarrelBridgesModel", "best", "(II)I"⟩, 45) := ⟨⟨by decide +kernel, by decide +kernel⟩, List.mem_of_getElem? (i := 774) (by decide +kernel), List.mem_of_getElem? (i := 1114) (by decide +kernel), List.mem_of_getElem? (i := 1115) (by decide +kernel)⟩
theorem lw_p51 : lw_okq (⟨"QuarrelBridgesModel", "layCosts", "()V"⟩, 45) := ⟨⟨by decide +kernel, by decide +kernel⟩, List.mem_of_getElem? (i := 774) (by decide +kernel), List.mem_of_getElem? (i := 1122) (by decide +kernel), List.mem_of_getElem? (i := 1123) (by decide +kernel)⟩
theorem lw_p52 : lw_okq (⟨"QuarrelBridgesModel", "findOrder", "()V"⟩, 45) := ⟨⟨by decide +kernel, by decide +kernel⟩, List.mem_of_getElem? (i := 774) (by decide +kernel), List.mem_of_getElem? (i := 1131) (by decide +kernel), List.mem_of_getElem? (i := 1132) (by decide +kernel)⟩
theorem lw_p53 : lw_okq (⟨"QuarrelBridgesModel", "lastsOf", "(II)I"⟩, 45) := ⟨⟨by decide +kernel, by decide +kernel⟩, List.mem_of_getElem? (i := 774) (by decide +kernel), List.mem_of_getElem? (i := 1144) (by decide +kernel), List.mem_of_getElem? (i := 1145) (by decide +kernel)⟩
def lw_privs_4 : List (MethodName × Nat) := [(⟨"QuarrelBridgesModel", "draw", "(I)I"⟩, 45), (⟨"QuarrelBridgesModel", "opens", "(III)Z"⟩, 45), (⟨"QuarrelBridgesModel", "best", "(II)I"⟩, 45), (⟨"QuarrelBridgesModel", "layCosts", "()V"⟩, 45), (⟨"QuarrelBridgesModel", "findOrder", "()V"⟩, 45), (⟨"QuarrelBridgesModel", "lastsOf", "(II)I"⟩, 45)]
theorem lw_r4 : ∀ q ∈ lw_privs_4, lw_okq q := List.forall_mem_cons.mpr ⟨lw_p48, List.forall_mem_cons.mpr ⟨lw_p49, List.forall_mem_cons.mpr ⟨lw_p50, List.forall_mem_cons.mpr ⟨lw_p51, List.forall_mem_cons.mpr ⟨lw_p52, List.forall_mem_cons.mpr ⟨lw_p53, fun _ h => absurd h List.not_mem_nil⟩⟩⟩⟩⟩⟩
def lw_privs : List (MethodName × Nat) := lw_privs_1 ++ (lw_privs_2 ++ (lw_privs_3 ++ (lw_privs_4)))
def lw_tbl : List Cond := k2_sels lw_privs ++ tables_1
theorem lw_privs_ok : ∀ q ∈ lw_privs, lw_okq q := by
  show ∀ q ∈ lw_privs_1 ++ (lw_privs_2 ++ (lw_privs_3 ++ (lw_privs_4))), lw_okq q
  exact List.forall_mem_append.mpr ⟨lw_r1, List.forall_mem_append.mpr ⟨lw_r2, List.forall_mem_append.mpr ⟨lw_r3, lw_r4⟩⟩⟩
-- ===== end of PART A; then your names; then what follows =====
end
section
def RX0 : String := "QuarrelBridges$Book"
def TX0 : u_T := fun k => match k with
  | 0 => ("QuarrelBridges$Book", "entries", "I", false)
  | 1 => ("QuarrelBridges$Book", "couples", "[I", true)
  | _ => ("QuarrelBridges$Book", "grievances", "[I", true)
def tyX0 : Nat → FieldType := fun k => match k with
  | 0 => .int
  | 1 => .array .int
  | _ => .array .int
abbrev wsX00 : List Cond := u_ws RX0 TX0 3
theorem nmX0 : ∀ a, a < 3 → ∀ b, b < 3 → a ≠ b → (TX0 a).2.1 ≠ (TX0 b).2.1 := by decide +kernel
theorem tyX0_ok : ∀ k, k < 3 → parseFieldDescriptor (TX0 k).2.2.1 = some (tyX0 k) := by decide +kernel
abbrev cX0_init : ByteArray := prog_2_method_1_code
def yX0_init : MethodName := ⟨RX0, "<init>", "()V"⟩
abbrev cX0_enter : ByteArray := prog_2_method_2_code
def yX0_enter : MethodName := ⟨RX0, "enter", "(II)V"⟩
abbrev cX0_clear : ByteArray := prog_2_method_3_code
def yX0_clear : MethodName := ⟨RX0, "clear", "()V"⟩
abbrev cX0_firstWrong : ByteArray := prog_2_method_4_code
def yX0_firstWrong : MethodName := ⟨RX0, "firstWrong", "(LQuarrelBridges$State;)I"⟩
def RX1 : String := "QuarrelBridges$Convoy"
def TX1 : u_T := fun k => match k with
  | 0 => ("QuarrelBridges$Convoy", "length", "I", false)
  | 1 => ("QuarrelBridges$Convoy", "row", "[I", true)
  | 2 => ("QuarrelBridges$Convoy", "openings", "[I", true)
  | 3 => ("QuarrelBridges$Convoy", "spent", "[I", true)
  | 4 => ("QuarrelBridges$Convoy", "behind", "[I", true)
  | 5 => ("QuarrelBridges$Convoy", "most", "[I", true)
  | 6 => ("QuarrelBridges$Convoy", "choice", "[I", true)
  | 7 => ("QuarrelBridges$Convoy", "waiting", "I", false)
  | 8 => ("QuarrelBridges$Convoy", "start", "I", false)
  | _ => ("QuarrelBridges$Convoy", "town", "LQuarrelBridges$Town;", false)
def tyX1 : Nat → FieldType := fun k => match k with
  | 0 => .int
  | 1 => .array .int
  | 2 => .array .int
  | 3 => .array .int
  | 4 => .array .int
  | 5 => .array .int
  | 6 => .array .int
  | 7 => .int
  | 8 => .int
  | _ => .object "QuarrelBridges$Town"
abbrev wsX10 : List Cond := u_ws RX1 TX1 10
theorem nmX1 : ∀ a, a < 10 → ∀ b, b < 10 → a ≠ b → (TX1 a).2.1 ≠ (TX1 b).2.1 := by decide +kernel
theorem tyX1_ok : ∀ k, k < 10 → parseFieldDescriptor (TX1 k).2.2.1 = some (tyX1 k) := by decide +kernel
abbrev cX1_init : ByteArray := prog_3_method_1_code
def yX1_init : MethodName := ⟨RX1, "<init>", "()V"⟩
abbrev cX1_gather : ByteArray := prog_3_method_2_code
def yX1_gather : MethodName := ⟨RX1, "gather", "(LQuarrelBridges$Town;LQuarrelBridges$State;)V"⟩
abbrev cX1_noteOpening : ByteArray := prog_3_method_3_code
def yX1_noteOpening : MethodName := ⟨RX1, "noteOpening", "(II)V"⟩
abbrev cX1_solve : ByteArray := prog_3_method_4_code
def yX1_solve : MethodName := ⟨RX1, "solve", "()V"⟩
abbrev cX1_minuteBehind : ByteArray := prog_3_method_5_code
def yX1_minuteBehind : MethodName := ⟨RX1, "minuteBehind", "(I)I"⟩
abbrev cX1_weigh : ByteArray := prog_3_method_6_code
def yX1_weigh : MethodName := ⟨RX1, "weigh", "(II)V"⟩
abbrev cX1_layOutRow : ByteArray := prog_3_method_7_code
def yX1_layOutRow : MethodName := ⟨RX1, "layOutRow", "()V"⟩
def RX2 : String := "QuarrelBridges$History"
def TX2 : u_T := fun k => match k with
  | 0 => ("QuarrelBridges$History", "shelf", "LQuarrelBridges$Shelf;", true)
  | 1 => ("QuarrelBridges$History", "first", "I", false)
  | _ => ("QuarrelBridges$History", "count", "I", false)
def tyX2 : Nat → FieldType := fun k => match k with
  | 0 => .object "QuarrelBridges$Shelf"
  | 1 => .int
  | _ => .int
abbrev wsX20 : List Cond := u_ws RX2 TX2 3
theorem nmX2 : ∀ a, a < 3 → ∀ b, b < 3 → a ≠ b → (TX2 a).2.1 ≠ (TX2 b).2.1 := by decide +kernel
theorem tyX2_ok : ∀ k, k < 3 → parseFieldDescriptor (TX2 k).2.2.1 = some (tyX2 k) := by decide +kernel
abbrev cX2_init : ByteArray := prog_4_method_1_code
def yX2_init : MethodName := ⟨RX2, "<init>", "()V"⟩
abbrev cX2_remember : ByteArray := prog_4_method_2_code
def yX2_remember : MethodName := ⟨RX2, "remember", "(LQuarrelBridges$State;)V"⟩
abbrev cX2_takeBack : ByteArray := prog_4_method_3_code
def yX2_takeBack : MethodName := ⟨RX2, "takeBack", "(LQuarrelBridges$State;)V"⟩
abbrev cX2_forget : ByteArray := prog_4_method_4_code
def yX2_forget : MethodName := ⟨RX2, "forget", "()V"⟩
def RX3 : String := "QuarrelBridges$Pairing"
def TX3 : u_T := fun k => match k with
  | 0 => ("QuarrelBridges$Pairing", "asked", "[I", true)
  | 1 => ("QuarrelBridges$Pairing", "least", "[I", true)
  | _ => ("QuarrelBridges$Pairing", "choice", "[I", true)
def tyX3 : Nat → FieldType := fun k => match k with
  | 0 => .array .int
  | 1 => .array .int
  | _ => .array .int
abbrev wsX30 : List Cond := u_ws RX3 TX3 3
theorem nmX3 : ∀ a, a < 3 → ∀ b, b < 3 → a ≠ b → (TX3 a).2.1 ≠ (TX3 b).2.1 := by decide +kernel
theorem tyX3_ok : ∀ k, k < 3 → parseFieldDescriptor (TX3 k).2.2.1 = some (tyX3 k) := by decide +kernel
abbrev cX3_init : ByteArray := prog_5_method_1_code
def yX3_init : MethodName := ⟨RX3, "<init>", "()V"⟩
abbrev cX3_ask : ByteArray := prog_5_method_2_code
def yX3_ask : MethodName := ⟨RX3, "ask", "(III)V"⟩
abbrev cX3_solve : ByteArray := prog_5_method_3_code
def yX3_solve : MethodName := ⟨RX3, "solve", "(II)V"⟩
abbrev cX3_weigh : ByteArray := prog_5_method_4_code
def yX3_weigh : MethodName := ⟨RX3, "weigh", "(III)V"⟩
abbrev cX3_cost : ByteArray := prog_5_method_5_code
def yX3_cost : MethodName := ⟨RX3, "cost", "()I"⟩
abbrev cX3_coupleOf : ByteArray := prog_5_method_6_code
def yX3_coupleOf : MethodName := ⟨RX3, "coupleOf", "(I)I"⟩
def RX4 : String := "QuarrelBridges$Quarrel"
def TX4 : u_T := fun k => match k with
  | 0 => ("QuarrelBridges$Quarrel", "minutes", "I", false)
  | 1 => ("QuarrelBridges$Quarrel", "cost", "I", false)
  | 2 => ("QuarrelBridges$Quarrel", "left", "I", false)
  | 3 => ("QuarrelBridges$Quarrel", "opened", "Z", false)
  | _ => ("QuarrelBridges$Quarrel", "reconciled", "Z", false)
def tyX4 : Nat → FieldType := fun k => match k with
  | 0 => .int
  | 1 => .int
  | 2 => .int
  | 3 => .boolean
  | _ => .boolean
abbrev wsX40 : List Cond := u_ws RX4 TX4 5
theorem nmX4 : ∀ a, a < 5 → ∀ b, b < 5 → a ≠ b → (TX4 a).2.1 ≠ (TX4 b).2.1 := by decide +kernel
theorem tyX4_ok : ∀ k, k < 5 → parseFieldDescriptor (TX4 k).2.2.1 = some (tyX4 k) := by decide +kernel
abbrev cX4_init : ByteArray := prog_6_method_1_code
def yX4_init : MethodName := ⟨RX4, "<init>", "()V"⟩
abbrev cX4_run : ByteArray := prog_6_method_2_code
def yX4_run : MethodName := ⟨RX4, "run", "(IIII)V"⟩
def RX5 : String := "QuarrelBridges$Reader"
def TX5 : u_T := fun k => match k with
  | 0 => ("QuarrelBridges$Reader", "fault", "I", false)
  | 1 => ("QuarrelBridges$Reader", "faultAt", "I", false)
  | 2 => ("QuarrelBridges$Reader", "text", "[I", false)
  | 3 => ("QuarrelBridges$Reader", "length", "I", false)
  | 4 => ("QuarrelBridges$Reader", "place", "I", false)
  | 5 => ("QuarrelBridges$Reader", "themesTold", "Z", false)
  | _ => ("QuarrelBridges$Reader", "snowTold", "Z", false)
def tyX5 : Nat → FieldType := fun k => match k with
  | 0 => .int
  | 1 => .int
  | 2 => .array .int
  | 3 => .int
  | 4 => .int
  | 5 => .boolean
  | _ => .boolean
abbrev wsX50 : List Cond := u_ws RX5 TX5 7
theorem nmX5 : ∀ a, a < 7 → ∀ b, b < 7 → a ≠ b → (TX5 a).2.1 ≠ (TX5 b).2.1 := by decide +kernel
theorem tyX5_ok : ∀ k, k < 7 → parseFieldDescriptor (TX5 k).2.2.1 = some (tyX5 k) := by decide +kernel
abbrev cX5_init : ByteArray := prog_7_method_1_code
def yX5_init : MethodName := ⟨RX5, "<init>", "()V"⟩
abbrev cX5_read : ByteArray := prog_7_method_2_code
def yX5_read : MethodName := ⟨RX5, "read", "([IILQuarrelBridges$Town;)V"⟩
abbrev cX5_readClause : ByteArray := prog_7_method_3_code
def yX5_readClause : MethodName := ⟨RX5, "readClause", "(LQuarrelBridges$Town;)V"⟩
abbrev cX5_isTooOften : ByteArray := prog_7_method_4_code
def yX5_isTooOften : MethodName := ⟨RX5, "isTooOften", "(ILQuarrelBridges$Town;)Z"⟩
abbrev cX5_readBridges : ByteArray := prog_7_method_5_code
def yX5_readBridges : MethodName := ⟨RX5, "readBridges", "(LQuarrelBridges$Town;)V"⟩
abbrev cX5_readCouple : ByteArray := prog_7_method_6_code
def yX5_readCouple : MethodName := ⟨RX5, "readCouple", "(LQuarrelBridges$Town;)V"⟩
abbrev cX5_readBarge : ByteArray := prog_7_method_7_code
def yX5_readBarge : MethodName := ⟨RX5, "readBarge", "(LQuarrelBridges$Town;)V"⟩
abbrev cX5_next : ByteArray := prog_7_method_8_code
def yX5_next : MethodName := ⟨RX5, "next", "()I"⟩
abbrev cX5_letter : ByteArray := prog_7_method_9_code
def yX5_letter : MethodName := ⟨RX5, "letter", "()I"⟩
abbrev cX5_isFigure : ByteArray := prog_7_method_10_code
def yX5_isFigure : MethodName := ⟨RX5, "isFigure", "(I)Z"⟩
abbrev cX5_expect : ByteArray := prog_7_method_11_code
def yX5_expect : MethodName := ⟨RX5, "expect", "(I)V"⟩
abbrev cX5_number : ByteArray := prog_7_method_12_code
def yX5_number : MethodName := ⟨RX5, "number", "(II)I"⟩
abbrev cX5_blame : ByteArray := prog_7_method_13_code
def yX5_blame : MethodName := ⟨RX5, "blame", "(II)V"⟩
def RX6 : String := "QuarrelBridges$Shelf"
def TX6 : u_T := fun k => match k with
  | 0 => ("QuarrelBridges$Shelf", "slots", "I", true)
  | _ => ("QuarrelBridges$Shelf", "cells", "[I", true)
def tyX6 : Nat → FieldType := fun k => match k with
  | 0 => .int
  | _ => .array .int
abbrev wsX60 : List Cond := u_ws RX6 TX6 2
theorem nmX6 : ∀ a, a < 2 → ∀ b, b < 2 → a ≠ b → (TX6 a).2.1 ≠ (TX6 b).2.1 := by decide +kernel
theorem tyX6_ok : ∀ k, k < 2 → parseFieldDescriptor (TX6 k).2.2.1 = some (tyX6 k) := by decide +kernel
abbrev cX6_init : ByteArray := prog_8_method_1_code
def yX6_init : MethodName := ⟨RX6, "<init>", "(I)V"⟩
abbrev cX6_store : ByteArray := prog_8_method_2_code
def yX6_store : MethodName := ⟨RX6, "store", "(ILQuarrelBridges$State;)V"⟩
abbrev cX6_fetch : ByteArray := prog_8_method_3_code
def yX6_fetch : MethodName := ⟨RX6, "fetch", "(ILQuarrelBridges$State;)V"⟩
def RX7 : String := "QuarrelBridges$State"
def TX7 : u_T := fun k => match k with
  | _ => ("QuarrelBridges$State", "cells", "[I", true)
def tyX7 : Nat → FieldType := fun k => match k with
  | _ => .array .int
abbrev wsX70 : List Cond := u_ws RX7 TX7 1
theorem nmX7 : ∀ a, a < 1 → ∀ b, b < 1 → a ≠ b → (TX7 a).2.1 ≠ (TX7 b).2.1 := by decide +kernel
theorem tyX7_ok : ∀ k, k < 1 → parseFieldDescriptor (TX7 k).2.2.1 = some (tyX7 k) := by decide +kernel
abbrev cX7_init : ByteArray := prog_9_method_1_code
def yX7_init : MethodName := ⟨RX7, "<init>", "()V"⟩
abbrev cX7_begin : ByteArray := prog_9_method_2_code
def yX7_begin : MethodName := ⟨RX7, "begin", "(LQuarrelBridges$Town;)V"⟩
abbrev cX7_minutes : ByteArray := prog_9_method_3_code
def yX7_minutes : MethodName := ⟨RX7, "minutes", "()I"⟩
abbrev cX7_spendMinutes : ByteArray := prog_9_method_4_code
def yX7_spendMinutes : MethodName := ⟨RX7, "spendMinutes", "(I)V"⟩
abbrev cX7_reconciledSet : ByteArray := prog_9_method_5_code
def yX7_reconciledSet : MethodName := ⟨RX7, "reconciledSet", "()I"⟩
abbrev cX7_isReconciled : ByteArray := prog_9_method_6_code
def yX7_isReconciled : MethodName := ⟨RX7, "isReconciled", "(I)Z"⟩
abbrev cX7_reconcile : ByteArray := prog_9_method_7_code
def yX7_reconcile : MethodName := ⟨RX7, "reconcile", "(I)V"⟩
abbrev cX7_grievanceOf : ByteArray := prog_9_method_8_code
def yX7_grievanceOf : MethodName := ⟨RX7, "grievanceOf", "(I)I"⟩
abbrev cX7_grievanceOfSet : ByteArray := prog_9_method_9_code
def yX7_grievanceOfSet : MethodName := ⟨RX7, "grievanceOfSet", "(I)I"⟩
abbrev cX7_grievanceOfAll : ByteArray := prog_9_method_10_code
def yX7_grievanceOfAll : MethodName := ⟨RX7, "grievanceOfAll", "()I"⟩
abbrev cX7_leave : ByteArray := prog_9_method_11_code
def yX7_leave : MethodName := ⟨RX7, "leave", "(II)V"⟩
abbrev cX7_embitter : ByteArray := prog_9_method_12_code
def yX7_embitter : MethodName := ⟨RX7, "embitter", "(II)V"⟩
abbrev cX7_bridgeOf : ByteArray := prog_9_method_13_code
def yX7_bridgeOf : MethodName := ⟨RX7, "bridgeOf", "(I)I"⟩
abbrev cX7_coupleAt : ByteArray := prog_9_method_14_code
def yX7_coupleAt : MethodName := ⟨RX7, "coupleAt", "(I)I"⟩
abbrev cX7_place : ByteArray := prog_9_method_15_code
def yX7_place : MethodName := ⟨RX7, "place", "(II)V"⟩
abbrev cX7_themeOf : ByteArray := prog_9_method_16_code
def yX7_themeOf : MethodName := ⟨RX7, "themeOf", "(I)I"⟩
abbrev cX7_turnTo : ByteArray := prog_9_method_17_code
def yX7_turnTo : MethodName := ⟨RX7, "turnTo", "(II)V"⟩
abbrev cX7_fateOf : ByteArray := prog_9_method_18_code
def yX7_fateOf : MethodName := ⟨RX7, "fateOf", "(I)I"⟩
abbrev cX7_bargesOfFate : ByteArray := prog_9_method_19_code
def yX7_bargesOfFate : MethodName := ⟨RX7, "bargesOfFate", "(I)I"⟩
abbrev cX7_lyingAt : ByteArray := prog_9_method_20_code
def yX7_lyingAt : MethodName := ⟨RX7, "lyingAt", "(I)I"⟩
abbrev cX7_lay : ByteArray := prog_9_method_21_code
def yX7_lay : MethodName := ⟨RX7, "lay", "(II)V"⟩
abbrev cX7_passedAt : ByteArray := prog_9_method_22_code
def yX7_passedAt : MethodName := ⟨RX7, "passedAt", "(I)I"⟩
abbrev cX7_letThrough : ByteArray := prog_9_method_23_code
def yX7_letThrough : MethodName := ⟨RX7, "letThrough", "(II)V"⟩
def RX8 : String := "QuarrelBridges$Town"
def TX8 : u_T := fun k => match k with
  | 0 => ("QuarrelBridges$Town", "bridges", "I", false)
  | 1 => ("QuarrelBridges$Town", "themes", "I", false)
  | 2 => ("QuarrelBridges$Town", "couples", "I", false)
  | 3 => ("QuarrelBridges$Town", "barges", "I", false)
  | 4 => ("QuarrelBridges$Town", "snow", "I", false)
  | 5 => ("QuarrelBridges$Town", "needs", "[I", true)
  | 6 => ("QuarrelBridges$Town", "grievances", "[I", true)
  | 7 => ("QuarrelBridges$Town", "forces", "[I", true)
  | 8 => ("QuarrelBridges$Town", "upTo", "[I", true)
  | _ => ("QuarrelBridges$Town", "tides", "[I", true)
def tyX8 : Nat → FieldType := fun k => match k with
  | 0 => .int
  | 1 => .int
  | 2 => .int
  | 3 => .int
  | 4 => .int
  | 5 => .array .int
  | 6 => .array .int
  | 7 => .array .int
  | 8 => .array .int
  | _ => .array .int
abbrev wsX80 : List Cond := u_ws RX8 TX8 10
theorem nmX8 : ∀ a, a < 10 → ∀ b, b < 10 → a ≠ b → (TX8 a).2.1 ≠ (TX8 b).2.1 := by decide +kernel
theorem tyX8_ok : ∀ k, k < 10 → parseFieldDescriptor (TX8 k).2.2.1 = some (tyX8 k) := by decide +kernel
abbrev cX8_init : ByteArray := prog_10_method_1_code
def yX8_init : MethodName := ⟨RX8, "<init>", "()V"⟩
abbrev cX8_clear : ByteArray := prog_10_method_2_code
def yX8_clear : MethodName := ⟨RX8, "clear", "()V"⟩
abbrev cX8_hasBridge : ByteArray := prog_10_method_3_code
def yX8_hasBridge : MethodName := ⟨RX8, "hasBridge", "(I)Z"⟩
abbrev cX8_hasTheme : ByteArray := prog_10_method_4_code
def yX8_hasTheme : MethodName := ⟨RX8, "hasTheme", "(I)Z"⟩
abbrev cX8_hasCouple : ByteArray := prog_10_method_5_code
def yX8_hasCouple : MethodName := ⟨RX8, "hasCouple", "(I)Z"⟩
abbrev cX8_hasBarge : ByteArray := prog_10_method_6_code
def yX8_hasBarge : MethodName := ⟨RX8, "hasBarge", "(I)Z"⟩
abbrev cX8_forceOf : ByteArray := prog_10_method_7_code
def yX8_forceOf : MethodName := ⟨RX8, "forceOf", "(II)I"⟩
abbrev cX8_needOfAll : ByteArray := prog_10_method_8_code
def yX8_needOfAll : MethodName := ⟨RX8, "needOfAll", "()I"⟩
def RX9 : String := "QuarrelBridges"
def TX9 : u_T := fun k => match k with
  | 0 => ("QuarrelBridges", "text", "[I", true)
  | 1 => ("QuarrelBridges", "letters", "I", false)
  | 2 => ("QuarrelBridges", "faultAt", "I", false)
  | 3 => ("QuarrelBridges", "reader", "LQuarrelBridges$Reader;", true)
  | 4 => ("QuarrelBridges", "town", "LQuarrelBridges$Town;", false)
  | 5 => ("QuarrelBridges", "draft", "LQuarrelBridges$Town;", false)
  | 6 => ("QuarrelBridges", "now", "LQuarrelBridges$State;", true)
  | 7 => ("QuarrelBridges", "past", "LQuarrelBridges$History;", true)
  | 8 => ("QuarrelBridges", "images", "LQuarrelBridges$Shelf;", true)
  | 9 => ("QuarrelBridges", "imageSeeds", "[I", true)
  | 10 => ("QuarrelBridges", "imagesKept", "I", false)
  | 11 => ("QuarrelBridges", "book", "LQuarrelBridges$Book;", true)
  | 12 => ("QuarrelBridges", "seed", "I", false)
  | 13 => ("QuarrelBridges", "quarrel", "LQuarrelBridges$Quarrel;", true)
  | 14 => ("QuarrelBridges", "pairing", "LQuarrelBridges$Pairing;", true)
  | 15 => ("QuarrelBridges", "convoy", "LQuarrelBridges$Convoy;", true)
  | _ => ("QuarrelBridges", "fitting", "[I", true)
def tyX9 : Nat → FieldType := fun k => match k with
  | 0 => .array .int
  | 1 => .int
  | 2 => .int
  | 3 => .object "QuarrelBridges$Reader"
  | 4 => .object "QuarrelBridges$Town"
  | 5 => .object "QuarrelBridges$Town"
  | 6 => .object "QuarrelBridges$State"
  | 7 => .object "QuarrelBridges$History"
  | 8 => .object "QuarrelBridges$Shelf"
  | 9 => .array .int
  | 10 => .int
  | 11 => .object "QuarrelBridges$Book"
  | 12 => .int
  | 13 => .object "QuarrelBridges$Quarrel"
  | 14 => .object "QuarrelBridges$Pairing"
  | 15 => .object "QuarrelBridges$Convoy"
  | _ => .array .int
abbrev wsX90 : List Cond := u_ws RX9 TX9 17
theorem nmX9 : ∀ a, a < 17 → ∀ b, b < 17 → a ≠ b → (TX9 a).2.1 ≠ (TX9 b).2.1 := by decide +kernel
theorem tyX9_ok : ∀ k, k < 17 → parseFieldDescriptor (TX9 k).2.2.1 = some (tyX9 k) := by decide +kernel
abbrev cX9_init : ByteArray := prog_1_method_1_code
def yX9_init : MethodName := ⟨RX9, "<init>", "()V"⟩
abbrev cX9_feed : ByteArray := prog_1_method_2_code
def yX9_feed : MethodName := ⟨RX9, "feed", "(I)I"⟩
abbrev cX9_town : ByteArray := prog_1_method_3_code
def yX9_town : MethodName := ⟨RX9, "town", "()I"⟩
abbrev cX9_fault : ByteArray := prog_1_method_4_code
def yX9_fault : MethodName := ⟨RX9, "fault", "()I"⟩
abbrev cX9_told : ByteArray := prog_1_method_5_code
def yX9_told : MethodName := ⟨RX9, "told", "(I)I"⟩
abbrev cX9_bridge : ByteArray := prog_1_method_6_code
def yX9_bridge : MethodName := ⟨RX9, "bridge", "(II)I"⟩
abbrev cX9_couple : ByteArray := prog_1_method_7_code
def yX9_couple : MethodName := ⟨RX9, "couple", "(II)I"⟩
abbrev cX9_force : ByteArray := prog_1_method_8_code
def yX9_force : MethodName := ⟨RX9, "force", "(II)I"⟩
abbrev cX9_barge : ByteArray := prog_1_method_9_code
def yX9_barge : MethodName := ⟨RX9, "barge", "(II)I"⟩
abbrev cX9_send : ByteArray := prog_1_method_10_code
def yX9_send : MethodName := ⟨RX9, "send", "(III)I"⟩
abbrev cX9_home : ByteArray := prog_1_method_11_code
def yX9_home : MethodName := ⟨RX9, "home", "(I)I"⟩
abbrev cX9_pass : ByteArray := prog_1_method_12_code
def yX9_pass : MethodName := ⟨RX9, "pass", "(I)I"⟩
abbrev cX9_grieve : ByteArray := prog_1_method_13_code
def yX9_grieve : MethodName := ⟨RX9, "grieve", "(II)I"⟩
abbrev cX9_drift : ByteArray := prog_1_method_14_code
def yX9_drift : MethodName := ⟨RX9, "drift", "(I)I"⟩
abbrev cX9_undo : ByteArray := prog_1_method_15_code
def yX9_undo : MethodName := ⟨RX9, "undo", "()I"⟩
abbrev cX9_could : ByteArray := prog_1_method_16_code
def yX9_could : MethodName := ⟨RX9, "could", "(IIII)I"⟩
abbrev cX9_bestTheme : ByteArray := prog_1_method_17_code
def yX9_bestTheme : MethodName := ⟨RX9, "bestTheme", "(II)I"⟩
abbrev cX9_who : ByteArray := prog_1_method_18_code
def yX9_who : MethodName := ⟨RX9, "who", "(II)I"⟩
abbrev cX9_order : ByteArray := prog_1_method_19_code
def yX9_order : MethodName := ⟨RX9, "order", "(I)I"⟩
abbrev cX9_toldHer : ByteArray := prog_1_method_20_code
def yX9_toldHer : MethodName := ⟨RX9, "toldHer", "(III)I"⟩
abbrev cX9_lasts : ByteArray := prog_1_method_21_code
def yX9_lasts : MethodName := ⟨RX9, "lasts", "(II)I"⟩
abbrev cX9_wornOut : ByteArray := prog_1_method_22_code
def yX9_wornOut : MethodName := ⟨RX9, "wornOut", "()I"⟩
abbrev cX9_carried : ByteArray := prog_1_method_23_code
def yX9_carried : MethodName := ⟨RX9, "carried", "(I)I"⟩
abbrev cX9_hire : ByteArray := prog_1_method_24_code
def yX9_hire : MethodName := ⟨RX9, "hire", "(II)I"⟩
abbrev cX9_midstream : ByteArray := prog_1_method_25_code
def yX9_midstream : MethodName := ⟨RX9, "midstream", "(III)I"⟩
abbrev cX9_fleet : ByteArray := prog_1_method_26_code
def yX9_fleet : MethodName := ⟨RX9, "fleet", "(I)I"⟩
abbrev cX9_write : ByteArray := prog_1_method_27_code
def yX9_write : MethodName := ⟨RX9, "write", "(II)I"⟩
abbrev cX9_tear : ByteArray := prog_1_method_28_code
def yX9_tear : MethodName := ⟨RX9, "tear", "()I"⟩
abbrev cX9_judge : ByteArray := prog_1_method_29_code
def yX9_judge : MethodName := ⟨RX9, "judge", "()I"⟩
abbrev cX9_seed : ByteArray := prog_1_method_30_code
def yX9_seed : MethodName := ⟨RX9, "seed", "(I)I"⟩
abbrev cX9_keep : ByteArray := prog_1_method_31_code
def yX9_keep : MethodName := ⟨RX9, "keep", "(I)I"⟩
abbrev cX9_goBack : ByteArray := prog_1_method_32_code
def yX9_goBack : MethodName := ⟨RX9, "goBack", "(I)I"⟩
abbrev cX9_at : ByteArray := prog_1_method_33_code
def yX9_at : MethodName := ⟨RX9, "at", "([II)I"⟩
abbrev cX9_put : ByteArray := prog_1_method_34_code
def yX9_put : MethodName := ⟨RX9, "put", "([III)V"⟩
abbrev cX9_stampOf : ByteArray := prog_1_method_35_code
def yX9_stampOf : MethodName := ⟨RX9, "stampOf", "(III)I"⟩
abbrev cX9_draw : ByteArray := prog_1_method_36_code
def yX9_draw : MethodName := ⟨RX9, "draw", "(I)I"⟩
abbrev cX9_swing : ByteArray := prog_1_method_37_code
def yX9_swing : MethodName := ⟨RX9, "swing", "(I)Z"⟩
abbrev cX9_attempt : ByteArray := prog_1_method_38_code
def yX9_attempt : MethodName := ⟨RX9, "attempt", "(III)V"⟩
abbrev cX9_themeFor : ByteArray := prog_1_method_39_code
def yX9_themeFor : MethodName := ⟨RX9, "themeFor", "(II)I"⟩
abbrev cX9_costFor : ByteArray := prog_1_method_40_code
def yX9_costFor : MethodName := ⟨RX9, "costFor", "(II)I"⟩
abbrev cX9_minutesLeft : ByteArray := prog_1_method_41_code
def yX9_minutesLeft : MethodName := ⟨RX9, "minutesLeft", "(II)I"⟩
abbrev cX9_noteOpenings : ByteArray := prog_1_method_42_code
def yX9_noteOpenings : MethodName := ⟨RX9, "noteOpenings", "(I)V"⟩
def RX10 : String := "QuarrelBridgesModel"
def TX10 : u_T := fun k => match k with
  | 0 => ("QuarrelBridgesModel", "w", "[I", true)
  | 1 => ("QuarrelBridgesModel", "isKept", "[Z", true)
  | 2 => ("QuarrelBridgesModel", "undoes", "I", false)
  | 3 => ("QuarrelBridgesModel", "bridges", "I", false)
  | 4 => ("QuarrelBridgesModel", "themes", "I", false)
  | 5 => ("QuarrelBridgesModel", "couples", "I", false)
  | 6 => ("QuarrelBridgesModel", "barges", "I", false)
  | 7 => ("QuarrelBridgesModel", "snow", "I", false)
  | 8 => ("QuarrelBridgesModel", "needs", "[I", true)
  | 9 => ("QuarrelBridgesModel", "grief", "[I", true)
  | 10 => ("QuarrelBridgesModel", "forces", "[I", true)
  | 11 => ("QuarrelBridgesModel", "far", "[I", true)
  | 12 => ("QuarrelBridgesModel", "due", "[I", true)
  | 13 => ("QuarrelBridgesModel", "text", "[I", true)
  | 14 => ("QuarrelBridgesModel", "texted", "I", false)
  | 15 => ("QuarrelBridgesModel", "at", "I", false)
  | 16 => ("QuarrelBridgesModel", "start", "I", false)
  | 17 => ("QuarrelBridgesModel", "number", "I", false)
  | 18 => ("QuarrelBridgesModel", "faulty", "I", false)
  | 19 => ("QuarrelBridgesModel", "faultAt", "I", false)
  | 20 => ("QuarrelBridgesModel", "readBridges", "I", false)
  | 21 => ("QuarrelBridgesModel", "readThemes", "I", false)
  | 22 => ("QuarrelBridgesModel", "hasThemes", "Z", false)
  | 23 => ("QuarrelBridgesModel", "readCouples", "I", false)
  | 24 => ("QuarrelBridgesModel", "readBarges", "I", false)
  | 25 => ("QuarrelBridgesModel", "readSnow", "I", false)
  | 26 => ("QuarrelBridgesModel", "hasSnow", "Z", false)
  | 27 => ("QuarrelBridgesModel", "readNeeds", "[I", true)
  | 28 => ("QuarrelBridgesModel", "readGrief", "[I", true)
  | 29 => ("QuarrelBridgesModel", "readForces", "[I", true)
  | 30 => ("QuarrelBridgesModel", "readFar", "[I", true)
  | 31 => ("QuarrelBridgesModel", "readDue", "[I", true)
  | 32 => ("QuarrelBridgesModel", "minutes", "I", false)
  | 33 => ("QuarrelBridgesModel", "left", "I", false)
  | 34 => ("QuarrelBridgesModel", "opened", "Z", false)
  | 35 => ("QuarrelBridgesModel", "cost", "I", false)
  | 36 => ("QuarrelBridgesModel", "least", "[I", true)
  | 37 => ("QuarrelBridgesModel", "costs", "[I", true)
  | 38 => ("QuarrelBridgesModel", "row", "[I", true)
  | 39 => ("QuarrelBridgesModel", "bestRow", "[I", true)
  | 40 => ("QuarrelBridgesModel", "bestLong", "I", false)
  | 41 => ("QuarrelBridgesModel", "bestTimely", "I", false)
  | 42 => ("QuarrelBridgesModel", "booked", "I", false)
  | 43 => ("QuarrelBridgesModel", "bookCouple", "[I", true)
  | _ => ("QuarrelBridgesModel", "bookGrief", "[I", true)
def tyX10 : Nat → FieldType := fun k => match k with
  | 0 => .array .int
  | 1 => .array .boolean
  | 2 => .int
  | 3 => .int
  | 4 => .int
  | 5 => .int
  | 6 => .int
  | 7 => .int
  | 8 => .array .int
  | 9 => .array .int
  | 10 => .array .int
  | 11 => .array .int
  | 12 => .array .int
  | 13 => .array .int
  | 14 => .int
  | 15 => .int
  | 16 => .int
  | 17 => .int
  | 18 => .int
  | 19 => .int
  | 20 => .int
  | 21 => .int
  | 22 => .boolean
  | 23 => .int
  | 24 => .int
  | 25 => .int
  | 26 => .boolean
  | 27 => .array .int
  | 28 => .array .int
  | 29 => .array .int
  | 30 => .array .int
  | 31 => .array .int
  | 32 => .int
  | 33 => .int
  | 34 => .boolean
  | 35 => .int
  | 36 => .array .int
  | 37 => .array .int
  | 38 => .array .int
  | 39 => .array .int
  | 40 => .int
  | 41 => .int
  | 42 => .int
  | 43 => .array .int
  | _ => .array .int
abbrev wsX100 : List Cond := u_ws RX10 TX10 45
theorem nmX10 : ∀ a, a < 45 → ∀ b, b < 45 → a ≠ b → (TX10 a).2.1 ≠ (TX10 b).2.1 := by decide +kernel
theorem tyX10_ok : ∀ k, k < 45 → parseFieldDescriptor (TX10 k).2.2.1 = some (tyX10 k) := by decide +kernel
abbrev cX10_init : ByteArray := prog_12_method_1_code
def yX10_init : MethodName := ⟨RX10, "<init>", "()V"⟩
abbrev cX10_in : ByteArray := prog_12_method_3_code
def yX10_in : MethodName := ⟨RX10, "in", "(JJJ)Z"⟩
abbrev cX10_has : ByteArray := prog_12_method_4_code
def yX10_has : MethodName := ⟨RX10, "has", "(II)Z"⟩
abbrev cX10_ones : ByteArray := prog_12_method_5_code
def yX10_ones : MethodName := ⟨RX10, "ones", "(I)I"⟩
abbrev cX10_copy : ByteArray := prog_12_method_6_code
def yX10_copy : MethodName := ⟨RX10, "copy", "(II)V"⟩
abbrev cX10_begins : ByteArray := prog_12_method_7_code
def yX10_begins : MethodName := ⟨RX10, "begins", "()V"⟩
abbrev cX10_isBridge : ByteArray := prog_12_method_8_code
def yX10_isBridge : MethodName := ⟨RX10, "isBridge", "(I)Z"⟩
abbrev cX10_isCouple : ByteArray := prog_12_method_9_code
def yX10_isCouple : MethodName := ⟨RX10, "isCouple", "(I)Z"⟩
abbrev cX10_isTheme : ByteArray := prog_12_method_10_code
def yX10_isTheme : MethodName := ⟨RX10, "isTheme", "(I)Z"⟩
abbrev cX10_isBarge : ByteArray := prog_12_method_11_code
def yX10_isBarge : MethodName := ⟨RX10, "isBarge", "(I)Z"⟩
abbrev cX10_feed : ByteArray := prog_12_method_12_code
def yX10_feed : MethodName := ⟨RX10, "feed", "(I)I"⟩
abbrev cX10_letterAt : ByteArray := prog_12_method_13_code
def yX10_letterAt : MethodName := ⟨RX10, "letterAt", "(I)I"⟩
abbrev cX10_here : ByteArray := prog_12_method_14_code
def yX10_here : MethodName := ⟨RX10, "here", "()I"⟩
abbrev cX10_fails : ByteArray := prog_12_method_15_code
def yX10_fails : MethodName := ⟨RX10, "fails", "(II)Z"⟩
abbrev cX10_takes : ByteArray := prog_12_method_16_code
def yX10_takes : MethodName := ⟨RX10, "takes", "(I)Z"⟩
abbrev cX10_takesNumber : ByteArray := prog_12_method_17_code
def yX10_takesNumber : MethodName := ⟨RX10, "takesNumber", "(II)Z"⟩
abbrev cX10_takesBridges : ByteArray := prog_12_method_18_code
def yX10_takesBridges : MethodName := ⟨RX10, "takesBridges", "()Z"⟩
abbrev cX10_takesThemes : ByteArray := prog_12_method_19_code
def yX10_takesThemes : MethodName := ⟨RX10, "takesThemes", "()Z"⟩
abbrev cX10_takesCouple : ByteArray := prog_12_method_20_code
def yX10_takesCouple : MethodName := ⟨RX10, "takesCouple", "()Z"⟩
abbrev cX10_takesBarge : ByteArray := prog_12_method_21_code
def yX10_takesBarge : MethodName := ⟨RX10, "takesBarge", "()Z"⟩
abbrev cX10_takesSnow : ByteArray := prog_12_method_22_code
def yX10_takesSnow : MethodName := ⟨RX10, "takesSnow", "()Z"⟩
abbrev cX10_takesClause : ByteArray := prog_12_method_23_code
def yX10_takesClause : MethodName := ⟨RX10, "takesClause", "()Z"⟩
abbrev cX10_town : ByteArray := prog_12_method_24_code
def yX10_town : MethodName := ⟨RX10, "town", "()I"⟩
abbrev cX10_fault : ByteArray := prog_12_method_25_code
def yX10_fault : MethodName := ⟨RX10, "fault", "()I"⟩
abbrev cX10_bargesThat : ByteArray := prog_12_method_26_code
def yX10_bargesThat : MethodName := ⟨RX10, "bargesThat", "(I)I"⟩
abbrev cX10_griefOf : ByteArray := prog_12_method_27_code
def yX10_griefOf : MethodName := ⟨RX10, "griefOf", "(I)I"⟩
abbrev cX10_told : ByteArray := prog_12_method_28_code
def yX10_told : MethodName := ⟨RX10, "told", "(I)I"⟩
abbrev cX10_whoIsAt : ByteArray := prog_12_method_29_code
def yX10_whoIsAt : MethodName := ⟨RX10, "whoIsAt", "(II)I"⟩
abbrev cX10_bridge : ByteArray := prog_12_method_30_code
def yX10_bridge : MethodName := ⟨RX10, "bridge", "(II)I"⟩
abbrev cX10_isDone : ByteArray := prog_12_method_31_code
def yX10_isDone : MethodName := ⟨RX10, "isDone", "(I)Z"⟩
abbrev cX10_couple : ByteArray := prog_12_method_32_code
def yX10_couple : MethodName := ⟨RX10, "couple", "(II)I"⟩
abbrev cX10_force : ByteArray := prog_12_method_33_code
def yX10_force : MethodName := ⟨RX10, "force", "(II)I"⟩
abbrev cX10_barge : ByteArray := prog_12_method_34_code
def yX10_barge : MethodName := ⟨RX10, "barge", "(II)I"⟩
abbrev cX10_stampOf : ByteArray := prog_12_method_35_code
def yX10_stampOf : MethodName := ⟨RX10, "stampOf", "(III)I"⟩
abbrev cX10_quarrels : ByteArray := prog_12_method_36_code
def yX10_quarrels : MethodName := ⟨RX10, "quarrels", "(IIII)V"⟩
abbrev cX10_minds : ByteArray := prog_12_method_37_code
def yX10_minds : MethodName := ⟨RX10, "minds", "()V"⟩
abbrev cX10_undo : ByteArray := prog_12_method_38_code
def yX10_undo : MethodName := ⟨RX10, "undo", "()I"⟩
abbrev cX10_send : ByteArray := prog_12_method_39_code
def yX10_send : MethodName := ⟨RX10, "send", "(III)I"⟩
abbrev cX10_home : ByteArray := prog_12_method_40_code
def yX10_home : MethodName := ⟨RX10, "home", "(I)I"⟩
abbrev cX10_passes : ByteArray := prog_12_method_41_code
def yX10_passes : MethodName := ⟨RX10, "passes", "(II)V"⟩
abbrev cX10_pass : ByteArray := prog_12_method_42_code
def yX10_pass : MethodName := ⟨RX10, "pass", "(I)I"⟩
abbrev cX10_grieves : ByteArray := prog_12_method_43_code
def yX10_grieves : MethodName := ⟨RX10, "grieves", "(II)V"⟩
abbrev cX10_grieve : ByteArray := prog_12_method_44_code
def yX10_grieve : MethodName := ⟨RX10, "grieve", "(II)I"⟩
abbrev cX10_draw : ByteArray := prog_12_method_45_code
def yX10_draw : MethodName := ⟨RX10, "draw", "(I)I"⟩
abbrev cX10_drift : ByteArray := prog_12_method_46_code
def yX10_drift : MethodName := ⟨RX10, "drift", "(I)I"⟩
abbrev cX10_opens : ByteArray := prog_12_method_47_code
def yX10_opens : MethodName := ⟨RX10, "opens", "(III)Z"⟩
abbrev cX10_could : ByteArray := prog_12_method_48_code
def yX10_could : MethodName := ⟨RX10, "could", "(IIII)I"⟩
abbrev cX10_best : ByteArray := prog_12_method_49_code
def yX10_best : MethodName := ⟨RX10, "best", "(II)I"⟩
abbrev cX10_bestTheme : ByteArray := prog_12_method_50_code
def yX10_bestTheme : MethodName := ⟨RX10, "bestTheme", "(II)I"⟩
abbrev cX10_layCosts : ByteArray := prog_12_method_51_code
def yX10_layCosts : MethodName := ⟨RX10, "layCosts", "()V"⟩
abbrev cX10_who : ByteArray := prog_12_method_52_code
def yX10_who : MethodName := ⟨RX10, "who", "(II)I"⟩
abbrev cX10_findOrder : ByteArray := prog_12_method_53_code
def yX10_findOrder : MethodName := ⟨RX10, "findOrder", "()V"⟩
abbrev cX10_order : ByteArray := prog_12_method_54_code
def yX10_order : MethodName := ⟨RX10, "order", "(I)I"⟩
abbrev cX10_toldHer : ByteArray := prog_12_method_55_code
def yX10_toldHer : MethodName := ⟨RX10, "toldHer", "(III)I"⟩
abbrev cX10_lastsOf : ByteArray := prog_12_method_56_code
def yX10_lastsOf : MethodName := ⟨RX10, "lastsOf", "(II)I"⟩
abbrev cX10_lasts : ByteArray := prog_12_method_57_code
def yX10_lasts : MethodName := ⟨RX10, "lasts", "(II)I"⟩
abbrev cX10_wornOut : ByteArray := prog_12_method_58_code
def yX10_wornOut : MethodName := ⟨RX10, "wornOut", "()I"⟩
abbrev cX10_carried : ByteArray := prog_12_method_59_code
def yX10_carried : MethodName := ⟨RX10, "carried", "(I)I"⟩
abbrev cX10_hire : ByteArray := prog_12_method_60_code
def yX10_hire : MethodName := ⟨RX10, "hire", "(II)I"⟩
abbrev cX10_midstream : ByteArray := prog_12_method_61_code
def yX10_midstream : MethodName := ⟨RX10, "midstream", "(III)I"⟩
abbrev cX10_fleet : ByteArray := prog_12_method_62_code
def yX10_fleet : MethodName := ⟨RX10, "fleet", "(I)I"⟩
abbrev cX10_write : ByteArray := prog_12_method_63_code
def yX10_write : MethodName := ⟨RX10, "write", "(II)I"⟩
abbrev cX10_tear : ByteArray := prog_12_method_64_code
def yX10_tear : MethodName := ⟨RX10, "tear", "()I"⟩
abbrev cX10_judge : ByteArray := prog_12_method_65_code
def yX10_judge : MethodName := ⟨RX10, "judge", "()I"⟩
abbrev cX10_seed : ByteArray := prog_12_method_66_code
def yX10_seed : MethodName := ⟨RX10, "seed", "(I)I"⟩
abbrev cX10_keep : ByteArray := prog_12_method_67_code
def yX10_keep : MethodName := ⟨RX10, "keep", "(I)I"⟩
abbrev cX10_goBack : ByteArray := prog_12_method_68_code
def yX10_goBack : MethodName := ⟨RX10, "goBack", "(I)I"⟩
def RJ6 : String := "java/lang/Integer"
def TJ6 : u_T := fun k => match k with
  | _ => ("", "", "", false)
def tyJ6 : Nat → FieldType := fun k => match k with
  | _ => .int
abbrev wsJ60 : List Cond := u_ws RJ6 TJ6 0
theorem nmJ6 : ∀ a, a < 0 → ∀ b, b < 0 → a ≠ b → (TJ6 a).2.1 ≠ (TJ6 b).2.1 := by decide +kernel
theorem tyJ6_ok : ∀ k, k < 0 → parseFieldDescriptor (TJ6 k).2.2.1 = some (tyJ6 k) := by decide +kernel
abbrev cJ6_bitCount_0f7a4 : ByteArray := prog_13_method_49_code
def yJ6_bitCount_0f7a4 : MethodName := ⟨RJ6, "bitCount", "(I)I"⟩
def RJ9 : String := "java/lang/Math"
def TJ9 : u_T := fun k => match k with
  | _ => ("", "", "", false)
def tyJ9 : Nat → FieldType := fun k => match k with
  | _ => .int
abbrev wsJ90 : List Cond := u_ws RJ9 TJ9 0
theorem nmJ9 : ∀ a, a < 0 → ∀ b, b < 0 → a ≠ b → (TJ9 a).2.1 ≠ (TJ9 b).2.1 := by decide +kernel
theorem tyJ9_ok : ∀ k, k < 0 → parseFieldDescriptor (TJ9 k).2.2.1 = some (tyJ9 k) := by decide +kernel
abbrev cJ9_max_7cf53 : ByteArray := prog_14_method_65_code
def yJ9_max_7cf53 : MethodName := ⟨RJ9, "max", "(II)I"⟩
abbrev cJ9_min_7cf53 : ByteArray := prog_14_method_69_code
def yJ9_min_7cf53 : MethodName := ⟨RJ9, "min", "(II)I"⟩
def RJ10 : String := "java/lang/System"
def TJ10 : u_T := fun k => match k with
  | _ => ("", "", "", false)
def tyJ10 : Nat → FieldType := fun k => match k with
  | _ => .int
abbrev wsJ100 : List Cond := u_ws RJ10 TJ10 0
theorem nmJ10 : ∀ a, a < 0 → ∀ b, b < 0 → a ≠ b → (TJ10 a).2.1 ≠ (TJ10 b).2.1 := by decide +kernel
theorem tyJ10_ok : ∀ k, k < 0 → parseFieldDescriptor (TJ10 k).2.2.1 = some (tyJ10 k) := by decide +kernel
def RJ7 : String := "java/util/Arrays"
def TJ7 : u_T := fun k => match k with
  | _ => ("", "", "", false)
def tyJ7 : Nat → FieldType := fun k => match k with
  | _ => .int
abbrev wsJ70 : List Cond := u_ws RJ7 TJ7 0
theorem nmJ7 : ∀ a, a < 0 → ∀ b, b < 0 → a ≠ b → (TJ7 a).2.1 ≠ (TJ7 b).2.1 := by decide +kernel
theorem tyJ7_ok : ∀ k, k < 0 → parseFieldDescriptor (TJ7 k).2.2.1 = some (tyJ7 k) := by decide +kernel
abbrev cJ7_fill_53178 : ByteArray := prog_16_method_103_code
def yJ7_fill_53178 : MethodName := ⟨RJ7, "fill", "([II)V"⟩
def RL : String := "QuarrelBridgesLaw"
abbrev cL_law : ByteArray := code
def yL_law : MethodName := ⟨RL, "law", "([I)Z"⟩
end
section
/-! my own frame over the kit: one list of words for all methods, one shape of contract, one row for each kind of call -/
abbrev classes : List vw_C := [(RX0, TX0, 3), (RX1, TX1, 10), (RX2, TX2, 3), (RX3, TX3, 3), (RX4, TX4, 5), (RX5, TX5, 7), (RX6, TX6, 2), (RX7, TX7, 1), (RX8, TX8, 10), (RX9, TX9, 17), (RX10, TX10, 45)]
abbrev TYS (cI cZ : ClassId) : List (ClassId × FieldType) := [(cI, .int), (cZ, .boolean)]
def BG : List Cond := lw_tbl.filter goodWord
theorem BG_in {w : Cond} (h1 : w ∈ lw_tbl) (h2 : goodWord w = true) : w ∈ BG := List.mem_filter.mpr ⟨h1, h2⟩
theorem BG_tbl {w : Cond} (h : w ∈ BG) : w ∈ lw_tbl := (List.mem_filter.mp h).1
theorem BG_good {w : Cond} (h : w ∈ BG) : (w.onTables && w.keeps) = true ∨ ∃ ty, w = .arrayClass ty := good_of_word (List.mem_filter.mp h).2
theorem gB {w : Cond} (h : w ∈ BG) : GoodIn BG (w :: BG) := fun v hv => (List.mem_cons.mp hv).elim (fun e => by rw [e]; exact ⟨h, BG_good h⟩) (fun h => ⟨h, BG_good h⟩)
def NM : List (String × Nat × MethodName × String) := [(RX9, 22, yX5_init, RX9), (RX9, 29, yX8_init, RX9), (RX9, 39, yX7_init, RX9), (RX9, 46, yX2_init, RX9), (RX9, 68, yX0_init, RX9), (RX9, 78, yX4_init, RX9), (RX9, 85, yX3_init, RX9), (RX9, 92, yX1_init, RX9), (RX0, 22, yX9_put, RX9), (RX0, 26, yX9_at, RX9), (RX1, 65, yX9_at, RX9), (RX1, 69, yX9_put, RX9), (RX3, 21, yX9_put, RX9), (RX3, 35, yX9_at, RX9), (RX4, 26, yX9_stampOf, RX9), (RX5, 91, yX9_put, RX9), (RX7, 30, yX9_at, RX9), (RX7, 34, yX9_put, RX9), (RX8, 43, yX9_at, RX9)]
theorem NM_tbl : ∀ q ∈ NM, Cond.methodLinkNest q.1 q.2.1 q.2.2.1 q.2.2.2 ∈ lw_tbl := by decide +kernel
def zN (U : State) : Prop := ∀ q ∈ NM, va_Nw (.methodLinkNest q.1 q.2.1 q.2.2.1 q.2.2.2) U
theorem zN.warm {s U : State} (hW : s.WarmedH U.vm) (h : zN s) : zN U := fun q hq => va_Nw.warmM hW (h q hq)
theorem zN.m {U : State} (h : zN U) (k : Nat) {a : String} {i : Nat} {y : MethodName} {b : String} (hk : NM[k]? = some (a, i, y, b)) : va_Nw (.methodLinkNest a i y b) U := h _ (List.mem_of_getElem? hk)
def WD (D : va_G) (A : Nat → Prop) (ws : va_W) (t : State) : Prop := va_P D classes ws t.heap ∧ va_D A ws
def PC (D : va_G) (cI cZ : ClassId) (av : List Value) (sz : Nat) (ws : va_W) : Array Value → State → Prop := va_Pc av (fun U => U.heap.size = sz ∧ va_P D classes ws U.heap ∧ va_K D classes (TYS cI cZ) U ∧ va_D (fun _ => True) ws ∧ zN U)
theorem PC_blind {D : va_G} {cI cZ : ClassId} {av : List Value} {sz : Nat} {ws : va_W} : FrameBlind (PC D cI cZ av sz ws) := fun a U g mk q => ⟨q.1, q.2.1, q.2.2.1, va_K.moved (u := U) (U := U.calling g mk a) (Vm.Alike.refl U.vm) q.2.2.2.1, q.2.2.2.2.1, fun z hz => va_Nw.same rfl (u := U) (U := U.calling g mk a) rfl (q.2.2.2.2.2 z hz)⟩
theorem PC_pre {D : va_G} {cI cZ : ClassId} {av : List Value} {ws : va_W} {s : State} {H : Heap} {A : Nat → Prop} (hK : va_K D classes (TYS cI cZ) s) (hP : va_P D classes ws H) (hD : va_D A ws) (hN : zN s) : ∀ U : State, U.heap = H → s.WarmedH U.vm → PC D cI cZ av H.size ws av.toArray U := fun U hU hW => ⟨rfl, by rw [hU], by rw [hU]; exact hP, va_K.moved hW.alike hK, hD.weaken (fun _ _ _ _ => trivial), hN.warm hW⟩
/-- the contract of a method that answers an int (or a boolean) -/
def KI (l : Launch) (y : MethodName) (cc : ByteArray) (n : Nat) (ret : Option FieldType) (rm : Room) (D : va_G) (cI cZ : ClassId) {S : Type} (av : List Value) (sz : Nat) (ws : va_W) (post : Int32 → S → Prop) (w1 : S → va_W) : Prop :=
  Met l y (Cond.code y cc n ret :: BG) rm (PC D cI cZ av sz ws) (va_Qi post (fun u t => WD D (va_A ws sz) (w1 u) t) (va_A ws sz)) rm.cells rm.slots (va_A ws sz)
/-- the contract of a void method -/
def KV (l : Launch) (y : MethodName) (cc : ByteArray) (n : Nat) (rm : Room) (D : va_G) (cI cZ : ClassId) {S : Type} (av : List Value) (sz : Nat) (ws : va_W) (post : S → Prop) (w1 : S → va_W) : Prop :=
  Met l y (Cond.code y cc n none :: BG) rm (PC D cI cZ av sz ws) (va_Qv post (fun u t => WD D (va_A ws sz) (w1 u) t) (va_A ws sz)) rm.cells rm.slots (va_A ws sz)
theorem KI.go {l : Launch} {y : MethodName} {cc : ByteArray} {n : Nat} {ty : FieldType} {rm : Room} {D : va_G} {cI cZ : ClassId} {S : Type} {av : List Value} {sz : Nat} {ws : va_W} {post : Int32 → S → Prop} {w1 : S → va_W} (hy : plainName y.cls = true) (hav : (lg_sl av).length ≤ n)
    (body : ∀ (p : Program) (e : Env) (s : State) (m : MethodId) (args : Array Value) (below : List Frame) (meth : Method) (c : Code) (ls : Array Slot) (A : Nat → Prop) (Q : State → Prop), p.tables.exec = Jvm.exec → c.code = cc → c.maxLocals = n → (∀ w ∈ BG, w.before args s = true) → s.vm.findClass y.cls = some m.cls → meth.name = y.name → va_P D classes ws s.heap → va_K D classes (TYS cI cZ) s → va_D A ws → va_S A s.heap s.heap [] → (∀ q, s.heap.size ≤ q → A q) → zN s → lv_has ls n (lv_args 0 av) →
      (∀ (v : Int32) (u : S) (H : Heap) (locs : List Loc) (ls : Array Slot) (pc : Nat), decode cc pc = .ok (.ireturn, 1) → narrow ty (.int v) = .int v → post v u → va_P D classes (w1 u) H → va_D A (w1 u) → va_S A s.heap H locs → W p l e rm s m args below meth c H locs rm.cells rm.slots Q (F0 m pc ls [.int v])) →
      W p l e rm s m args below meth c s.heap [] 0 0 Q (F0 m 0 ls [])) : KI l y cc n (some ty) rm D cI cZ av sz ws post w1 := by
  refine Met.ofW (cc := cc) (maxL := n) (ret := some ty) hy rfl ?_
  intro p e s m args below meth c s₁ B hml hv
  obtain ⟨rfl, hsz, hP, hK, hD0, hN⟩ := hv
  have hts0 := atoms_spec (ws := Cond.code y cc n (some ty) :: BG) B.pre
  subst hsz
  have hl := lv_entry av (n := n) hav
  rw [lg_entry_eq]
  refine body p e s m av.toArray below meth c _ _ _ B.exec B.bytes hml (fun w h => hts0 w (List.mem_cons_of_mem _ h)) (findClass_of_methodNamed B.named) (name_of_methodNamed B.named B.method).1 hP hK (hD0.self (sz := s.heap.size)) va_S.rf (fun q h => Or.inr h) hN hl ?_
  intro v u H locs ls pc hdg hn hpost hP1 hD1 hS
  exact W.zret (v := v) B.exec B.bytes B.returns hn (fun t ht hW => ⟨⟨v, u, rfl, hpost, by rw [ht]; exact hP1, hD1⟩, hS.F ht⟩) hS.2.2 hdg B.notSynchronized
theorem KV.go {l : Launch} {y : MethodName} {cc : ByteArray} {n : Nat} {rm : Room} {D : va_G} {cI cZ : ClassId} {S : Type} {av : List Value} {sz : Nat} {ws : va_W} {post : S → Prop} {w1 : S → va_W} (hy : plainName y.cls = true) (hav : (lg_sl av).length ≤ n)
    (body : ∀ (p : Program) (e : Env) (s : State) (m : MethodId) (args : Array Value) (below : List Frame) (meth : Method) (c : Code) (ls : Array Slot) (A : Nat → Prop) (Q : State → Prop), p.tables.exec = Jvm.exec → c.code = cc → c.maxLocals = n → (∀ w ∈ BG, w.before args s = true) → s.vm.findClass y.cls = some m.cls → meth.name = y.name → va_P D classes ws s.heap → va_K D classes (TYS cI cZ) s → va_D A ws → va_S A s.heap s.heap [] → (∀ q, s.heap.size ≤ q → A q) → zN s → lv_has ls n (lv_args 0 av) →
      (∀ (u : S) (H : Heap) (locs : List Loc) (ls : Array Slot) (pc : Nat), decode cc pc = .ok (.return_, 1) → post u → va_P D classes (w1 u) H → va_D A (w1 u) → va_S A s.heap H locs → W p l e rm s m args below meth c H locs rm.cells rm.slots Q (F0 m pc ls [])) →
      W p l e rm s m args below meth c s.heap [] 0 0 Q (F0 m 0 ls [])) : KV l y cc n rm D cI cZ av sz ws post w1 := by
  refine Met.ofW (cc := cc) (maxL := n) (ret := none) hy rfl ?_
  intro p e s m args below meth c s₁ B hml hv
  obtain ⟨rfl, hsz, hP, hK, hD0, hN⟩ := hv
  have hts0 := atoms_spec (ws := Cond.code y cc n none :: BG) B.pre
  subst hsz
  have hl := lv_entry av (n := n) hav
  rw [lg_entry_eq]
  refine body p e s m av.toArray below meth c _ _ _ B.exec B.bytes hml (fun w h => hts0 w (List.mem_cons_of_mem _ h)) (findClass_of_methodNamed B.named) (name_of_methodNamed B.named B.method).1 hP hK (hD0.self (sz := s.heap.size)) va_S.rf (fun q h => Or.inr h) hN hl ?_
  intro u H locs ls pc hdg hpost hP1 hD1 hS
  exact W.vret B.exec B.bytes B.returns (fun t ht hW => ⟨⟨u, rfl, hpost, by rw [ht]; exact hP1, hD1⟩, hS.F ht⟩) hS.2.2 hdg B.notSynchronized
section CALLS
variable {p : Program} {l : Launch} {e : Env} {R : Room} {s : State} {m : MethodId} {args : Array Value} {below : List Frame} {meth : Method} {c : Code} {H H0 : Heap} {locs : List Loc} {cells slots : Nat} {Q : State → Prop} {D : va_G} {cI cZ : ClassId} {A : Nat → Prop} {ws wc wr : va_W} {rm : Room} {pc : Nat} {ls : Array Slot} {st0 rest : List Value} {a : Array Value} {S : Type} {cc : ByteArray} {own : String}
theorem fin_i {post : Int32 → S → Prop} {w1 : S → va_W} (hP : va_P D classes ws H) (hD : va_D A ws) (hS : va_S A H0 H locs) (hA : ∀ q, H0.size ≤ q → A q) (isC isR : List Nat) (hC : isC.map (fun i => ws[i]?) = wc.map some) (hR : isR.map (fun i => ws[i]?) = wr.map some) (hn : va_nd isR = true) (hdis : ∀ i ∈ isR, i ∉ isC)
    (hr : va_Run p l e R s m args below meth c H locs cells slots rm.cells rm.slots (F0 m pc ls st0) rest (va_Qi post (fun u t => WD D (va_A wc H.size) (w1 u) t) (va_A wc H.size) a) (va_A wc H.size))
    (kk : ∀ (r : Int32) (u : S) (H1 : Heap) (locs1 : List Loc), post r u → va_P D classes (wr ++ w1 u) H1 → va_D A (wr ++ w1 u) → va_S A H0 H1 locs1 → W p l e R s m args below meth c H1 locs1 (cells + rm.cells) (slots + rm.slots) Q (F0 m (pc + 3) ls (.int r :: rest))) : W p l e R s m args below meth c H locs cells slots Q (F0 m pc ls st0) := by
  have hFc := va_free hD hS hA isC hC
  refine va_calli hr hS (fun q _ h => hFc q h) hFc (fun r u t H1 locs1 ht hvm hw hB hz1 hk1 hS1 => ?_)
  obtain ⟨hP1, hD1⟩ := hB
  rw [ht] at hP1
  obtain ⟨hP2, hD2⟩ := va_join hP hD isC isR hC hR hn hdis hk1 hFc hP1 hD1
  exact kk r u H1 locs1 hw hP2 hD2 hS1
theorem fin_v {post : S → Prop} {w1 : S → va_W} (hP : va_P D classes ws H) (hD : va_D A ws) (hS : va_S A H0 H locs) (hA : ∀ q, H0.size ≤ q → A q) (isC isR : List Nat) (hC : isC.map (fun i => ws[i]?) = wc.map some) (hR : isR.map (fun i => ws[i]?) = wr.map some) (hn : va_nd isR = true) (hdis : ∀ i ∈ isR, i ∉ isC)
    (hr : va_Run p l e R s m args below meth c H locs cells slots rm.cells rm.slots (F0 m pc ls st0) rest (va_Qv post (fun u t => WD D (va_A wc H.size) (w1 u) t) (va_A wc H.size) a) (va_A wc H.size))
    (kk : ∀ (u : S) (H1 : Heap) (locs1 : List Loc), post u → va_P D classes (wr ++ w1 u) H1 → va_D A (wr ++ w1 u) → va_S A H0 H1 locs1 → W p l e R s m args below meth c H1 locs1 (cells + rm.cells) (slots + rm.slots) Q (F0 m (pc + 3) ls rest)) : W p l e R s m args below meth c H locs cells slots Q (F0 m pc ls st0) := by
  have hFc := va_free hD hS hA isC hC
  refine va_callv hr hS (fun q _ h => hFc q h) hFc (fun u t H1 locs1 ht hvm hw hB hz1 hk1 hS1 => ?_)
  obtain ⟨hP1, hD1⟩ := hB
  rw [ht] at hP1
  obtain ⟨hP2, hD2⟩ := va_join hP hD isC isR hC hR hn hdis hk1 hFc hP1 hD1
  exact kk u H1 locs1 hw hP2 hD2 hS1
/-- the words that a method wants wherever it is called -/
def okM (y : MethodName) (bytes : ByteArray) (maxL : Nat) (ret : Option FieldType) (n : Nat) : Prop := Cond.code y bytes maxL ret ∈ BG ∧ Cond.initialized y.cls ∈ BG ∧ (y.cls ≠ "java/lang/invoke/MethodHandle" ∧ y.cls ≠ "java/lang/invoke/VarHandle" ∧ (parseMethodDescriptor y.desc).map (fun d => d.parameters.length) = some n)
def okV (y : MethodName) (bytes : ByteArray) (maxL : Nat) (ret : Option FieldType) (n : Nat) : Prop := okM y bytes maxL ret n ∧ Cond.instanceMethod y ∈ BG ∧ Cond.selects y.cls y y ∈ BG
def okS (y : MethodName) (bytes : ByteArray) (maxL : Nat) (ret : Option FieldType) (n : Nat) : Prop := okM y bytes maxL ret n ∧ Cond.static y ∈ BG
def okI (y : MethodName) (bytes : ByteArray) (maxL : Nat) (n : Nat) : Prop := okM y bytes maxL none n ∧ Cond.instanceMethod y ∈ BG ∧ y.name = "<init>"
variable {y : MethodName} {bytes : ByteArray} {maxL nL index : Nat} {ret : Option FieldType} {As : List Value} {b : Nat}
theorem cB (hts : ∀ w ∈ BG, w.before args s = true) (ok : okM y bytes maxL ret As.length) (hlink : Cond.methodLink own index y ∈ BG) (hR1 : rm.frames + 1 ≤ R.frames) (hR2 : 8 + (maxL + 11) + rm.locals ≤ R.locals) : CallB R s args own index y bytes maxL ret (Cond.code y bytes maxL ret :: BG) rm rm.cells rm.slots As.length :=
  callB_of As.length hts (gB ok.1) rfl rfl rfl (hts _ ok.2.1) (hts _ hlink) ok.2.2 ⟨hR1, hR2⟩
theorem cutP {isC : List Nat} (hP : va_P D classes ws H) (hC : isC.map (fun i => ws[i]?) = wc.map some) : va_P D classes wc H := fun k q hk => by
  have h1 : (wc.map some)[k]? = some (some q) := by rw [List.getElem?_map, hk]; rfl
  rw [← hC, List.getElem?_map] at h1
  cases hi : isC[k]? with
  | none => rw [hi] at h1; cases h1
  | some i => rw [hi] at h1; exact hP i q (Option.some.inj h1)
theorem cutD {isC : List Nat} (hD : va_D A ws) (hC : isC.map (fun i => ws[i]?) = wc.map some) (hnd : va_nd isC = true) : va_D A wc := by
  have g1 : ∀ (k : Nat) (q : Nat × va_E), wc[k]? = some q → ∃ i, isC[k]? = some i ∧ ws[i]? = some q := fun k q hk => by
    have h1 : (wc.map some)[k]? = some (some q) := by rw [List.getElem?_map, hk]; rfl
    rw [← hC, List.getElem?_map] at h1
    cases hi : isC[k]? with
    | none => rw [hi] at h1; cases h1
    | some i => rw [hi] at h1; exact ⟨i, rfl, Option.some.inj h1⟩
  refine ⟨fun i j x y hi hj hxy => ?_, fun k q hk => ?_⟩
  · obtain ⟨i1, a1, a2⟩ := g1 i x hi
    obtain ⟨j1, b1, b2⟩ := g1 j y hj
    have h2 := hD.1 i1 j1 x y a2 b2 hxy
    subst h2
    exact va_nd_inj isC hnd i j i1 a1 b1
  · obtain ⟨i1, a1, a2⟩ := g1 k q hk
    exact hD.2 i1 q a2
theorem cVi {post : Int32 → S → Prop} {w1 : S → va_W} (hM : KI l y bytes maxL ret rm D cI cZ (.ref b :: As) H.size wc post w1) (ok : okV y bytes maxL ret As.length) (hlink : Cond.methodLink own index y ∈ BG) (hx : p.tables.exec = Jvm.exec) (hb : c.code = cc) (hml : c.maxLocals = nL) (hown : s.vm.findClass own = some m.cls) (hts : ∀ w ∈ BG, w.before args s = true) (hK : va_K D classes (TYS cI cZ) s) (hP : va_P D classes ws H) (hD : va_D A ws) (hS : va_S A H0 H locs) (hA : ∀ q, H0.size ≤ q → A q) (hN : zN s) (hsz : ls.size = nL) (isC isR : List Nat) (hC : isC.map (fun i => ws[i]?) = wc.map some) (hR : isR.map (fun i => ws[i]?) = wr.map some) (hnC : va_nd isC = true) (hnR : va_nd isR = true) (hdis : ∀ i ∈ isR, i ∉ isC) {ci : Nat} {fs : List Value} {T : u_T} {N : Nat} (hrec : wc[0]? = some (b, .inr (ci, fs))) (hcl : classes[ci]? = some (y.cls, T, N)) (hst : st0 = As.reverse ++ .ref b :: rest) (hroom : (rest.map fun v => v.category).sum ≤ 8) (hR1 : rm.frames + 1 ≤ R.frames) (hR2 : 8 + (maxL + 11) + rm.locals ≤ R.locals) (hR3 : cells + rm.cells ≤ R.cells) (hR4 : slots + rm.slots ≤ R.slots) (hdg : decode cc pc = .ok (.invokevirtual index, 3))
    (kk : ∀ (r : Int32) (u : S) (H1 : Heap) (locs1 : List Loc), post r u → va_P D classes (wr ++ w1 u) H1 → va_D A (wr ++ w1 u) → va_S A H0 H1 locs1 → W p l e R s m args below meth c H1 locs1 (cells + rm.cells) (slots + rm.slots) Q (F0 m (pc + 3) ls (.int r :: rest))) : W p l e R s m args below meth c H locs cells slots Q (F0 m pc ls st0) := by
  have hPc := cutP hP hC
  have hDc := cutD hD hC hnC
  exact fin_i hP hD hS hA isC isR hC hR hnR hdis (va_runV (As := As) (rest := rest) ⟨hx, hb, hml, hown, hts⟩ hM ⟨cB hts ok.1 hlink hR1 hR2, hts _ ok.2.1, hts _ ok.2.2⟩ ⟨PC_blind, va_recv hK hPc hcl hrec, PC_pre hK hPc hDc hN⟩ rfl rfl hsz hst (lv_room hroom) hdg ⟨hR3, hR4⟩) kk
theorem cVv {post : S → Prop} {w1 : S → va_W} (hM : KV l y bytes maxL rm D cI cZ (.ref b :: As) H.size wc post w1) (ok : okV y bytes maxL none As.length) (hlink : Cond.methodLink own index y ∈ BG) (hx : p.tables.exec = Jvm.exec) (hb : c.code = cc) (hml : c.maxLocals = nL) (hown : s.vm.findClass own = some m.cls) (hts : ∀ w ∈ BG, w.before args s = true) (hK : va_K D classes (TYS cI cZ) s) (hP : va_P D classes ws H) (hD : va_D A ws) (hS : va_S A H0 H locs) (hA : ∀ q, H0.size ≤ q → A q) (hN : zN s) (hsz : ls.size = nL) (isC isR : List Nat) (hC : isC.map (fun i => ws[i]?) = wc.map some) (hR : isR.map (fun i => ws[i]?) = wr.map some) (hnC : va_nd isC = true) (hnR : va_nd isR = true) (hdis : ∀ i ∈ isR, i ∉ isC) {ci : Nat} {fs : List Value} {T : u_T} {N : Nat} (hrec : wc[0]? = some (b, .inr (ci, fs))) (hcl : classes[ci]? = some (y.cls, T, N)) (hst : st0 = As.reverse ++ .ref b :: rest) (hroom : (rest.map fun v => v.category).sum ≤ 8) (hR1 : rm.frames + 1 ≤ R.frames) (hR2 : 8 + (maxL + 11) + rm.locals ≤ R.locals) (hR3 : cells + rm.cells ≤ R.cells) (hR4 : slots + rm.slots ≤ R.slots) (hdg : decode cc pc = .ok (.invokevirtual index, 3))
    (kk : ∀ (u : S) (H1 : Heap) (locs1 : List Loc), post u → va_P D classes (wr ++ w1 u) H1 → va_D A (wr ++ w1 u) → va_S A H0 H1 locs1 → W p l e R s m args below meth c H1 locs1 (cells + rm.cells) (slots + rm.slots) Q (F0 m (pc + 3) ls rest)) : W p l e R s m args below meth c H locs cells slots Q (F0 m pc ls st0) := by
  have hPc := cutP hP hC
  have hDc := cutD hD hC hnC
  exact fin_v hP hD hS hA isC isR hC hR hnR hdis (va_runV (As := As) (rest := rest) ⟨hx, hb, hml, hown, hts⟩ hM ⟨cB hts ok.1 hlink hR1 hR2, hts _ ok.2.1, hts _ ok.2.2⟩ ⟨PC_blind, va_recv hK hPc hcl hrec, PC_pre hK hPc hDc hN⟩ rfl rfl hsz hst (lv_room hroom) hdg ⟨hR3, hR4⟩) kk
theorem cSi {post : Int32 → S → Prop} {w1 : S → va_W} (hM : KI l y bytes maxL ret rm D cI cZ As H.size wc post w1) (ok : okS y bytes maxL ret As.length) (hlink : Cond.methodLink own index y ∈ BG) (hx : p.tables.exec = Jvm.exec) (hb : c.code = cc) (hml : c.maxLocals = nL) (hown : s.vm.findClass own = some m.cls) (hts : ∀ w ∈ BG, w.before args s = true) (hK : va_K D classes (TYS cI cZ) s) (hP : va_P D classes ws H) (hD : va_D A ws) (hS : va_S A H0 H locs) (hA : ∀ q, H0.size ≤ q → A q) (hN : zN s) (hsz : ls.size = nL) (isC isR : List Nat) (hC : isC.map (fun i => ws[i]?) = wc.map some) (hR : isR.map (fun i => ws[i]?) = wr.map some) (hnC : va_nd isC = true) (hnR : va_nd isR = true) (hdis : ∀ i ∈ isR, i ∉ isC) (hst : st0 = As.reverse ++ rest) (hroom : (rest.map fun v => v.category).sum ≤ 8) (hR1 : rm.frames + 1 ≤ R.frames) (hR2 : 8 + (maxL + 11) + rm.locals ≤ R.locals) (hR3 : cells + rm.cells ≤ R.cells) (hR4 : slots + rm.slots ≤ R.slots) (hdg : decode cc pc = .ok (.invokestatic index, 3))
    (kk : ∀ (r : Int32) (u : S) (H1 : Heap) (locs1 : List Loc), post r u → va_P D classes (wr ++ w1 u) H1 → va_D A (wr ++ w1 u) → va_S A H0 H1 locs1 → W p l e R s m args below meth c H1 locs1 (cells + rm.cells) (slots + rm.slots) Q (F0 m (pc + 3) ls (.int r :: rest))) : W p l e R s m args below meth c H locs cells slots Q (F0 m pc ls st0) := by
  have hPc := cutP hP hC
  have hDc := cutD hD hC hnC
  exact fin_i hP hD hS hA isC isR hC hR hnR hdis (va_runS (As := As) (rest := rest) ⟨hx, hb, hml, hown, hts⟩ hM ⟨cB hts ok.1 hlink hR1 hR2, hts _ ok.2⟩ ⟨PC_blind, PC_pre hK hPc hDc hN⟩ rfl rfl hsz hst (lv_room hroom) hdg ⟨hR3, hR4⟩) kk
theorem cSv {post : S → Prop} {w1 : S → va_W} (hM : KV l y bytes maxL rm D cI cZ As H.size wc post w1) (ok : okS y bytes maxL none As.length) (hlink : Cond.methodLink own index y ∈ BG) (hx : p.tables.exec = Jvm.exec) (hb : c.code = cc) (hml : c.maxLocals = nL) (hown : s.vm.findClass own = some m.cls) (hts : ∀ w ∈ BG, w.before args s = true) (hK : va_K D classes (TYS cI cZ) s) (hP : va_P D classes ws H) (hD : va_D A ws) (hS : va_S A H0 H locs) (hA : ∀ q, H0.size ≤ q → A q) (hN : zN s) (hsz : ls.size = nL) (isC isR : List Nat) (hC : isC.map (fun i => ws[i]?) = wc.map some) (hR : isR.map (fun i => ws[i]?) = wr.map some) (hnC : va_nd isC = true) (hnR : va_nd isR = true) (hdis : ∀ i ∈ isR, i ∉ isC) (hst : st0 = As.reverse ++ rest) (hroom : (rest.map fun v => v.category).sum ≤ 8) (hR1 : rm.frames + 1 ≤ R.frames) (hR2 : 8 + (maxL + 11) + rm.locals ≤ R.locals) (hR3 : cells + rm.cells ≤ R.cells) (hR4 : slots + rm.slots ≤ R.slots) (hdg : decode cc pc = .ok (.invokestatic index, 3))
    (kk : ∀ (u : S) (H1 : Heap) (locs1 : List Loc), post u → va_P D classes (wr ++ w1 u) H1 → va_D A (wr ++ w1 u) → va_S A H0 H1 locs1 → W p l e R s m args below meth c H1 locs1 (cells + rm.cells) (slots + rm.slots) Q (F0 m (pc + 3) ls rest)) : W p l e R s m args below meth c H locs cells slots Q (F0 m pc ls st0) := by
  have hPc := cutP hP hC
  have hDc := cutD hD hC hnC
  exact fin_v hP hD hS hA isC isR hC hR hnR hdis (va_runS (As := As) (rest := rest) ⟨hx, hb, hml, hown, hts⟩ hM ⟨cB hts ok.1 hlink hR1 hR2, hts _ ok.2⟩ ⟨PC_blind, PC_pre hK hPc hDc hN⟩ rfl rfl hsz hst (lv_room hroom) hdg ⟨hR3, hR4⟩) kk
theorem cNi {post : Int32 → S → Prop} {w1 : S → va_W} (hM : KI l y bytes maxL ret rm D cI cZ As H.size wc post w1) (ok : okS y bytes maxL ret As.length) {host : String} (k : Nat) (hlink : NM[k]? = some (own, index, y, host)) (hx : p.tables.exec = Jvm.exec) (hb : c.code = cc) (hml : c.maxLocals = nL) (hown : s.vm.findClass own = some m.cls) (hts : ∀ w ∈ BG, w.before args s = true) (hK : va_K D classes (TYS cI cZ) s) (hP : va_P D classes ws H) (hD : va_D A ws) (hS : va_S A H0 H locs) (hA : ∀ q, H0.size ≤ q → A q) (hN : zN s) (hsz : ls.size = nL) (isC isR : List Nat) (hC : isC.map (fun i => ws[i]?) = wc.map some) (hR : isR.map (fun i => ws[i]?) = wr.map some) (hnC : va_nd isC = true) (hnR : va_nd isR = true) (hdis : ∀ i ∈ isR, i ∉ isC) (hst : st0 = As.reverse ++ rest) (hroom : (rest.map fun v => v.category).sum ≤ 8) (hR1 : rm.frames + 1 ≤ R.frames) (hR2 : 8 + (maxL + 11) + rm.locals ≤ R.locals) (hR3 : cells + rm.cells ≤ R.cells) (hR4 : slots + rm.slots ≤ R.slots) (hdg : decode cc pc = .ok (.invokestatic index, 3))
    (kk : ∀ (r : Int32) (u : S) (H1 : Heap) (locs1 : List Loc), post r u → va_P D classes (wr ++ w1 u) H1 → va_D A (wr ++ w1 u) → va_S A H0 H1 locs1 → W p l e R s m args below meth c H1 locs1 (cells + rm.cells) (slots + rm.slots) Q (F0 m (pc + 3) ls (.int r :: rest))) : W p l e R s m args below meth c H locs cells slots Q (F0 m pc ls st0) := by
  have hPc := cutP hP hC
  have hDc := cutD hD hC hnC
  exact fin_i hP hD hS hA isC isR hC hR hnR hdis (va_runSN (As := As) (rest := rest) ⟨hx, hb, hml, hown, hts⟩ hM ⟨⟨⟨rfl, rfl, hR1, hR2, pay_in hts (gB ok.1.1), List.mem_cons_self⟩, hts _ ok.1.1, hts _ ok.1.2.1, ⟨ok.1.2.2.1, ok.1.2.2.2.1⟩, fun sig h => by have h2 := ok.1.2.2.2.2; rw [h] at h2; exact (Option.some.inj h2).symm, va_Nw.use rfl (hN.m k hlink)⟩, hts _ ok.2, trivial⟩ ⟨PC_blind, PC_pre hK hPc hDc hN⟩ rfl rfl hsz hst (lv_room hroom) hdg ⟨hR3, hR4⟩) kk
theorem cNv {post : S → Prop} {w1 : S → va_W} (hM : KV l y bytes maxL rm D cI cZ As H.size wc post w1) (ok : okS y bytes maxL none As.length) {host : String} (k : Nat) (hlink : NM[k]? = some (own, index, y, host)) (hx : p.tables.exec = Jvm.exec) (hb : c.code = cc) (hml : c.maxLocals = nL) (hown : s.vm.findClass own = some m.cls) (hts : ∀ w ∈ BG, w.before args s = true) (hK : va_K D classes (TYS cI cZ) s) (hP : va_P D classes ws H) (hD : va_D A ws) (hS : va_S A H0 H locs) (hA : ∀ q, H0.size ≤ q → A q) (hN : zN s) (hsz : ls.size = nL) (isC isR : List Nat) (hC : isC.map (fun i => ws[i]?) = wc.map some) (hR : isR.map (fun i => ws[i]?) = wr.map some) (hnC : va_nd isC = true) (hnR : va_nd isR = true) (hdis : ∀ i ∈ isR, i ∉ isC) (hst : st0 = As.reverse ++ rest) (hroom : (rest.map fun v => v.category).sum ≤ 8) (hR1 : rm.frames + 1 ≤ R.frames) (hR2 : 8 + (maxL + 11) + rm.locals ≤ R.locals) (hR3 : cells + rm.cells ≤ R.cells) (hR4 : slots + rm.slots ≤ R.slots) (hdg : decode cc pc = .ok (.invokestatic index, 3))
    (kk : ∀ (u : S) (H1 : Heap) (locs1 : List Loc), post u → va_P D classes (wr ++ w1 u) H1 → va_D A (wr ++ w1 u) → va_S A H0 H1 locs1 → W p l e R s m args below meth c H1 locs1 (cells + rm.cells) (slots + rm.slots) Q (F0 m (pc + 3) ls rest)) : W p l e R s m args below meth c H locs cells slots Q (F0 m pc ls st0) := by
  have hPc := cutP hP hC
  have hDc := cutD hD hC hnC
  exact fin_v hP hD hS hA isC isR hC hR hnR hdis (va_runSN (As := As) (rest := rest) ⟨hx, hb, hml, hown, hts⟩ hM ⟨⟨⟨rfl, rfl, hR1, hR2, pay_in hts (gB ok.1.1), List.mem_cons_self⟩, hts _ ok.1.1, hts _ ok.1.2.1, ⟨ok.1.2.2.1, ok.1.2.2.2.1⟩, fun sig h => by have h2 := ok.1.2.2.2.2; rw [h] at h2; exact (Option.some.inj h2).symm, va_Nw.use rfl (hN.m k hlink)⟩, hts _ ok.2, trivial⟩ ⟨PC_blind, PC_pre hK hPc hDc hN⟩ rfl rfl hsz hst (lv_room hroom) hdg ⟨hR3, hR4⟩) kk
theorem cIv {post : S → Prop} {w1 : S → va_W} (hM : KV l y bytes maxL rm D cI cZ (.ref b :: As) H.size wc post w1) (ok : okI y bytes maxL As.length) (hlink : Cond.methodLink own index y ∈ BG) (hx : p.tables.exec = Jvm.exec) (hb : c.code = cc) (hml : c.maxLocals = nL) (hown : s.vm.findClass own = some m.cls) (hts : ∀ w ∈ BG, w.before args s = true) (hK : va_K D classes (TYS cI cZ) s) (hP : va_P D classes ws H) (hD : va_D A ws) (hS : va_S A H0 H locs) (hA : ∀ q, H0.size ≤ q → A q) (hN : zN s) (hsz : ls.size = nL) (isC isR : List Nat) (hC : isC.map (fun i => ws[i]?) = wc.map some) (hR : isR.map (fun i => ws[i]?) = wr.map some) (hnC : va_nd isC = true) (hnR : va_nd isR = true) (hdis : ∀ i ∈ isR, i ∉ isC) (hst : st0 = As.reverse ++ .ref b :: rest) (hroom : (rest.map fun v => v.category).sum ≤ 8) (hR1 : rm.frames + 1 ≤ R.frames) (hR2 : 8 + (maxL + 11) + rm.locals ≤ R.locals) (hR3 : cells + rm.cells ≤ R.cells) (hR4 : slots + rm.slots ≤ R.slots) (hdg : decode cc pc = .ok (.invokespecial index, 3))
    (kk : ∀ (u : S) (H1 : Heap) (locs1 : List Loc), post u → va_P D classes (wr ++ w1 u) H1 → va_D A (wr ++ w1 u) → va_S A H0 H1 locs1 → W p l e R s m args below meth c H1 locs1 (cells + rm.cells) (slots + rm.slots) Q (F0 m (pc + 3) ls rest)) : W p l e R s m args below meth c H locs cells slots Q (F0 m pc ls st0) := by
  have hPc := cutP hP hC
  have hDc := cutD hD hC hnC
  exact fin_v hP hD hS hA isC isR hC hR hnR hdis (va_runI (As := As) (rest := rest) ⟨hx, hb, hml, hown, hts⟩ hM ⟨cB hts ok.1 hlink hR1 hR2, ok.2.2, hts _ ok.2.1⟩ ⟨PC_blind, PC_pre hK hPc hDc hN⟩ rfl rfl hsz hst (lv_room hroom) hdg ⟨hR3, hR4⟩) kk
theorem cMv {post : S → Prop} {w1 : S → va_W} (hM : KV l y bytes maxL rm D cI cZ (.ref b :: As) H.size wc post w1) (ok : okI y bytes maxL As.length) {host : String} (k : Nat) (hlink : NM[k]? = some (own, index, y, host)) (hx : p.tables.exec = Jvm.exec) (hb : c.code = cc) (hml : c.maxLocals = nL) (hown : s.vm.findClass own = some m.cls) (hts : ∀ w ∈ BG, w.before args s = true) (hK : va_K D classes (TYS cI cZ) s) (hP : va_P D classes ws H) (hD : va_D A ws) (hS : va_S A H0 H locs) (hA : ∀ q, H0.size ≤ q → A q) (hN : zN s) (hsz : ls.size = nL) (isC isR : List Nat) (hC : isC.map (fun i => ws[i]?) = wc.map some) (hR : isR.map (fun i => ws[i]?) = wr.map some) (hnC : va_nd isC = true) (hnR : va_nd isR = true) (hdis : ∀ i ∈ isR, i ∉ isC) (hst : st0 = As.reverse ++ .ref b :: rest) (hroom : (rest.map fun v => v.category).sum ≤ 8) (hR1 : rm.frames + 1 ≤ R.frames) (hR2 : 8 + (maxL + 11) + rm.locals ≤ R.locals) (hR3 : cells + rm.cells ≤ R.cells) (hR4 : slots + rm.slots ≤ R.slots) (hdg : decode cc pc = .ok (.invokespecial index, 3))
    (kk : ∀ (u : S) (H1 : Heap) (locs1 : List Loc), post u → va_P D classes (wr ++ w1 u) H1 → va_D A (wr ++ w1 u) → va_S A H0 H1 locs1 → W p l e R s m args below meth c H1 locs1 (cells + rm.cells) (slots + rm.slots) Q (F0 m (pc + 3) ls rest)) : W p l e R s m args below meth c H locs cells slots Q (F0 m pc ls st0) := by
  have hPc := cutP hP hC
  have hDc := cutD hD hC hnC
  exact fin_v hP hD hS hA isC isR hC hR hnR hdis (va_runIN (As := As) (rest := rest) ⟨hx, hb, hml, hown, hts⟩ hM ⟨⟨⟨rfl, rfl, hR1, hR2, pay_in hts (gB ok.1.1), List.mem_cons_self⟩, hts _ ok.1.1, hts _ ok.1.2.1, ⟨ok.1.2.2.1, ok.1.2.2.2.1⟩, fun sig h => by have h2 := ok.1.2.2.2.2; rw [h] at h2; exact (Option.some.inj h2).symm, va_Nw.use rfl (hN.m k hlink)⟩, ok.2.2, hts _ ok.2.1⟩ ⟨PC_blind, PC_pre hK hPc hDc hN⟩ rfl rfl hsz hst (lv_room hroom) hdg ⟨hR3, hR4⟩) kk
end CALLS
/-- the class of a new array of ints, of booleans is the one that is known -/
theorem K_int {D : va_G} {cI cZ cA : ClassId} {s : State} (h : va_K D classes (TYS cI cZ ++ [(cA, .int)]) s) : cA = cI := by
  have h1 := (h.2 0 (cI, .int) rfl).2
  have h2 := (h.2 2 (cA, .int) rfl).2
  exact (Option.some.inj (h1.symm.trans h2)).symm
theorem K_bool {D : va_G} {cI cZ cA : ClassId} {s : State} (h : va_K D classes (TYS cI cZ ++ [(cA, .boolean)]) s) : cA = cZ := by
  have h1 := (h.2 1 (cZ, .boolean) rfl).2
  have h2 := (h.2 2 (cA, .boolean) rfl).2
  exact (Option.some.inj (h1.symm.trans h2)).symm
theorem K_start {D : va_G} {s : State} {args : Array Value} (h : ∀ (k : Nat) (q : vw_C), classes[k]? = some q → u_Kn s q.1 q.2.1 q.2.2 (D.1 k) (D.2 k)) (hi : (Cond.arrayClass .int).before args s = true) (hz : (Cond.arrayClass .boolean).before args s = true) : ∃ cI cZ, va_K D classes (TYS cI cZ) s := by
  obtain ⟨cA, kA, comp, hfind, hk, hkind⟩ := Cond.arrayClass_spec hi
  obtain ⟨cB, kB, compB, hfindB, hkB, hkindB⟩ := Cond.arrayClass_spec hz
  refine ⟨cA, cB, h, fun k q hq => ?_⟩
  match k, hq with
  | 0, hq => cases hq; exact ⟨fun n z => ⟨fun k h => (by cases h), kA, hk, comp, hkind⟩, hfind⟩
  | 1, hq => cases hq; exact ⟨fun n z => ⟨fun k h => (by cases h), kB, hkB, compB, hkindB⟩, hfindB⟩
  | k + 2, hq => simp at hq
def z0 : Nat → Int32 := fun _ => 0
theorem z0_int (n : Nat) (cA : ClassId) : vp_cell cA (n, .inl z0) = arrV cA n (fun _ => defaultValue .int) := rfl
theorem z0_bool (n : Nat) (cA : ClassId) : vp_cell cA (n, .inl z0) = arrV cA n (fun _ => defaultValue .boolean) := rfl
end
section
theorem dX9_at_0 : decode cX9_at 0 = .ok (.iload_n 1, 1) := by decide +kernel
theorem dX9_at_1 : decode cX9_at 1 = .ok (.ifCond .lt 15, 3) := by decide +kernel
theorem dX9_at_16 : decode cX9_at 16 = .ok (.iconst 0, 1) := by decide +kernel
theorem dX9_at_17 : decode cX9_at 17 = .ok (.ireturn, 1) := by decide +kernel
theorem dX9_at_4 : decode cX9_at 4 = .ok (.iload_n 1, 1) := by decide +kernel
theorem dX9_at_5 : decode cX9_at 5 = .ok (.aload_n 0, 1) := by decide +kernel
theorem dX9_at_6 : decode cX9_at 6 = .ok (.arraylength, 1) := by decide +kernel
theorem dX9_at_7 : decode cX9_at 7 = .ok (.if_icmp .ge 9, 3) := by decide +kernel
theorem dX9_at_10 : decode cX9_at 10 = .ok (.aload_n 0, 1) := by decide +kernel
theorem dX9_at_11 : decode cX9_at 11 = .ok (.iload_n 1, 1) := by decide +kernel
theorem dX9_at_12 : decode cX9_at 12 = .ok (.iaload, 1) := by decide +kernel
theorem dX9_at_13 : decode cX9_at 13 = .ok (.goto 4, 3) := by decide +kernel
theorem dX9_put_0 : decode cX9_put 0 = .ok (.iload_n 1, 1) := by decide +kernel
theorem dX9_put_1 : decode cX9_put 1 = .ok (.ifCond .lt 13, 3) := by decide +kernel
theorem dX9_put_14 : decode cX9_put 14 = .ok (.return_, 1) := by decide +kernel
theorem dX9_put_4 : decode cX9_put 4 = .ok (.iload_n 1, 1) := by decide +kernel
theorem dX9_put_5 : decode cX9_put 5 = .ok (.aload_n 0, 1) := by decide +kernel
theorem dX9_put_6 : decode cX9_put 6 = .ok (.arraylength, 1) := by decide +kernel
theorem dX9_put_7 : decode cX9_put 7 = .ok (.if_icmp .ge 7, 3) := by decide +kernel
theorem dX9_put_10 : decode cX9_put 10 = .ok (.aload_n 0, 1) := by decide +kernel
theorem dX9_put_11 : decode cX9_put 11 = .ok (.iload_n 1, 1) := by decide +kernel
theorem dX9_put_12 : decode cX9_put 12 = .ok (.iload_n 2, 1) := by decide +kernel
theorem dX9_put_13 : decode cX9_put 13 = .ok (.iastore, 1) := by decide +kernel
theorem vin {i : Int32} {n : Nat} (hn : n < 2 ^ 31) (h1 : ¬ i < 0) (h2 : ¬ Int32.ofNat n ≤ i) : vp_in i n := by
  obtain ⟨j, hj, rfl⟩ := nI_of h1
  have h3 : ¬ n ≤ j := fun h => h2 ((nI_leI hn hj).mpr h)
  exact nI_in (by omega) hn
theorem vout {i : Int32} {n : Nat} (hn : n < 2 ^ 31) (h1 : ¬ i < 0) (h2 : Int32.ofNat n ≤ i) : n ≤ i.toNatClampNeg := by
  obtain ⟨j, hj, rfl⟩ := nI_of h1
  rw [nI_clamp hj]
  exact (nI_leI hn hj).mp h2
/-- at(row, i) -/
def atF (n : Nat) (f : Nat → Int32) (i : Int32) : Int32 := if i < 0 ∨ n ≤ i.toNatClampNeg then 0 else f i.toNatClampNeg
/-- put(row, i, x) -/
def putF (n : Nat) (f : Nat → Int32) (i x : Int32) : Nat → Int32 := if i < 0 ∨ n ≤ i.toNatClampNeg then f else upd f i.toNatClampNeg x
theorem atF_out {n : Nat} {f : Nat → Int32} {i : Int32} (h : i < 0 ∨ n ≤ i.toNatClampNeg) : 0 = atF n f i := (if_pos h).symm
theorem atF_in {n : Nat} {f : Nat → Int32} {i : Int32} (h : vp_in i n) : f i.toNatClampNeg = atF n f i := (if_neg h).symm
theorem putF_out {n : Nat} {f : Nat → Int32} {i x : Int32} (h : i < 0 ∨ n ≤ i.toNatClampNeg) : f = putF n f i x := (if_pos h).symm
theorem putF_in {n : Nat} {f : Nat → Int32} {i x : Int32} (h : vp_in i n) : upd f i.toNatClampNeg x = putF n f i x := (if_neg h).symm
def rm_k_at : Room := { frames := 0, cells := 0, slots := 0, locals := 0 }
set_option maxHeartbeats 4000000 in
set_option maxRecDepth 100000 in
theorem k_at {l : Launch} {D : va_G} {cI cZ : ClassId} {sz : Nat} (a n : Nat) (f : Nat → Int32) (i : Int32) (hn : n < 2 ^ 31) : KI l yX9_at cX9_at 2 (some .int) rm_k_at D cI cZ [.ref a, .int i] sz [(a, .inl (cI, n, .inl f))] (fun (r : Int32) (_ : Unit) => r = atF n f i) (fun (_ : Unit) => [(a, .inl (cI, n, .inl f))]) := by
  refine KI.go rfl (Nat.le_of_ble_eq_true rfl) ?_
  intro p e s m args below meth c ls A Q hx hb hml hts hown hin hP hK hD hS hA hN hl hret
  have hl : lv_has ls 2 [(0, .ref a), (1, .int i)] := hl
  refine lv_iload_n hx hb dX9_at_0 rfl (lv_at hl 1 rfl) ?_
  refine lv_if_lt (tgt := 16) hx hb dX9_at_1 (by decide) (fun c_1 => ?_) (fun c_1 => ?_)
  · refine lv_iconst (v := 0) hx hb dX9_at_16 (by decide) ?_
    exact hret 0 () _ _ _ _ dX9_at_17 rfl (atF_out (Or.inl c_1)) hP hD hS
  · refine lv_iload_n hx hb dX9_at_4 rfl (lv_at hl 1 rfl) ?_
    refine lv_aload_n hx hb dX9_at_5 rfl (lv_at hl 0 rfl) ?_
    refine va_alen (v := (Int32.ofNat n)) hx hb hK hP 0 0 rfl rfl rfl dX9_at_6 ?_
    refine lv_icmp_ge (tgt := 16) hx hb dX9_at_7 (by decide) (fun c_2 => ?_) (fun c_2 => ?_)
    · refine lv_iconst (v := 0) hx hb dX9_at_16 (by decide) ?_
      exact hret 0 () _ _ _ _ dX9_at_17 rfl (atF_out (Or.inr (vout hn c_1 c_2))) hP hD hS
    · refine lv_aload_n hx hb dX9_at_10 rfl (lv_at hl 0 rfl) ?_
      refine lv_iload_n hx hb dX9_at_11 rfl (lv_at hl 1 rfl) ?_
      refine va_iald hx hb hK hP 0 0 rfl rfl (vin hn c_1 c_2) dX9_at_12 ?_
      refine lv_goto (tgt := 17) hx hb dX9_at_13 (by decide) ?_
      exact hret (f (i : Int32).toNatClampNeg) () _ _ _ _ dX9_at_17 rfl (atF_in (vin hn c_1 c_2)) hP hD hS
def rm_k_put : Room := { frames := 0, cells := 0, slots := 0, locals := 0 }
set_option maxHeartbeats 4000000 in
set_option maxRecDepth 100000 in
theorem k_put {l : Launch} {D : va_G} {cI cZ : ClassId} {sz : Nat} (a n : Nat) (f : Nat → Int32) (i x : Int32) (hn : n < 2 ^ 31) : KV l yX9_put cX9_put 3 rm_k_put D cI cZ [.ref a, .int i, .int x] sz [(a, .inl (cI, n, .inl f))] (fun (_ : Unit) => True) (fun (_ : Unit) => [(a, .inl (cI, n, .inl (putF n f i x)))]) := by
  refine KV.go rfl (Nat.le_of_ble_eq_true rfl) ?_
  intro p e s m args below meth c ls A Q hx hb hml hts hown hin hP hK hD hS hA hN hl hret
  have hl : lv_has ls 3 [(0, .ref a), (1, .int i), (2, .int x)] := hl
  refine lv_iload_n hx hb dX9_put_0 rfl (lv_at hl 1 rfl) ?_
  refine lv_if_lt (tgt := 14) hx hb dX9_put_1 (by decide) (fun c_1 => ?_) (fun c_1 => ?_)
  · have hP : va_P D classes [(a, .inl (cI, n, .inl (putF n f i x)))] s.heap := by rw [← putF_out (x := x) (Or.inl c_1)]; exact hP
    have hD : va_D A [(a, .inl (cI, n, .inl (putF n f i x)))] := by rw [← putF_out (x := x) (Or.inl c_1)]; exact hD
    exact hret () _ _ _ _ dX9_put_14 trivial hP hD hS
  · refine lv_iload_n hx hb dX9_put_4 rfl (lv_at hl 1 rfl) ?_
    refine lv_aload_n hx hb dX9_put_5 rfl (lv_at hl 0 rfl) ?_
    refine va_alen (v := (Int32.ofNat n)) hx hb hK hP 0 0 rfl rfl rfl dX9_put_6 ?_
    refine lv_icmp_ge (tgt := 14) hx hb dX9_put_7 (by decide) (fun c_2 => ?_) (fun c_2 => ?_)
    · have hP : va_P D classes [(a, .inl (cI, n, .inl (putF n f i x)))] s.heap := by rw [← putF_out (x := x) (Or.inr (vout hn c_1 c_2))]; exact hP
      have hD : va_D A [(a, .inl (cI, n, .inl (putF n f i x)))] := by rw [← putF_out (x := x) (Or.inr (vout hn c_1 c_2))]; exact hD
      exact hret () _ _ _ _ dX9_put_14 trivial hP hD hS
    · refine lv_aload_n hx hb dX9_put_10 rfl (lv_at hl 0 rfl) ?_
      refine lv_iload_n hx hb dX9_put_11 rfl (lv_at hl 1 rfl) ?_
      refine lv_iload_n hx hb dX9_put_12 rfl (lv_at hl 2 rfl) ?_
      refine va_iast hx hb hK hP hD hS 0 0 rfl rfl (vin hn c_1 c_2) dX9_put_13 (fun H locs hP hD hS => ?_)
      have hP : va_P D classes [(a, .inl (cI, n, .inl (upd f (i : Int32).toNatClampNeg x)))] H := hP
      have hD : va_D A [(a, .inl (cI, n, .inl (upd f (i : Int32).toNatClampNeg x)))] := hD
      have hP : va_P D classes [(a, .inl (cI, n, .inl (putF n f i x)))] H := by rw [← putF_in (vin hn c_1 c_2)]; exact hP
      have hD : va_D A [(a, .inl (cI, n, .inl (putF n f i x)))] := by rw [← putF_in (vin hn c_1 c_2)]; exact hD
      exact hret () _ _ _ _ dX9_put_14 trivial hP hD hS
end
section
theorem dX8_init_0 : decode cX8_init 0 = .ok (.aload_n 0, 1) := by decide +kernel
theorem dX8_init_1 : decode cX8_init 1 = .ok (.invokespecial 3, 3) := by decide +kernel
theorem wd_0 : Cond.methodLink RX8 3 objectInit ∈ BG := BG_in (by decide +kernel) rfl
theorem wd_1 : Cond.instanceMethod objectInit ∈ BG := BG_in (by decide +kernel) rfl
theorem wd_2 : Cond.code objectInit ⟨#[0xb1]⟩ 1 none ∈ BG := BG_in (by decide +kernel) rfl
theorem dX8_init_4 : decode cX8_init 4 = .ok (.aload_n 0, 1) := by decide +kernel
theorem dX8_init_5 : decode cX8_init 5 = .ok (.iconst 0, 1) := by decide +kernel
theorem iX8_t : ∀ w ∈ wsX80, w ∈ lw_tbl ∧ goodWord w = true := by decide +kernel
theorem iX8 : ∀ w ∈ wsX80, w ∈ BG := fun w h => BG_in (iX8_t w h).1 (iX8_t w h).2
theorem wd_3 : Cond.fieldLink RX8 9 "QuarrelBridges$Town" "bridges" "I" ∈ BG := BG_in (by decide +kernel) rfl
theorem dX8_init_6 : decode cX8_init 6 = .ok (.putfield 9, 3) := by decide +kernel
theorem dX8_init_9 : decode cX8_init 9 = .ok (.aload_n 0, 1) := by decide +kernel
theorem dX8_init_10 : decode cX8_init 10 = .ok (.iconst 1, 1) := by decide +kernel
theorem wd_4 : Cond.fieldLink RX8 15 "QuarrelBridges$Town" "themes" "I" ∈ BG := BG_in (by decide +kernel) rfl
theorem dX8_init_11 : decode cX8_init 11 = .ok (.putfield 15, 3) := by decide +kernel
theorem dX8_init_14 : decode cX8_init 14 = .ok (.aload_n 0, 1) := by decide +kernel
theorem dX8_init_15 : decode cX8_init 15 = .ok (.iconst 0, 1) := by decide +kernel
theorem wd_5 : Cond.fieldLink RX8 18 "QuarrelBridges$Town" "couples" "I" ∈ BG := BG_in (by decide +kernel) rfl
theorem dX8_init_16 : decode cX8_init 16 = .ok (.putfield 18, 3) := by decide +kernel
theorem dX8_init_19 : decode cX8_init 19 = .ok (.aload_n 0, 1) := by decide +kernel
theorem dX8_init_20 : decode cX8_init 20 = .ok (.iconst 0, 1) := by decide +kernel
theorem wd_6 : Cond.fieldLink RX8 21 "QuarrelBridges$Town" "barges" "I" ∈ BG := BG_in (by decide +kernel) rfl
theorem dX8_init_21 : decode cX8_init 21 = .ok (.putfield 21, 3) := by decide +kernel
theorem dX8_init_24 : decode cX8_init 24 = .ok (.aload_n 0, 1) := by decide +kernel
theorem dX8_init_25 : decode cX8_init 25 = .ok (.iconst 0, 1) := by decide +kernel
theorem wd_7 : Cond.fieldLink RX8 24 "QuarrelBridges$Town" "snow" "I" ∈ BG := BG_in (by decide +kernel) rfl
theorem dX8_init_26 : decode cX8_init 26 = .ok (.putfield 24, 3) := by decide +kernel
theorem dX8_init_29 : decode cX8_init 29 = .ok (.aload_n 0, 1) := by decide +kernel
theorem dX8_init_30 : decode cX8_init 30 = .ok (.bipush 6, 2) := by decide +kernel
theorem wd_8 : Cond.arrayClass .int ∈ BG := BG_in (by decide +kernel) rfl
theorem dX8_init_32 : decode cX8_init 32 = .ok (.newarray .int, 2) := by decide +kernel
theorem wd_9 : Cond.fieldLink RX8 27 "QuarrelBridges$Town" "needs" "[I" ∈ BG := BG_in (by decide +kernel) rfl
theorem dX8_init_34 : decode cX8_init 34 = .ok (.putfield 27, 3) := by decide +kernel
theorem dX8_init_37 : decode cX8_init 37 = .ok (.aload_n 0, 1) := by decide +kernel
theorem dX8_init_38 : decode cX8_init 38 = .ok (.bipush 6, 2) := by decide +kernel
theorem dX8_init_40 : decode cX8_init 40 = .ok (.newarray .int, 2) := by decide +kernel
theorem wd_10 : Cond.fieldLink RX8 31 "QuarrelBridges$Town" "grievances" "[I" ∈ BG := BG_in (by decide +kernel) rfl
theorem dX8_init_42 : decode cX8_init 42 = .ok (.putfield 31, 3) := by decide +kernel
theorem dX8_init_45 : decode cX8_init 45 = .ok (.aload_n 0, 1) := by decide +kernel
theorem dX8_init_46 : decode cX8_init 46 = .ok (.bipush 30, 2) := by decide +kernel
theorem dX8_init_48 : decode cX8_init 48 = .ok (.newarray .int, 2) := by decide +kernel
theorem wd_11 : Cond.fieldLink RX8 34 "QuarrelBridges$Town" "forces" "[I" ∈ BG := BG_in (by decide +kernel) rfl
theorem dX8_init_50 : decode cX8_init 50 = .ok (.putfield 34, 3) := by decide +kernel
theorem dX8_init_53 : decode cX8_init 53 = .ok (.aload_n 0, 1) := by decide +kernel
theorem dX8_init_54 : decode cX8_init 54 = .ok (.bipush 7, 2) := by decide +kernel
theorem dX8_init_56 : decode cX8_init 56 = .ok (.newarray .int, 2) := by decide +kernel
theorem wd_12 : Cond.fieldLink RX8 37 "QuarrelBridges$Town" "upTo" "[I" ∈ BG := BG_in (by decide +kernel) rfl
theorem dX8_init_58 : decode cX8_init 58 = .ok (.putfield 37, 3) := by decide +kernel
theorem dX8_init_61 : decode cX8_init 61 = .ok (.aload_n 0, 1) := by decide +kernel
theorem dX8_init_62 : decode cX8_init 62 = .ok (.bipush 7, 2) := by decide +kernel
theorem dX8_init_64 : decode cX8_init 64 = .ok (.newarray .int, 2) := by decide +kernel
theorem wd_13 : Cond.fieldLink RX8 40 "QuarrelBridges$Town" "tides" "[I" ∈ BG := BG_in (by decide +kernel) rfl
theorem dX8_init_66 : decode cX8_init 66 = .ok (.putfield 40, 3) := by decide +kernel
theorem dX8_init_69 : decode cX8_init 69 = .ok (.return_, 1) := by decide +kernel
theorem dX7_init_0 : decode cX7_init 0 = .ok (.aload_n 0, 1) := by decide +kernel
theorem dX7_init_1 : decode cX7_init 1 = .ok (.invokespecial 5, 3) := by decide +kernel
theorem wd_14 : Cond.methodLink RX7 5 objectInit ∈ BG := BG_in (by decide +kernel) rfl
theorem dX7_init_4 : decode cX7_init 4 = .ok (.aload_n 0, 1) := by decide +kernel
theorem dX7_init_5 : decode cX7_init 5 = .ok (.bipush 41, 2) := by decide +kernel
theorem dX7_init_7 : decode cX7_init 7 = .ok (.newarray .int, 2) := by decide +kernel
theorem iX7_t : ∀ w ∈ wsX70, w ∈ lw_tbl ∧ goodWord w = true := by decide +kernel
theorem iX7 : ∀ w ∈ wsX70, w ∈ BG := fun w h => BG_in (iX7_t w h).1 (iX7_t w h).2
theorem wd_15 : Cond.fieldLink RX7 11 "QuarrelBridges$State" "cells" "[I" ∈ BG := BG_in (by decide +kernel) rfl
theorem dX7_init_9 : decode cX7_init 9 = .ok (.putfield 11, 3) := by decide +kernel
theorem dX7_init_12 : decode cX7_init 12 = .ok (.return_, 1) := by decide +kernel
theorem dX0_init_0 : decode cX0_init 0 = .ok (.aload_n 0, 1) := by decide +kernel
theorem dX0_init_1 : decode cX0_init 1 = .ok (.invokespecial 3, 3) := by decide +kernel
theorem wd_16 : Cond.methodLink RX0 3 objectInit ∈ BG := BG_in (by decide +kernel) rfl
theorem dX0_init_4 : decode cX0_init 4 = .ok (.aload_n 0, 1) := by decide +kernel
theorem dX0_init_5 : decode cX0_init 5 = .ok (.iconst 0, 1) := by decide +kernel
theorem iX0_t : ∀ w ∈ wsX00, w ∈ lw_tbl ∧ goodWord w = true := by decide +kernel
theorem iX0 : ∀ w ∈ wsX00, w ∈ BG := fun w h => BG_in (iX0_t w h).1 (iX0_t w h).2
theorem wd_17 : Cond.fieldLink RX0 9 "QuarrelBridges$Book" "entries" "I" ∈ BG := BG_in (by decide +kernel) rfl
theorem dX0_init_6 : decode cX0_init 6 = .ok (.putfield 9, 3) := by decide +kernel
theorem dX0_init_9 : decode cX0_init 9 = .ok (.aload_n 0, 1) := by decide +kernel
theorem dX0_init_10 : decode cX0_init 10 = .ok (.bipush 15, 2) := by decide +kernel
theorem dX0_init_12 : decode cX0_init 12 = .ok (.newarray .int, 2) := by decide +kernel
theorem wd_18 : Cond.fieldLink RX0 15 "QuarrelBridges$Book" "couples" "[I" ∈ BG := BG_in (by decide +kernel) rfl
theorem dX0_init_14 : decode cX0_init 14 = .ok (.putfield 15, 3) := by decide +kernel
theorem dX0_init_17 : decode cX0_init 17 = .ok (.aload_n 0, 1) := by decide +kernel
theorem dX0_init_18 : decode cX0_init 18 = .ok (.bipush 15, 2) := by decide +kernel
theorem dX0_init_20 : decode cX0_init 20 = .ok (.newarray .int, 2) := by decide +kernel
theorem wd_19 : Cond.fieldLink RX0 19 "QuarrelBridges$Book" "grievances" "[I" ∈ BG := BG_in (by decide +kernel) rfl
theorem dX0_init_22 : decode cX0_init 22 = .ok (.putfield 19, 3) := by decide +kernel
theorem dX0_init_25 : decode cX0_init 25 = .ok (.return_, 1) := by decide +kernel
theorem dX4_init_0 : decode cX4_init 0 = .ok (.aload_n 0, 1) := by decide +kernel
theorem dX4_init_1 : decode cX4_init 1 = .ok (.invokespecial 1, 3) := by decide +kernel
theorem wd_20 : Cond.methodLink RX4 1 objectInit ∈ BG := BG_in (by decide +kernel) rfl
theorem dX4_init_4 : decode cX4_init 4 = .ok (.aload_n 0, 1) := by decide +kernel
theorem dX4_init_5 : decode cX4_init 5 = .ok (.iconst 0, 1) := by decide +kernel
theorem iX4_t : ∀ w ∈ wsX40, w ∈ lw_tbl ∧ goodWord w = true := by decide +kernel
theorem iX4 : ∀ w ∈ wsX40, w ∈ BG := fun w h => BG_in (iX4_t w h).1 (iX4_t w h).2
theorem wd_21 : Cond.fieldLink RX4 7 "QuarrelBridges$Quarrel" "minutes" "I" ∈ BG := BG_in (by decide +kernel) rfl
theorem dX4_init_6 : decode cX4_init 6 = .ok (.putfield 7, 3) := by decide +kernel
theorem dX4_init_9 : decode cX4_init 9 = .ok (.aload_n 0, 1) := by decide +kernel
theorem dX4_init_10 : decode cX4_init 10 = .ok (.iconst 0, 1) := by decide +kernel
theorem wd_22 : Cond.fieldLink RX4 13 "QuarrelBridges$Quarrel" "cost" "I" ∈ BG := BG_in (by decide +kernel) rfl
theorem dX4_init_11 : decode cX4_init 11 = .ok (.putfield 13, 3) := by decide +kernel
theorem dX4_init_14 : decode cX4_init 14 = .ok (.aload_n 0, 1) := by decide +kernel
theorem dX4_init_15 : decode cX4_init 15 = .ok (.iconst 0, 1) := by decide +kernel
theorem wd_23 : Cond.fieldLink RX4 16 "QuarrelBridges$Quarrel" "left" "I" ∈ BG := BG_in (by decide +kernel) rfl
theorem dX4_init_16 : decode cX4_init 16 = .ok (.putfield 16, 3) := by decide +kernel
theorem dX4_init_19 : decode cX4_init 19 = .ok (.aload_n 0, 1) := by decide +kernel
theorem dX4_init_20 : decode cX4_init 20 = .ok (.iconst 0, 1) := by decide +kernel
theorem wd_24 : Cond.fieldLink RX4 19 "QuarrelBridges$Quarrel" "opened" "Z" ∈ BG := BG_in (by decide +kernel) rfl
theorem dX4_init_21 : decode cX4_init 21 = .ok (.putfield 19, 3) := by decide +kernel
theorem dX4_init_24 : decode cX4_init 24 = .ok (.aload_n 0, 1) := by decide +kernel
theorem dX4_init_25 : decode cX4_init 25 = .ok (.iconst 0, 1) := by decide +kernel
theorem wd_25 : Cond.fieldLink RX4 23 "QuarrelBridges$Quarrel" "reconciled" "Z" ∈ BG := BG_in (by decide +kernel) rfl
theorem dX4_init_26 : decode cX4_init 26 = .ok (.putfield 23, 3) := by decide +kernel
theorem dX4_init_29 : decode cX4_init 29 = .ok (.return_, 1) := by decide +kernel
theorem dX3_init_0 : decode cX3_init 0 = .ok (.aload_n 0, 1) := by decide +kernel
theorem dX3_init_1 : decode cX3_init 1 = .ok (.invokespecial 3, 3) := by decide +kernel
theorem wd_26 : Cond.methodLink RX3 3 objectInit ∈ BG := BG_in (by decide +kernel) rfl
theorem dX3_init_4 : decode cX3_init 4 = .ok (.aload_n 0, 1) := by decide +kernel
theorem dX3_init_5 : decode cX3_init 5 = .ok (.bipush 36, 2) := by decide +kernel
theorem dX3_init_7 : decode cX3_init 7 = .ok (.newarray .int, 2) := by decide +kernel
theorem iX3_t : ∀ w ∈ wsX30, w ∈ lw_tbl ∧ goodWord w = true := by decide +kernel
theorem iX3 : ∀ w ∈ wsX30, w ∈ BG := fun w h => BG_in (iX3_t w h).1 (iX3_t w h).2
theorem wd_27 : Cond.fieldLink RX3 9 "QuarrelBridges$Pairing" "asked" "[I" ∈ BG := BG_in (by decide +kernel) rfl
theorem dX3_init_9 : decode cX3_init 9 = .ok (.putfield 9, 3) := by decide +kernel
theorem dX3_init_12 : decode cX3_init 12 = .ok (.aload_n 0, 1) := by decide +kernel
theorem dX3_init_13 : decode cX3_init 13 = .ok (.bipush 64, 2) := by decide +kernel
theorem dX3_init_15 : decode cX3_init 15 = .ok (.newarray .int, 2) := by decide +kernel
theorem wd_28 : Cond.fieldLink RX3 15 "QuarrelBridges$Pairing" "least" "[I" ∈ BG := BG_in (by decide +kernel) rfl
theorem dX3_init_17 : decode cX3_init 17 = .ok (.putfield 15, 3) := by decide +kernel
theorem dX3_init_20 : decode cX3_init 20 = .ok (.aload_n 0, 1) := by decide +kernel
theorem dX3_init_21 : decode cX3_init 21 = .ok (.bipush 64, 2) := by decide +kernel
theorem dX3_init_23 : decode cX3_init 23 = .ok (.newarray .int, 2) := by decide +kernel
theorem wd_29 : Cond.fieldLink RX3 18 "QuarrelBridges$Pairing" "choice" "[I" ∈ BG := BG_in (by decide +kernel) rfl
theorem dX3_init_25 : decode cX3_init 25 = .ok (.putfield 18, 3) := by decide +kernel
theorem dX3_init_28 : decode cX3_init 28 = .ok (.return_, 1) := by decide +kernel
theorem dX1_init_0 : decode cX1_init 0 = .ok (.aload_n 0, 1) := by decide +kernel
theorem dX1_init_1 : decode cX1_init 1 = .ok (.invokespecial 3, 3) := by decide +kernel
theorem wd_30 : Cond.methodLink RX1 3 objectInit ∈ BG := BG_in (by decide +kernel) rfl
theorem dX1_init_4 : decode cX1_init 4 = .ok (.aload_n 0, 1) := by decide +kernel
theorem dX1_init_5 : decode cX1_init 5 = .ok (.iconst 0, 1) := by decide +kernel
theorem iX1_t : ∀ w ∈ wsX10, w ∈ lw_tbl ∧ goodWord w = true := by decide +kernel
theorem iX1 : ∀ w ∈ wsX10, w ∈ BG := fun w h => BG_in (iX1_t w h).1 (iX1_t w h).2
theorem wd_31 : Cond.fieldLink RX1 9 "QuarrelBridges$Convoy" "length" "I" ∈ BG := BG_in (by decide +kernel) rfl
theorem dX1_init_6 : decode cX1_init 6 = .ok (.putfield 9, 3) := by decide +kernel
theorem dX1_init_9 : decode cX1_init 9 = .ok (.aload_n 0, 1) := by decide +kernel
theorem dX1_init_10 : decode cX1_init 10 = .ok (.bipush 7, 2) := by decide +kernel
theorem dX1_init_12 : decode cX1_init 12 = .ok (.newarray .int, 2) := by decide +kernel
theorem wd_32 : Cond.fieldLink RX1 15 "QuarrelBridges$Convoy" "row" "[I" ∈ BG := BG_in (by decide +kernel) rfl
theorem dX1_init_14 : decode cX1_init 14 = .ok (.putfield 15, 3) := by decide +kernel
theorem dX1_init_17 : decode cX1_init 17 = .ok (.aload_n 0, 1) := by decide +kernel
theorem dX1_init_18 : decode cX1_init 18 = .ok (.bipush 6, 2) := by decide +kernel
theorem dX1_init_20 : decode cX1_init 20 = .ok (.newarray .int, 2) := by decide +kernel
theorem wd_33 : Cond.fieldLink RX1 19 "QuarrelBridges$Convoy" "openings" "[I" ∈ BG := BG_in (by decide +kernel) rfl
theorem dX1_init_22 : decode cX1_init 22 = .ok (.putfield 19, 3) := by decide +kernel
theorem dX1_init_25 : decode cX1_init 25 = .ok (.aload_n 0, 1) := by decide +kernel
theorem dX1_init_26 : decode cX1_init 26 = .ok (.bipush 48, 2) := by decide +kernel
theorem dX1_init_28 : decode cX1_init 28 = .ok (.newarray .int, 2) := by decide +kernel
theorem wd_34 : Cond.fieldLink RX1 22 "QuarrelBridges$Convoy" "spent" "[I" ∈ BG := BG_in (by decide +kernel) rfl
theorem dX1_init_30 : decode cX1_init 30 = .ok (.putfield 22, 3) := by decide +kernel
theorem dX1_init_33 : decode cX1_init 33 = .ok (.aload_n 0, 1) := by decide +kernel
theorem dX1_init_34 : decode cX1_init 34 = .ok (.sipush 128, 3) := by decide +kernel
theorem dX1_init_37 : decode cX1_init 37 = .ok (.newarray .int, 2) := by decide +kernel
theorem wd_35 : Cond.fieldLink RX1 25 "QuarrelBridges$Convoy" "behind" "[I" ∈ BG := BG_in (by decide +kernel) rfl
theorem dX1_init_39 : decode cX1_init 39 = .ok (.putfield 25, 3) := by decide +kernel
theorem dX1_init_42 : decode cX1_init 42 = .ok (.aload_n 0, 1) := by decide +kernel
theorem dX1_init_43 : decode cX1_init 43 = .ok (.sipush 128, 3) := by decide +kernel
theorem dX1_init_46 : decode cX1_init 46 = .ok (.newarray .int, 2) := by decide +kernel
theorem wd_36 : Cond.fieldLink RX1 28 "QuarrelBridges$Convoy" "most" "[I" ∈ BG := BG_in (by decide +kernel) rfl
theorem dX1_init_48 : decode cX1_init 48 = .ok (.putfield 28, 3) := by decide +kernel
theorem dX1_init_51 : decode cX1_init 51 = .ok (.aload_n 0, 1) := by decide +kernel
theorem dX1_init_52 : decode cX1_init 52 = .ok (.sipush 128, 3) := by decide +kernel
theorem dX1_init_55 : decode cX1_init 55 = .ok (.newarray .int, 2) := by decide +kernel
theorem wd_37 : Cond.fieldLink RX1 31 "QuarrelBridges$Convoy" "choice" "[I" ∈ BG := BG_in (by decide +kernel) rfl
theorem dX1_init_57 : decode cX1_init 57 = .ok (.putfield 31, 3) := by decide +kernel
theorem dX1_init_60 : decode cX1_init 60 = .ok (.aload_n 0, 1) := by decide +kernel
theorem dX1_init_61 : decode cX1_init 61 = .ok (.iconst 0, 1) := by decide +kernel
theorem wd_38 : Cond.fieldLink RX1 34 "QuarrelBridges$Convoy" "waiting" "I" ∈ BG := BG_in (by decide +kernel) rfl
theorem dX1_init_62 : decode cX1_init 62 = .ok (.putfield 34, 3) := by decide +kernel
theorem dX1_init_65 : decode cX1_init 65 = .ok (.aload_n 0, 1) := by decide +kernel
theorem dX1_init_66 : decode cX1_init 66 = .ok (.iconst 0, 1) := by decide +kernel
theorem wd_39 : Cond.fieldLink RX1 37 "QuarrelBridges$Convoy" "start" "I" ∈ BG := BG_in (by decide +kernel) rfl
theorem dX1_init_67 : decode cX1_init 67 = .ok (.putfield 37, 3) := by decide +kernel
theorem dX1_init_70 : decode cX1_init 70 = .ok (.aload_n 0, 1) := by decide +kernel
theorem dX1_init_71 : decode cX1_init 71 = .ok (.aconst_null, 1) := by decide +kernel
theorem wd_40 : Cond.fieldLink RX1 40 "QuarrelBridges$Convoy" "town" "LQuarrelBridges$Town;" ∈ BG := BG_in (by decide +kernel) rfl
theorem dX1_init_72 : decode cX1_init 72 = .ok (.putfield 40, 3) := by decide +kernel
theorem dX1_init_75 : decode cX1_init 75 = .ok (.return_, 1) := by decide +kernel
theorem dX5_init_0 : decode cX5_init 0 = .ok (.aload_n 0, 1) := by decide +kernel
theorem dX5_init_1 : decode cX5_init 1 = .ok (.invokespecial 3, 3) := by decide +kernel
theorem wd_41 : Cond.methodLink RX5 3 objectInit ∈ BG := BG_in (by decide +kernel) rfl
theorem dX5_init_4 : decode cX5_init 4 = .ok (.aload_n 0, 1) := by decide +kernel
theorem dX5_init_5 : decode cX5_init 5 = .ok (.iconst 0, 1) := by decide +kernel
theorem iX5_t : ∀ w ∈ wsX50, w ∈ lw_tbl ∧ goodWord w = true := by decide +kernel
theorem iX5 : ∀ w ∈ wsX50, w ∈ BG := fun w h => BG_in (iX5_t w h).1 (iX5_t w h).2
theorem wd_42 : Cond.fieldLink RX5 9 "QuarrelBridges$Reader" "fault" "I" ∈ BG := BG_in (by decide +kernel) rfl
theorem dX5_init_6 : decode cX5_init 6 = .ok (.putfield 9, 3) := by decide +kernel
theorem dX5_init_9 : decode cX5_init 9 = .ok (.aload_n 0, 1) := by decide +kernel
theorem dX5_init_10 : decode cX5_init 10 = .ok (.iconst (-1), 1) := by decide +kernel
theorem wd_43 : Cond.fieldLink RX5 15 "QuarrelBridges$Reader" "faultAt" "I" ∈ BG := BG_in (by decide +kernel) rfl
theorem dX5_init_11 : decode cX5_init 11 = .ok (.putfield 15, 3) := by decide +kernel
theorem dX5_init_14 : decode cX5_init 14 = .ok (.aload_n 0, 1) := by decide +kernel
theorem dX5_init_15 : decode cX5_init 15 = .ok (.iconst 0, 1) := by decide +kernel
theorem dX5_init_16 : decode cX5_init 16 = .ok (.newarray .int, 2) := by decide +kernel
theorem wd_44 : Cond.fieldLink RX5 18 "QuarrelBridges$Reader" "text" "[I" ∈ BG := BG_in (by decide +kernel) rfl
theorem dX5_init_18 : decode cX5_init 18 = .ok (.putfield 18, 3) := by decide +kernel
theorem dX5_init_21 : decode cX5_init 21 = .ok (.aload_n 0, 1) := by decide +kernel
theorem dX5_init_22 : decode cX5_init 22 = .ok (.iconst 0, 1) := by decide +kernel
theorem wd_45 : Cond.fieldLink RX5 22 "QuarrelBridges$Reader" "length" "I" ∈ BG := BG_in (by decide +kernel) rfl
theorem dX5_init_23 : decode cX5_init 23 = .ok (.putfield 22, 3) := by decide +kernel
theorem dX5_init_26 : decode cX5_init 26 = .ok (.aload_n 0, 1) := by decide +kernel
theorem dX5_init_27 : decode cX5_init 27 = .ok (.iconst 0, 1) := by decide +kernel
theorem wd_46 : Cond.fieldLink RX5 25 "QuarrelBridges$Reader" "place" "I" ∈ BG := BG_in (by decide +kernel) rfl
theorem dX5_init_28 : decode cX5_init 28 = .ok (.putfield 25, 3) := by decide +kernel
theorem dX5_init_31 : decode cX5_init 31 = .ok (.aload_n 0, 1) := by decide +kernel
theorem dX5_init_32 : decode cX5_init 32 = .ok (.iconst 0, 1) := by decide +kernel
theorem wd_47 : Cond.fieldLink RX5 28 "QuarrelBridges$Reader" "themesTold" "Z" ∈ BG := BG_in (by decide +kernel) rfl
theorem dX5_init_33 : decode cX5_init 33 = .ok (.putfield 28, 3) := by decide +kernel
theorem dX5_init_36 : decode cX5_init 36 = .ok (.aload_n 0, 1) := by decide +kernel
theorem dX5_init_37 : decode cX5_init 37 = .ok (.iconst 0, 1) := by decide +kernel
theorem wd_48 : Cond.fieldLink RX5 32 "QuarrelBridges$Reader" "snowTold" "Z" ∈ BG := BG_in (by decide +kernel) rfl
theorem dX5_init_38 : decode cX5_init 38 = .ok (.putfield 32, 3) := by decide +kernel
theorem dX5_init_41 : decode cX5_init 41 = .ok (.return_, 1) := by decide +kernel
theorem dX6_init_0 : decode cX6_init 0 = .ok (.aload_n 0, 1) := by decide +kernel
theorem dX6_init_1 : decode cX6_init 1 = .ok (.invokespecial 1, 3) := by decide +kernel
theorem wd_49 : Cond.methodLink RX6 1 objectInit ∈ BG := BG_in (by decide +kernel) rfl
theorem dX6_init_4 : decode cX6_init 4 = .ok (.aload_n 0, 1) := by decide +kernel
theorem dX6_init_5 : decode cX6_init 5 = .ok (.iconst 0, 1) := by decide +kernel
theorem dX6_init_6 : decode cX6_init 6 = .ok (.iload_n 1, 1) := by decide +kernel
theorem dX6_init_7 : decode cX6_init 7 = .ok (.invokestatic 7, 3) := by decide +kernel
theorem wd_50 : Cond.methodLink RX6 7 Lib.Math.max.name ∈ BG := BG_in (by decide +kernel) rfl
theorem wd_51 : Cond.static Lib.Math.max.name ∈ BG := BG_in (by decide +kernel) rfl
theorem wd_52 : Cond.initialized "java/lang/Math" ∈ BG := BG_in (by decide +kernel) rfl
theorem wd_53 : Cond.code Lib.Math.max.name Lib.Math.max.code 2 (some .int) ∈ BG := BG_in (by decide +kernel) rfl
theorem iX6_t : ∀ w ∈ wsX60, w ∈ lw_tbl ∧ goodWord w = true := by decide +kernel
theorem iX6 : ∀ w ∈ wsX60, w ∈ BG := fun w h => BG_in (iX6_t w h).1 (iX6_t w h).2
theorem wd_54 : Cond.fieldLink RX6 13 "QuarrelBridges$Shelf" "slots" "I" ∈ BG := BG_in (by decide +kernel) rfl
theorem dX6_init_10 : decode cX6_init 10 = .ok (.putfield 13, 3) := by decide +kernel
theorem dX6_init_13 : decode cX6_init 13 = .ok (.aload_n 0, 1) := by decide +kernel
theorem dX6_init_14 : decode cX6_init 14 = .ok (.aload_n 0, 1) := by decide +kernel
theorem dX6_init_15 : decode cX6_init 15 = .ok (.getfield 13, 3) := by decide +kernel
theorem dX6_init_18 : decode cX6_init 18 = .ok (.bipush 41, 2) := by decide +kernel
theorem dX6_init_20 : decode cX6_init 20 = .ok (.imul, 1) := by decide +kernel
theorem dX6_init_21 : decode cX6_init 21 = .ok (.newarray .int, 2) := by decide +kernel
theorem wd_55 : Cond.fieldLink RX6 21 "QuarrelBridges$Shelf" "cells" "[I" ∈ BG := BG_in (by decide +kernel) rfl
theorem dX6_init_23 : decode cX6_init 23 = .ok (.putfield 21, 3) := by decide +kernel
theorem dX6_init_26 : decode cX6_init 26 = .ok (.return_, 1) := by decide +kernel
theorem dX2_init_0 : decode cX2_init 0 = .ok (.aload_n 0, 1) := by decide +kernel
theorem dX2_init_1 : decode cX2_init 1 = .ok (.invokespecial 3, 3) := by decide +kernel
theorem wd_56 : Cond.methodLink RX2 3 objectInit ∈ BG := BG_in (by decide +kernel) rfl
theorem dX2_init_4 : decode cX2_init 4 = .ok (.aload_n 0, 1) := by decide +kernel
theorem wd_57 : Cond.classLink RX2 9 RX6 ∈ BG := BG_in (by decide +kernel) rfl
theorem wd_58 : Cond.instantiable RX6 2 ∈ BG := BG_in (by decide +kernel) rfl
theorem wd_59 : Cond.initialized RX6 ∈ BG := BG_in (by decide +kernel) rfl
theorem dX2_init_5 : decode cX2_init 5 = .ok (.new 9, 3) := by decide +kernel
theorem dX2_init_8 : decode cX2_init 8 = .ok (.dup, 1) := by decide +kernel
theorem dX2_init_9 : decode cX2_init 9 = .ok (.bipush 20, 2) := by decide +kernel
theorem dX2_init_11 : decode cX2_init 11 = .ok (.invokespecial 11, 3) := by decide +kernel
theorem wd_60 : Cond.methodLink RX2 11 yX6_init ∈ BG := BG_in (by decide +kernel) rfl
theorem wd_61 : Cond.code yX6_init cX6_init 2 none ∈ BG := BG_in (by decide +kernel) rfl
theorem wd_62 : Cond.instanceMethod yX6_init ∈ BG := BG_in (by decide +kernel) rfl
theorem okI_X6_init : okI yX6_init cX6_init 2 1 := ⟨⟨wd_61, wd_59, by decide +kernel⟩, wd_62, rfl⟩
theorem iX2_t : ∀ w ∈ wsX20, w ∈ lw_tbl ∧ goodWord w = true := by decide +kernel
theorem iX2 : ∀ w ∈ wsX20, w ∈ BG := fun w h => BG_in (iX2_t w h).1 (iX2_t w h).2
theorem wd_63 : Cond.fieldLink RX2 14 "QuarrelBridges$History" "shelf" "LQuarrelBridges$Shelf;" ∈ BG := BG_in (by decide +kernel) rfl
theorem dX2_init_14 : decode cX2_init 14 = .ok (.putfield 14, 3) := by decide +kernel
theorem dX2_init_17 : decode cX2_init 17 = .ok (.aload_n 0, 1) := by decide +kernel
theorem dX2_init_18 : decode cX2_init 18 = .ok (.iconst 0, 1) := by decide +kernel
theorem wd_64 : Cond.fieldLink RX2 20 "QuarrelBridges$History" "first" "I" ∈ BG := BG_in (by decide +kernel) rfl
theorem dX2_init_19 : decode cX2_init 19 = .ok (.putfield 20, 3) := by decide +kernel
theorem dX2_init_22 : decode cX2_init 22 = .ok (.aload_n 0, 1) := by decide +kernel
theorem dX2_init_23 : decode cX2_init 23 = .ok (.iconst 0, 1) := by decide +kernel
theorem wd_65 : Cond.fieldLink RX2 24 "QuarrelBridges$History" "count" "I" ∈ BG := BG_in (by decide +kernel) rfl
theorem dX2_init_24 : decode cX2_init 24 = .ok (.putfield 24, 3) := by decide +kernel
theorem dX2_init_27 : decode cX2_init 27 = .ok (.return_, 1) := by decide +kernel
def rm_k_town_init : Room := { frames := 1, cells := 5, slots := 56, locals := 16 }
set_option maxHeartbeats 4000000 in
set_option maxRecDepth 100000 in
theorem k_town_init {l : Launch} {D : va_G} {cI cZ : ClassId} {sz : Nat} (h : Nat) : KV l yX8_init cX8_init 1 rm_k_town_init D cI cZ [.ref h] sz [(h, .inr (8, [.int 0, .int 0, .int 0, .int 0, .int 0, .null, .null, .null, .null, .null]))] (fun (_ : Nat × Nat × Nat × Nat × Nat) => True) (fun (u : Nat × Nat × Nat × Nat × Nat) => [(h, .inr (8, [.int 0, .int 1, .int 0, .int 0, .int 0, .ref u.1, .ref u.2.1, .ref u.2.2.1, .ref u.2.2.2.1, .ref u.2.2.2.2])), (u.1, .inl (cI, 6, .inl z0)), (u.2.1, .inl (cI, 6, .inl z0)), (u.2.2.1, .inl (cI, 30, .inl z0)), (u.2.2.2.1, .inl (cI, 7, .inl z0)), (u.2.2.2.2, .inl (cI, 7, .inl z0))]) := by
  refine KV.go rfl (Nat.le_of_ble_eq_true rfl) ?_
  intro p e s m args below meth c ls A Q hx hb hml hts hown hin hP hK hD hS hA hN hl hret
  have hl : lv_has ls 1 [(0, .ref h)] := hl
  refine lv_aload_n hx hb dX8_init_0 rfl (lv_at hl 0 rfl) ?_
  refine W.objInit hx hb hown (hts _ wd_0) (hts _ wd_1) (hts _ wd_2) rfl (by rw [hml]; exact hl.1) rfl dX8_init_1 (Nat.le_of_ble_eq_true rfl) (Nat.le_of_ble_eq_true rfl) ?_
  refine W.eq (g2 := F0 m 4 ls []) rfl ?_
  refine lv_aload_n hx hb dX8_init_4 rfl (lv_at hl 0 rfl) ?_
  refine lv_iconst (v := 0) hx hb dX8_init_5 (by decide) ?_
  refine va_put (D := D) (ci := 8) (v := .int 0) (ty := .int) (C := RX8) (T := TX8) (N := 10) hx hb hts iX8 tyX8 tyX8_ok nmX8 hown hK hP hD hS 0 rfl rfl 0 (by decide) (hts _ wd_3) (fun _ h9 => h9) rfl (by decide +kernel) rfl rfl (Nat.le_of_ble_eq_true rfl) dX8_init_6 (fun H locs hP hD hS => ?_)
  have hP : va_P D classes [(h, .inr (8, [.int 0, .int 0, .int 0, .int 0, .int 0, .null, .null, .null, .null, .null]))] H := hP
  have hD : va_D A [(h, .inr (8, [.int 0, .int 0, .int 0, .int 0, .int 0, .null, .null, .null, .null, .null]))] := hD
  refine lv_aload_n hx hb dX8_init_9 rfl (lv_at hl 0 rfl) ?_
  refine lv_iconst (v := 1) hx hb dX8_init_10 (by decide) ?_
  refine va_put (D := D) (ci := 8) (v := .int 1) (ty := .int) (C := RX8) (T := TX8) (N := 10) hx hb hts iX8 tyX8 tyX8_ok nmX8 hown hK hP hD hS 0 rfl rfl 1 (by decide) (hts _ wd_4) (fun _ h9 => h9) rfl (by decide +kernel) rfl rfl (Nat.le_of_ble_eq_true rfl) dX8_init_11 (fun H locs hP hD hS => ?_)
  have hP : va_P D classes [(h, .inr (8, [.int 0, .int 1, .int 0, .int 0, .int 0, .null, .null, .null, .null, .null]))] H := hP
  have hD : va_D A [(h, .inr (8, [.int 0, .int 1, .int 0, .int 0, .int 0, .null, .null, .null, .null, .null]))] := hD
  refine lv_aload_n hx hb dX8_init_14 rfl (lv_at hl 0 rfl) ?_
  refine lv_iconst (v := 0) hx hb dX8_init_15 (by decide) ?_
  refine va_put (D := D) (ci := 8) (v := .int 0) (ty := .int) (C := RX8) (T := TX8) (N := 10) hx hb hts iX8 tyX8 tyX8_ok nmX8 hown hK hP hD hS 0 rfl rfl 2 (by decide) (hts _ wd_5) (fun _ h9 => h9) rfl (by decide +kernel) rfl rfl (Nat.le_of_ble_eq_true rfl) dX8_init_16 (fun H locs hP hD hS => ?_)
  have hP : va_P D classes [(h, .inr (8, [.int 0, .int 1, .int 0, .int 0, .int 0, .null, .null, .null, .null, .null]))] H := hP
  have hD : va_D A [(h, .inr (8, [.int 0, .int 1, .int 0, .int 0, .int 0, .null, .null, .null, .null, .null]))] := hD
  refine lv_aload_n hx hb dX8_init_19 rfl (lv_at hl 0 rfl) ?_
  refine lv_iconst (v := 0) hx hb dX8_init_20 (by decide) ?_
  refine va_put (D := D) (ci := 8) (v := .int 0) (ty := .int) (C := RX8) (T := TX8) (N := 10) hx hb hts iX8 tyX8 tyX8_ok nmX8 hown hK hP hD hS 0 rfl rfl 3 (by decide) (hts _ wd_6) (fun _ h9 => h9) rfl (by decide +kernel) rfl rfl (Nat.le_of_ble_eq_true rfl) dX8_init_21 (fun H locs hP hD hS => ?_)
  have hP : va_P D classes [(h, .inr (8, [.int 0, .int 1, .int 0, .int 0, .int 0, .null, .null, .null, .null, .null]))] H := hP
  have hD : va_D A [(h, .inr (8, [.int 0, .int 1, .int 0, .int 0, .int 0, .null, .null, .null, .null, .null]))] := hD
  refine lv_aload_n hx hb dX8_init_24 rfl (lv_at hl 0 rfl) ?_
  refine lv_iconst (v := 0) hx hb dX8_init_25 (by decide) ?_
  refine va_put (D := D) (ci := 8) (v := .int 0) (ty := .int) (C := RX8) (T := TX8) (N := 10) hx hb hts iX8 tyX8 tyX8_ok nmX8 hown hK hP hD hS 0 rfl rfl 4 (by decide) (hts _ wd_7) (fun _ h9 => h9) rfl (by decide +kernel) rfl rfl (Nat.le_of_ble_eq_true rfl) dX8_init_26 (fun H locs hP hD hS => ?_)
  have hP : va_P D classes [(h, .inr (8, [.int 0, .int 1, .int 0, .int 0, .int 0, .null, .null, .null, .null, .null]))] H := hP
  have hD : va_D A [(h, .inr (8, [.int 0, .int 1, .int 0, .int 0, .int 0, .null, .null, .null, .null, .null]))] := hD
  refine lv_aload_n hx hb dX8_init_29 rfl (lv_at hl 0 rfl) ?_
  refine lv_bipush (v := 6) hx hb dX8_init_30 (by decide) ?_
  refine va_newa (atype := .int) (a0 := (6, .inl z0)) (N' := 6) (ty := .int) hx hb (hts _ wd_8) rfl hK hP hD hS hA (fun cA => z0_int 6 cA) (by decide +kernel) (by decide +kernel) (by decide +kernel) (Nat.le_of_ble_eq_true rfl) (Nat.le_of_ble_eq_true rfl) dX8_init_32 (fun q_1 cA_q_1 H hKn hP hD hS => ?_)
  obtain rfl := (K_int hKn).symm
  have hP : va_P D classes [(h, .inr (8, [.int 0, .int 1, .int 0, .int 0, .int 0, .null, .null, .null, .null, .null])), (q_1, .inl (cI, 6, .inl z0))] H := hP
  have hD : va_D A [(h, .inr (8, [.int 0, .int 1, .int 0, .int 0, .int 0, .null, .null, .null, .null, .null])), (q_1, .inl (cI, 6, .inl z0))] := hD
  refine W.widen (k := 1) (n := 6) (Nat.le_of_ble_eq_true rfl) (Nat.le_of_ble_eq_true rfl) ?_
  refine va_putF (D := D) (ci := 8) (v := .ref q_1) (ty := (.array .int)) (C := RX8) (T := TX8) (N := 10) hx hb hts iX8 tyX8 tyX8_ok nmX8 hown hK hP hD hS 0 rfl rfl 5 (by decide) (hts _ wd_9) (fun _ h9 => h9) rfl hin rfl (by decide +kernel) rfl rfl (Nat.le_of_ble_eq_true rfl) dX8_init_34 (fun H locs hP hD hS => ?_)
  have hP : va_P D classes [(h, .inr (8, [.int 0, .int 1, .int 0, .int 0, .int 0, .ref q_1, .null, .null, .null, .null])), (q_1, .inl (cI, 6, .inl z0))] H := hP
  have hD : va_D A [(h, .inr (8, [.int 0, .int 1, .int 0, .int 0, .int 0, .ref q_1, .null, .null, .null, .null])), (q_1, .inl (cI, 6, .inl z0))] := hD
  refine lv_aload_n hx hb dX8_init_37 rfl (lv_at hl 0 rfl) ?_
  refine lv_bipush (v := 6) hx hb dX8_init_38 (by decide) ?_
  refine va_newa (atype := .int) (a0 := (6, .inl z0)) (N' := 6) (ty := .int) hx hb (hts _ wd_8) rfl hK hP hD hS hA (fun cA => z0_int 6 cA) (by decide +kernel) (by decide +kernel) (by decide +kernel) (Nat.le_of_ble_eq_true rfl) (Nat.le_of_ble_eq_true rfl) dX8_init_40 (fun q_2 cA_q_2 H hKn hP hD hS => ?_)
  obtain rfl := (K_int hKn).symm
  have hP : va_P D classes [(h, .inr (8, [.int 0, .int 1, .int 0, .int 0, .int 0, .ref q_1, .null, .null, .null, .null])), (q_1, .inl (cI, 6, .inl z0)), (q_2, .inl (cI, 6, .inl z0))] H := hP
  have hD : va_D A [(h, .inr (8, [.int 0, .int 1, .int 0, .int 0, .int 0, .ref q_1, .null, .null, .null, .null])), (q_1, .inl (cI, 6, .inl z0)), (q_2, .inl (cI, 6, .inl z0))] := hD
  refine W.widen (k := 2) (n := 12) (Nat.le_of_ble_eq_true rfl) (Nat.le_of_ble_eq_true rfl) ?_
  refine va_putF (D := D) (ci := 8) (v := .ref q_2) (ty := (.array .int)) (C := RX8) (T := TX8) (N := 10) hx hb hts iX8 tyX8 tyX8_ok nmX8 hown hK hP hD hS 0 rfl rfl 6 (by decide) (hts _ wd_10) (fun _ h9 => h9) rfl hin rfl (by decide +kernel) rfl rfl (Nat.le_of_ble_eq_true rfl) dX8_init_42 (fun H locs hP hD hS => ?_)
  have hP : va_P D classes [(h, .inr (8, [.int 0, .int 1, .int 0, .int 0, .int 0, .ref q_1, .ref q_2, .null, .null, .null])), (q_1, .inl (cI, 6, .inl z0)), (q_2, .inl (cI, 6, .inl z0))] H := hP
  have hD : va_D A [(h, .inr (8, [.int 0, .int 1, .int 0, .int 0, .int 0, .ref q_1, .ref q_2, .null, .null, .null])), (q_1, .inl (cI, 6, .inl z0)), (q_2, .inl (cI, 6, .inl z0))] := hD
  refine lv_aload_n hx hb dX8_init_45 rfl (lv_at hl 0 rfl) ?_
  refine lv_bipush (v := 30) hx hb dX8_init_46 (by decide) ?_
  refine va_newa (atype := .int) (a0 := (30, .inl z0)) (N' := 30) (ty := .int) hx hb (hts _ wd_8) rfl hK hP hD hS hA (fun cA => z0_int 30 cA) (by decide +kernel) (by decide +kernel) (by decide +kernel) (Nat.le_of_ble_eq_true rfl) (Nat.le_of_ble_eq_true rfl) dX8_init_48 (fun q_3 cA_q_3 H hKn hP hD hS => ?_)
  obtain rfl := (K_int hKn).symm
  have hP : va_P D classes [(h, .inr (8, [.int 0, .int 1, .int 0, .int 0, .int 0, .ref q_1, .ref q_2, .null, .null, .null])), (q_1, .inl (cI, 6, .inl z0)), (q_2, .inl (cI, 6, .inl z0)), (q_3, .inl (cI, 30, .inl z0))] H := hP
  have hD : va_D A [(h, .inr (8, [.int 0, .int 1, .int 0, .int 0, .int 0, .ref q_1, .ref q_2, .null, .null, .null])), (q_1, .inl (cI, 6, .inl z0)), (q_2, .inl (cI, 6, .inl z0)), (q_3, .inl (cI, 30, .inl z0))] := hD
  refine W.widen (k := 3) (n := 42) (Nat.le_of_ble_eq_true rfl) (Nat.le_of_ble_eq_true rfl) ?_
  refine va_putF (D := D) (ci := 8) (v := .ref q_3) (ty := (.array .int)) (C := RX8) (T := TX8) (N := 10) hx hb hts iX8 tyX8 tyX8_ok nmX8 hown hK hP hD hS 0 rfl rfl 7 (by decide) (hts _ wd_11) (fun _ h9 => h9) rfl hin rfl (by decide +kernel) rfl rfl (Nat.le_of_ble_eq_true rfl) dX8_init_50 (fun H locs hP hD hS => ?_)
  have hP : va_P D classes [(h, .inr (8, [.int 0, .int 1, .int 0, .int 0, .int 0, .ref q_1, .ref q_2, .ref q_3, .null, .null])), (q_1, .inl (cI, 6, .inl z0)), (q_2, .inl (cI, 6, .inl z0)), (q_3, .inl (cI, 30, .inl z0))] H := hP
  have hD : va_D A [(h, .inr (8, [.int 0, .int 1, .int 0, .int 0, .int 0, .ref q_1, .ref q_2, .ref q_3, .null, .null])), (q_1, .inl (cI, 6, .inl z0)), (q_2, .inl (cI, 6, .inl z0)), (q_3, .inl (cI, 30, .inl z0))] := hD
  refine lv_aload_n hx hb dX8_init_53 rfl (lv_at hl 0 rfl) ?_
  refine lv_bipush (v := 7) hx hb dX8_init_54 (by decide) ?_
  refine va_newa (atype := .int) (a0 := (7, .inl z0)) (N' := 7) (ty := .int) hx hb (hts _ wd_8) rfl hK hP hD hS hA (fun cA => z0_int 7 cA) (by decide +kernel) (by decide +kernel) (by decide +kernel) (Nat.le_of_ble_eq_true rfl) (Nat.le_of_ble_eq_true rfl) dX8_init_56 (fun q_4 cA_q_4 H hKn hP hD hS => ?_)
  obtain rfl := (K_int hKn).symm
  have hP : va_P D classes [(h, .inr (8, [.int 0, .int 1, .int 0, .int 0, .int 0, .ref q_1, .ref q_2, .ref q_3, .null, .null])), (q_1, .inl (cI, 6, .inl z0)), (q_2, .inl (cI, 6, .inl z0)), (q_3, .inl (cI, 30, .inl z0)), (q_4, .inl (cI, 7, .inl z0))] H := hP
  have hD : va_D A [(h, .inr (8, [.int 0, .int 1, .int 0, .int 0, .int 0, .ref q_1, .ref q_2, .ref q_3, .null, .null])), (q_1, .inl (cI, 6, .inl z0)), (q_2, .inl (cI, 6, .inl z0)), (q_3, .inl (cI, 30, .inl z0)), (q_4, .inl (cI, 7, .inl z0))] := hD
  refine W.widen (k := 4) (n := 49) (Nat.le_of_ble_eq_true rfl) (Nat.le_of_ble_eq_true rfl) ?_
  refine va_putF (D := D) (ci := 8) (v := .ref q_4) (ty := (.array .int)) (C := RX8) (T := TX8) (N := 10) hx hb hts iX8 tyX8 tyX8_ok nmX8 hown hK hP hD hS 0 rfl rfl 8 (by decide) (hts _ wd_12) (fun _ h9 => h9) rfl hin rfl (by decide +kernel) rfl rfl (Nat.le_of_ble_eq_true rfl) dX8_init_58 (fun H locs hP hD hS => ?_)
  have hP : va_P D classes [(h, .inr (8, [.int 0, .int 1, .int 0, .int 0, .int 0, .ref q_1, .ref q_2, .ref q_3, .ref q_4, .null])), (q_1, .inl (cI, 6, .inl z0)), (q_2, .inl (cI, 6, .inl z0)), (q_3, .inl (cI, 30, .inl z0)), (q_4, .inl (cI, 7, .inl z0))] H := hP
  have hD : va_D A [(h, .inr (8, [.int 0, .int 1, .int 0, .int 0, .int 0, .ref q_1, .ref q_2, .ref q_3, .ref q_4, .null])), (q_1, .inl (cI, 6, .inl z0)), (q_2, .inl (cI, 6, .inl z0)), (q_3, .inl (cI, 30, .inl z0)), (q_4, .inl (cI, 7, .inl z0))] := hD
  refine lv_aload_n hx hb dX8_init_61 rfl (lv_at hl 0 rfl) ?_
  refine lv_bipush (v := 7) hx hb dX8_init_62 (by decide) ?_
  refine va_newa (atype := .int) (a0 := (7, .inl z0)) (N' := 7) (ty := .int) hx hb (hts _ wd_8) rfl hK hP hD hS hA (fun cA => z0_int 7 cA) (by decide +kernel) (by decide +kernel) (by decide +kernel) (Nat.le_of_ble_eq_true rfl) (Nat.le_of_ble_eq_true rfl) dX8_init_64 (fun q_5 cA_q_5 H hKn hP hD hS => ?_)
  obtain rfl := (K_int hKn).symm
  have hP : va_P D classes [(h, .inr (8, [.int 0, .int 1, .int 0, .int 0, .int 0, .ref q_1, .ref q_2, .ref q_3, .ref q_4, .null])), (q_1, .inl (cI, 6, .inl z0)), (q_2, .inl (cI, 6, .inl z0)), (q_3, .inl (cI, 30, .inl z0)), (q_4, .inl (cI, 7, .inl z0)), (q_5, .inl (cI, 7, .inl z0))] H := hP
  have hD : va_D A [(h, .inr (8, [.int 0, .int 1, .int 0, .int 0, .int 0, .ref q_1, .ref q_2, .ref q_3, .ref q_4, .null])), (q_1, .inl (cI, 6, .inl z0)), (q_2, .inl (cI, 6, .inl z0)), (q_3, .inl (cI, 30, .inl z0)), (q_4, .inl (cI, 7, .inl z0)), (q_5, .inl (cI, 7, .inl z0))] := hD
  refine W.widen (k := 5) (n := 56) (Nat.le_of_ble_eq_true rfl) (Nat.le_of_ble_eq_true rfl) ?_
  refine va_putF (D := D) (ci := 8) (v := .ref q_5) (ty := (.array .int)) (C := RX8) (T := TX8) (N := 10) hx hb hts iX8 tyX8 tyX8_ok nmX8 hown hK hP hD hS 0 rfl rfl 9 (by decide) (hts _ wd_13) (fun _ h9 => h9) rfl hin rfl (by decide +kernel) rfl rfl (Nat.le_of_ble_eq_true rfl) dX8_init_66 (fun H locs hP hD hS => ?_)
  have hP : va_P D classes [(h, .inr (8, [.int 0, .int 1, .int 0, .int 0, .int 0, .ref q_1, .ref q_2, .ref q_3, .ref q_4, .ref q_5])), (q_1, .inl (cI, 6, .inl z0)), (q_2, .inl (cI, 6, .inl z0)), (q_3, .inl (cI, 30, .inl z0)), (q_4, .inl (cI, 7, .inl z0)), (q_5, .inl (cI, 7, .inl z0))] H := hP
  have hD : va_D A [(h, .inr (8, [.int 0, .int 1, .int 0, .int 0, .int 0, .ref q_1, .ref q_2, .ref q_3, .ref q_4, .ref q_5])), (q_1, .inl (cI, 6, .inl z0)), (q_2, .inl (cI, 6, .inl z0)), (q_3, .inl (cI, 30, .inl z0)), (q_4, .inl (cI, 7, .inl z0)), (q_5, .inl (cI, 7, .inl z0))] := hD
  refine W.widen (k := rm_k_town_init.cells) (n := rm_k_town_init.slots) (Nat.le_of_ble_eq_true rfl) (Nat.le_of_ble_eq_true rfl) ?_
  exact hret ⟨q_1, q_2, q_3, q_4, q_5⟩ _ _ _ _ dX8_init_69 trivial hP hD hS
def rm_k_state_init : Room := { frames := 1, cells := 1, slots := 41, locals := 16 }
set_option maxHeartbeats 4000000 in
set_option maxRecDepth 100000 in
theorem k_state_init {l : Launch} {D : va_G} {cI cZ : ClassId} {sz : Nat} (h : Nat) : KV l yX7_init cX7_init 1 rm_k_state_init D cI cZ [.ref h] sz [(h, .inr (7, [.null]))] (fun (_ : Nat) => True) (fun (u : Nat) => [(h, .inr (7, [.ref u])), (u, .inl (cI, 41, .inl z0))]) := by
  refine KV.go rfl (Nat.le_of_ble_eq_true rfl) ?_
  intro p e s m args below meth c ls A Q hx hb hml hts hown hin hP hK hD hS hA hN hl hret
  have hl : lv_has ls 1 [(0, .ref h)] := hl
  refine lv_aload_n hx hb dX7_init_0 rfl (lv_at hl 0 rfl) ?_
  refine W.objInit hx hb hown (hts _ wd_14) (hts _ wd_1) (hts _ wd_2) rfl (by rw [hml]; exact hl.1) rfl dX7_init_1 (Nat.le_of_ble_eq_true rfl) (Nat.le_of_ble_eq_true rfl) ?_
  refine W.eq (g2 := F0 m 4 ls []) rfl ?_
  refine lv_aload_n hx hb dX7_init_4 rfl (lv_at hl 0 rfl) ?_
  refine lv_bipush (v := 41) hx hb dX7_init_5 (by decide) ?_
  refine va_newa (atype := .int) (a0 := (41, .inl z0)) (N' := 41) (ty := .int) hx hb (hts _ wd_8) rfl hK hP hD hS hA (fun cA => z0_int 41 cA) (by decide +kernel) (by decide +kernel) (by decide +kernel) (Nat.le_of_ble_eq_true rfl) (Nat.le_of_ble_eq_true rfl) dX7_init_7 (fun q_1 cA_q_1 H hKn hP hD hS => ?_)
  obtain rfl := (K_int hKn).symm
  have hP : va_P D classes [(h, .inr (7, [.null])), (q_1, .inl (cI, 41, .inl z0))] H := hP
  have hD : va_D A [(h, .inr (7, [.null])), (q_1, .inl (cI, 41, .inl z0))] := hD
  refine W.widen (k := 1) (n := 41) (Nat.le_of_ble_eq_true rfl) (Nat.le_of_ble_eq_true rfl) ?_
  refine va_putF (D := D) (ci := 7) (v := .ref q_1) (ty := (.array .int)) (C := RX7) (T := TX7) (N := 1) hx hb hts iX7 tyX7 tyX7_ok nmX7 hown hK hP hD hS 0 rfl rfl 0 (by decide) (hts _ wd_15) (fun _ h9 => h9) rfl hin rfl (by decide +kernel) rfl rfl (Nat.le_of_ble_eq_true rfl) dX7_init_9 (fun H locs hP hD hS => ?_)
  have hP : va_P D classes [(h, .inr (7, [.ref q_1])), (q_1, .inl (cI, 41, .inl z0))] H := hP
  have hD : va_D A [(h, .inr (7, [.ref q_1])), (q_1, .inl (cI, 41, .inl z0))] := hD
  refine W.widen (k := rm_k_state_init.cells) (n := rm_k_state_init.slots) (Nat.le_of_ble_eq_true rfl) (Nat.le_of_ble_eq_true rfl) ?_
  exact hret q_1 _ _ _ _ dX7_init_12 trivial hP hD hS
def rm_k_book_init : Room := { frames := 1, cells := 2, slots := 30, locals := 16 }
set_option maxHeartbeats 4000000 in
set_option maxRecDepth 100000 in
theorem k_book_init {l : Launch} {D : va_G} {cI cZ : ClassId} {sz : Nat} (h : Nat) : KV l yX0_init cX0_init 1 rm_k_book_init D cI cZ [.ref h] sz [(h, .inr (0, [.int 0, .null, .null]))] (fun (_ : Nat × Nat) => True) (fun (u : Nat × Nat) => [(h, .inr (0, [.int 0, .ref u.1, .ref u.2])), (u.1, .inl (cI, 15, .inl z0)), (u.2, .inl (cI, 15, .inl z0))]) := by
  refine KV.go rfl (Nat.le_of_ble_eq_true rfl) ?_
  intro p e s m args below meth c ls A Q hx hb hml hts hown hin hP hK hD hS hA hN hl hret
  have hl : lv_has ls 1 [(0, .ref h)] := hl
  refine lv_aload_n hx hb dX0_init_0 rfl (lv_at hl 0 rfl) ?_
  refine W.objInit hx hb hown (hts _ wd_16) (hts _ wd_1) (hts _ wd_2) rfl (by rw [hml]; exact hl.1) rfl dX0_init_1 (Nat.le_of_ble_eq_true rfl) (Nat.le_of_ble_eq_true rfl) ?_
  refine W.eq (g2 := F0 m 4 ls []) rfl ?_
  refine lv_aload_n hx hb dX0_init_4 rfl (lv_at hl 0 rfl) ?_
  refine lv_iconst (v := 0) hx hb dX0_init_5 (by decide) ?_
  refine va_put (D := D) (ci := 0) (v := .int 0) (ty := .int) (C := RX0) (T := TX0) (N := 3) hx hb hts iX0 tyX0 tyX0_ok nmX0 hown hK hP hD hS 0 rfl rfl 0 (by decide) (hts _ wd_17) (fun _ h9 => h9) rfl (by decide +kernel) rfl rfl (Nat.le_of_ble_eq_true rfl) dX0_init_6 (fun H locs hP hD hS => ?_)
  have hP : va_P D classes [(h, .inr (0, [.int 0, .null, .null]))] H := hP
  have hD : va_D A [(h, .inr (0, [.int 0, .null, .null]))] := hD
  refine lv_aload_n hx hb dX0_init_9 rfl (lv_at hl 0 rfl) ?_
  refine lv_bipush (v := 15) hx hb dX0_init_10 (by decide) ?_
  refine va_newa (atype := .int) (a0 := (15, .inl z0)) (N' := 15) (ty := .int) hx hb (hts _ wd_8) rfl hK hP hD hS hA (fun cA => z0_int 15 cA) (by decide +kernel) (by decide +kernel) (by decide +kernel) (Nat.le_of_ble_eq_true rfl) (Nat.le_of_ble_eq_true rfl) dX0_init_12 (fun q_1 cA_q_1 H hKn hP hD hS => ?_)
  obtain rfl := (K_int hKn).symm
  have hP : va_P D classes [(h, .inr (0, [.int 0, .null, .null])), (q_1, .inl (cI, 15, .inl z0))] H := hP
  have hD : va_D A [(h, .inr (0, [.int 0, .null, .null])), (q_1, .inl (cI, 15, .inl z0))] := hD
  refine W.widen (k := 1) (n := 15) (Nat.le_of_ble_eq_true rfl) (Nat.le_of_ble_eq_true rfl) ?_
  refine va_putF (D := D) (ci := 0) (v := .ref q_1) (ty := (.array .int)) (C := RX0) (T := TX0) (N := 3) hx hb hts iX0 tyX0 tyX0_ok nmX0 hown hK hP hD hS 0 rfl rfl 1 (by decide) (hts _ wd_18) (fun _ h9 => h9) rfl hin rfl (by decide +kernel) rfl rfl (Nat.le_of_ble_eq_true rfl) dX0_init_14 (fun H locs hP hD hS => ?_)
  have hP : va_P D classes [(h, .inr (0, [.int 0, .ref q_1, .null])), (q_1, .inl (cI, 15, .inl z0))] H := hP
  have hD : va_D A [(h, .inr (0, [.int 0, .ref q_1, .null])), (q_1, .inl (cI, 15, .inl z0))] := hD
  refine lv_aload_n hx hb dX0_init_17 rfl (lv_at hl 0 rfl) ?_
  refine lv_bipush (v := 15) hx hb dX0_init_18 (by decide) ?_
  refine va_newa (atype := .int) (a0 := (15, .inl z0)) (N' := 15) (ty := .int) hx hb (hts _ wd_8) rfl hK hP hD hS hA (fun cA => z0_int 15 cA) (by decide +kernel) (by decide +kernel) (by decide +kernel) (Nat.le_of_ble_eq_true rfl) (Nat.le_of_ble_eq_true rfl) dX0_init_20 (fun q_2 cA_q_2 H hKn hP hD hS => ?_)
  obtain rfl := (K_int hKn).symm
  have hP : va_P D classes [(h, .inr (0, [.int 0, .ref q_1, .null])), (q_1, .inl (cI, 15, .inl z0)), (q_2, .inl (cI, 15, .inl z0))] H := hP
  have hD : va_D A [(h, .inr (0, [.int 0, .ref q_1, .null])), (q_1, .inl (cI, 15, .inl z0)), (q_2, .inl (cI, 15, .inl z0))] := hD
  refine W.widen (k := 2) (n := 30) (Nat.le_of_ble_eq_true rfl) (Nat.le_of_ble_eq_true rfl) ?_
  refine va_putF (D := D) (ci := 0) (v := .ref q_2) (ty := (.array .int)) (C := RX0) (T := TX0) (N := 3) hx hb hts iX0 tyX0 tyX0_ok nmX0 hown hK hP hD hS 0 rfl rfl 2 (by decide) (hts _ wd_19) (fun _ h9 => h9) rfl hin rfl (by decide +kernel) rfl rfl (Nat.le_of_ble_eq_true rfl) dX0_init_22 (fun H locs hP hD hS => ?_)
  have hP : va_P D classes [(h, .inr (0, [.int 0, .ref q_1, .ref q_2])), (q_1, .inl (cI, 15, .inl z0)), (q_2, .inl (cI, 15, .inl z0))] H := hP
  have hD : va_D A [(h, .inr (0, [.int 0, .ref q_1, .ref q_2])), (q_1, .inl (cI, 15, .inl z0)), (q_2, .inl (cI, 15, .inl z0))] := hD
  refine W.widen (k := rm_k_book_init.cells) (n := rm_k_book_init.slots) (Nat.le_of_ble_eq_true rfl) (Nat.le_of_ble_eq_true rfl) ?_
  exact hret ⟨q_1, q_2⟩ _ _ _ _ dX0_init_25 trivial hP hD hS
def rm_k_quarrel_init : Room := { frames := 1, cells := 0, slots := 0, locals := 16 }
set_option maxHeartbeats 4000000 in
set_option maxRecDepth 100000 in
theorem k_quarrel_init {l : Launch} {D : va_G} {cI cZ : ClassId} {sz : Nat} (h : Nat) : KV l yX4_init cX4_init 1 rm_k_quarrel_init D cI cZ [.ref h] sz [(h, .inr (4, [.int 0, .int 0, .int 0, .int 0, .int 0]))] (fun (_ : Unit) => True) (fun (_ : Unit) => [(h, .inr (4, [.int 0, .int 0, .int 0, .int 0, .int 0]))]) := by
  refine KV.go rfl (Nat.le_of_ble_eq_true rfl) ?_
  intro p e s m args below meth c ls A Q hx hb hml hts hown hin hP hK hD hS hA hN hl hret
  have hl : lv_has ls 1 [(0, .ref h)] := hl
  refine lv_aload_n hx hb dX4_init_0 rfl (lv_at hl 0 rfl) ?_
  refine W.objInit hx hb hown (hts _ wd_20) (hts _ wd_1) (hts _ wd_2) rfl (by rw [hml]; exact hl.1) rfl dX4_init_1 (Nat.le_of_ble_eq_true rfl) (Nat.le_of_ble_eq_true rfl) ?_
  refine W.eq (g2 := F0 m 4 ls []) rfl ?_
  refine lv_aload_n hx hb dX4_init_4 rfl (lv_at hl 0 rfl) ?_
  refine lv_iconst (v := 0) hx hb dX4_init_5 (by decide) ?_
  refine va_put (D := D) (ci := 4) (v := .int 0) (ty := .int) (C := RX4) (T := TX4) (N := 5) hx hb hts iX4 tyX4 tyX4_ok nmX4 hown hK hP hD hS 0 rfl rfl 0 (by decide) (hts _ wd_21) (fun _ h9 => h9) rfl (by decide +kernel) rfl rfl (Nat.le_of_ble_eq_true rfl) dX4_init_6 (fun H locs hP hD hS => ?_)
  have hP : va_P D classes [(h, .inr (4, [.int 0, .int 0, .int 0, .int 0, .int 0]))] H := hP
  have hD : va_D A [(h, .inr (4, [.int 0, .int 0, .int 0, .int 0, .int 0]))] := hD
  refine lv_aload_n hx hb dX4_init_9 rfl (lv_at hl 0 rfl) ?_
  refine lv_iconst (v := 0) hx hb dX4_init_10 (by decide) ?_
  refine va_put (D := D) (ci := 4) (v := .int 0) (ty := .int) (C := RX4) (T := TX4) (N := 5) hx hb hts iX4 tyX4 tyX4_ok nmX4 hown hK hP hD hS 0 rfl rfl 1 (by decide) (hts _ wd_22) (fun _ h9 => h9) rfl (by decide +kernel) rfl rfl (Nat.le_of_ble_eq_true rfl) dX4_init_11 (fun H locs hP hD hS => ?_)
  have hP : va_P D classes [(h, .inr (4, [.int 0, .int 0, .int 0, .int 0, .int 0]))] H := hP
  have hD : va_D A [(h, .inr (4, [.int 0, .int 0, .int 0, .int 0, .int 0]))] := hD
  refine lv_aload_n hx hb dX4_init_14 rfl (lv_at hl 0 rfl) ?_
  refine lv_iconst (v := 0) hx hb dX4_init_15 (by decide) ?_
  refine va_put (D := D) (ci := 4) (v := .int 0) (ty := .int) (C := RX4) (T := TX4) (N := 5) hx hb hts iX4 tyX4 tyX4_ok nmX4 hown hK hP hD hS 0 rfl rfl 2 (by decide) (hts _ wd_23) (fun _ h9 => h9) rfl (by decide +kernel) rfl rfl (Nat.le_of_ble_eq_true rfl) dX4_init_16 (fun H locs hP hD hS => ?_)
  have hP : va_P D classes [(h, .inr (4, [.int 0, .int 0, .int 0, .int 0, .int 0]))] H := hP
  have hD : va_D A [(h, .inr (4, [.int 0, .int 0, .int 0, .int 0, .int 0]))] := hD
  refine lv_aload_n hx hb dX4_init_19 rfl (lv_at hl 0 rfl) ?_
  refine lv_iconst (v := 0) hx hb dX4_init_20 (by decide) ?_
  refine va_put (D := D) (ci := 4) (v := .int 0) (ty := .boolean) (C := RX4) (T := TX4) (N := 5) hx hb hts iX4 tyX4 tyX4_ok nmX4 hown hK hP hD hS 0 rfl rfl 3 (by decide) (hts _ wd_24) (fun _ h9 => h9) rfl (by decide +kernel) rfl rfl (Nat.le_of_ble_eq_true rfl) dX4_init_21 (fun H locs hP hD hS => ?_)
  have hP : va_P D classes [(h, .inr (4, [.int 0, .int 0, .int 0, .int 0, .int 0]))] H := hP
  have hD : va_D A [(h, .inr (4, [.int 0, .int 0, .int 0, .int 0, .int 0]))] := hD
  refine lv_aload_n hx hb dX4_init_24 rfl (lv_at hl 0 rfl) ?_
  refine lv_iconst (v := 0) hx hb dX4_init_25 (by decide) ?_
  refine va_put (D := D) (ci := 4) (v := .int 0) (ty := .boolean) (C := RX4) (T := TX4) (N := 5) hx hb hts iX4 tyX4 tyX4_ok nmX4 hown hK hP hD hS 0 rfl rfl 4 (by decide) (hts _ wd_25) (fun _ h9 => h9) rfl (by decide +kernel) rfl rfl (Nat.le_of_ble_eq_true rfl) dX4_init_26 (fun H locs hP hD hS => ?_)
  have hP : va_P D classes [(h, .inr (4, [.int 0, .int 0, .int 0, .int 0, .int 0]))] H := hP
  have hD : va_D A [(h, .inr (4, [.int 0, .int 0, .int 0, .int 0, .int 0]))] := hD
  exact hret () _ _ _ _ dX4_init_29 trivial hP hD hS
def rm_k_pairing_init : Room := { frames := 1, cells := 3, slots := 164, locals := 16 }
set_option maxHeartbeats 4000000 in
set_option maxRecDepth 100000 in
theorem k_pairing_init {l : Launch} {D : va_G} {cI cZ : ClassId} {sz : Nat} (h : Nat) : KV l yX3_init cX3_init 1 rm_k_pairing_init D cI cZ [.ref h] sz [(h, .inr (3, [.null, .null, .null]))] (fun (_ : Nat × Nat × Nat) => True) (fun (u : Nat × Nat × Nat) => [(h, .inr (3, [.ref u.1, .ref u.2.1, .ref u.2.2])), (u.1, .inl (cI, 36, .inl z0)), (u.2.1, .inl (cI, 64, .inl z0)), (u.2.2, .inl (cI, 64, .inl z0))]) := by
  refine KV.go rfl (Nat.le_of_ble_eq_true rfl) ?_
  intro p e s m args below meth c ls A Q hx hb hml hts hown hin hP hK hD hS hA hN hl hret
  have hl : lv_has ls 1 [(0, .ref h)] := hl
  refine lv_aload_n hx hb dX3_init_0 rfl (lv_at hl 0 rfl) ?_
  refine W.objInit hx hb hown (hts _ wd_26) (hts _ wd_1) (hts _ wd_2) rfl (by rw [hml]; exact hl.1) rfl dX3_init_1 (Nat.le_of_ble_eq_true rfl) (Nat.le_of_ble_eq_true rfl) ?_
  refine W.eq (g2 := F0 m 4 ls []) rfl ?_
  refine lv_aload_n hx hb dX3_init_4 rfl (lv_at hl 0 rfl) ?_
  refine lv_bipush (v := 36) hx hb dX3_init_5 (by decide) ?_
  refine va_newa (atype := .int) (a0 := (36, .inl z0)) (N' := 36) (ty := .int) hx hb (hts _ wd_8) rfl hK hP hD hS hA (fun cA => z0_int 36 cA) (by decide +kernel) (by decide +kernel) (by decide +kernel) (Nat.le_of_ble_eq_true rfl) (Nat.le_of_ble_eq_true rfl) dX3_init_7 (fun q_1 cA_q_1 H hKn hP hD hS => ?_)
  obtain rfl := (K_int hKn).symm
  have hP : va_P D classes [(h, .inr (3, [.null, .null, .null])), (q_1, .inl (cI, 36, .inl z0))] H := hP
  have hD : va_D A [(h, .inr (3, [.null, .null, .null])), (q_1, .inl (cI, 36, .inl z0))] := hD
  refine W.widen (k := 1) (n := 36) (Nat.le_of_ble_eq_true rfl) (Nat.le_of_ble_eq_true rfl) ?_
  refine va_putF (D := D) (ci := 3) (v := .ref q_1) (ty := (.array .int)) (C := RX3) (T := TX3) (N := 3) hx hb hts iX3 tyX3 tyX3_ok nmX3 hown hK hP hD hS 0 rfl rfl 0 (by decide) (hts _ wd_27) (fun _ h9 => h9) rfl hin rfl (by decide +kernel) rfl rfl (Nat.le_of_ble_eq_true rfl) dX3_init_9 (fun H locs hP hD hS => ?_)
  have hP : va_P D classes [(h, .inr (3, [.ref q_1, .null, .null])), (q_1, .inl (cI, 36, .inl z0))] H := hP
  have hD : va_D A [(h, .inr (3, [.ref q_1, .null, .null])), (q_1, .inl (cI, 36, .inl z0))] := hD
  refine lv_aload_n hx hb dX3_init_12 rfl (lv_at hl 0 rfl) ?_
  refine lv_bipush (v := 64) hx hb dX3_init_13 (by decide) ?_
  refine va_newa (atype := .int) (a0 := (64, .inl z0)) (N' := 64) (ty := .int) hx hb (hts _ wd_8) rfl hK hP hD hS hA (fun cA => z0_int 64 cA) (by decide +kernel) (by decide +kernel) (by decide +kernel) (Nat.le_of_ble_eq_true rfl) (Nat.le_of_ble_eq_true rfl) dX3_init_15 (fun q_2 cA_q_2 H hKn hP hD hS => ?_)
  obtain rfl := (K_int hKn).symm
  have hP : va_P D classes [(h, .inr (3, [.ref q_1, .null, .null])), (q_1, .inl (cI, 36, .inl z0)), (q_2, .inl (cI, 64, .inl z0))] H := hP
  have hD : va_D A [(h, .inr (3, [.ref q_1, .null, .null])), (q_1, .inl (cI, 36, .inl z0)), (q_2, .inl (cI, 64, .inl z0))] := hD
  refine W.widen (k := 2) (n := 100) (Nat.le_of_ble_eq_true rfl) (Nat.le_of_ble_eq_true rfl) ?_
  refine va_putF (D := D) (ci := 3) (v := .ref q_2) (ty := (.array .int)) (C := RX3) (T := TX3) (N := 3) hx hb hts iX3 tyX3 tyX3_ok nmX3 hown hK hP hD hS 0 rfl rfl 1 (by decide) (hts _ wd_28) (fun _ h9 => h9) rfl hin rfl (by decide +kernel) rfl rfl (Nat.le_of_ble_eq_true rfl) dX3_init_17 (fun H locs hP hD hS => ?_)
  have hP : va_P D classes [(h, .inr (3, [.ref q_1, .ref q_2, .null])), (q_1, .inl (cI, 36, .inl z0)), (q_2, .inl (cI, 64, .inl z0))] H := hP
  have hD : va_D A [(h, .inr (3, [.ref q_1, .ref q_2, .null])), (q_1, .inl (cI, 36, .inl z0)), (q_2, .inl (cI, 64, .inl z0))] := hD
  refine lv_aload_n hx hb dX3_init_20 rfl (lv_at hl 0 rfl) ?_
  refine lv_bipush (v := 64) hx hb dX3_init_21 (by decide) ?_
  refine va_newa (atype := .int) (a0 := (64, .inl z0)) (N' := 64) (ty := .int) hx hb (hts _ wd_8) rfl hK hP hD hS hA (fun cA => z0_int 64 cA) (by decide +kernel) (by decide +kernel) (by decide +kernel) (Nat.le_of_ble_eq_true rfl) (Nat.le_of_ble_eq_true rfl) dX3_init_23 (fun q_3 cA_q_3 H hKn hP hD hS => ?_)
  obtain rfl := (K_int hKn).symm
  have hP : va_P D classes [(h, .inr (3, [.ref q_1, .ref q_2, .null])), (q_1, .inl (cI, 36, .inl z0)), (q_2, .inl (cI, 64, .inl z0)), (q_3, .inl (cI, 64, .inl z0))] H := hP
  have hD : va_D A [(h, .inr (3, [.ref q_1, .ref q_2, .null])), (q_1, .inl (cI, 36, .inl z0)), (q_2, .inl (cI, 64, .inl z0)), (q_3, .inl (cI, 64, .inl z0))] := hD
  refine W.widen (k := 3) (n := 164) (Nat.le_of_ble_eq_true rfl) (Nat.le_of_ble_eq_true rfl) ?_
  refine va_putF (D := D) (ci := 3) (v := .ref q_3) (ty := (.array .int)) (C := RX3) (T := TX3) (N := 3) hx hb hts iX3 tyX3 tyX3_ok nmX3 hown hK hP hD hS 0 rfl rfl 2 (by decide) (hts _ wd_29) (fun _ h9 => h9) rfl hin rfl (by decide +kernel) rfl rfl (Nat.le_of_ble_eq_true rfl) dX3_init_25 (fun H locs hP hD hS => ?_)
  have hP : va_P D classes [(h, .inr (3, [.ref q_1, .ref q_2, .ref q_3])), (q_1, .inl (cI, 36, .inl z0)), (q_2, .inl (cI, 64, .inl z0)), (q_3, .inl (cI, 64, .inl z0))] H := hP
  have hD : va_D A [(h, .inr (3, [.ref q_1, .ref q_2, .ref q_3])), (q_1, .inl (cI, 36, .inl z0)), (q_2, .inl (cI, 64, .inl z0)), (q_3, .inl (cI, 64, .inl z0))] := hD
  refine W.widen (k := rm_k_pairing_init.cells) (n := rm_k_pairing_init.slots) (Nat.le_of_ble_eq_true rfl) (Nat.le_of_ble_eq_true rfl) ?_
  exact hret ⟨q_1, q_2, q_3⟩ _ _ _ _ dX3_init_28 trivial hP hD hS
def rm_k_convoy_init : Room := { frames := 1, cells := 6, slots := 445, locals := 16 }
set_option maxHeartbeats 4000000 in
set_option maxRecDepth 100000 in
theorem k_convoy_init {l : Launch} {D : va_G} {cI cZ : ClassId} {sz : Nat} (h : Nat) : KV l yX1_init cX1_init 1 rm_k_convoy_init D cI cZ [.ref h] sz [(h, .inr (1, [.int 0, .null, .null, .null, .null, .null, .null, .int 0, .int 0, .null]))] (fun (_ : Nat × Nat × Nat × Nat × Nat × Nat) => True) (fun (u : Nat × Nat × Nat × Nat × Nat × Nat) => [(h, .inr (1, [.int 0, .ref u.1, .ref u.2.1, .ref u.2.2.1, .ref u.2.2.2.1, .ref u.2.2.2.2.1, .ref u.2.2.2.2.2, .int 0, .int 0, .null])), (u.1, .inl (cI, 7, .inl z0)), (u.2.1, .inl (cI, 6, .inl z0)), (u.2.2.1, .inl (cI, 48, .inl z0)), (u.2.2.2.1, .inl (cI, 128, .inl z0)), (u.2.2.2.2.1, .inl (cI, 128, .inl z0)), (u.2.2.2.2.2, .inl (cI, 128, .inl z0))]) := by
  refine KV.go rfl (Nat.le_of_ble_eq_true rfl) ?_
  intro p e s m args below meth c ls A Q hx hb hml hts hown hin hP hK hD hS hA hN hl hret
  have hl : lv_has ls 1 [(0, .ref h)] := hl
  refine lv_aload_n hx hb dX1_init_0 rfl (lv_at hl 0 rfl) ?_
  refine W.objInit hx hb hown (hts _ wd_30) (hts _ wd_1) (hts _ wd_2) rfl (by rw [hml]; exact hl.1) rfl dX1_init_1 (Nat.le_of_ble_eq_true rfl) (Nat.le_of_ble_eq_true rfl) ?_
  refine W.eq (g2 := F0 m 4 ls []) rfl ?_
  refine lv_aload_n hx hb dX1_init_4 rfl (lv_at hl 0 rfl) ?_
  refine lv_iconst (v := 0) hx hb dX1_init_5 (by decide) ?_
  refine va_put (D := D) (ci := 1) (v := .int 0) (ty := .int) (C := RX1) (T := TX1) (N := 10) hx hb hts iX1 tyX1 tyX1_ok nmX1 hown hK hP hD hS 0 rfl rfl 0 (by decide) (hts _ wd_31) (fun _ h9 => h9) rfl (by decide +kernel) rfl rfl (Nat.le_of_ble_eq_true rfl) dX1_init_6 (fun H locs hP hD hS => ?_)
  have hP : va_P D classes [(h, .inr (1, [.int 0, .null, .null, .null, .null, .null, .null, .int 0, .int 0, .null]))] H := hP
  have hD : va_D A [(h, .inr (1, [.int 0, .null, .null, .null, .null, .null, .null, .int 0, .int 0, .null]))] := hD
  refine lv_aload_n hx hb dX1_init_9 rfl (lv_at hl 0 rfl) ?_
  refine lv_bipush (v := 7) hx hb dX1_init_10 (by decide) ?_
  refine va_newa (atype := .int) (a0 := (7, .inl z0)) (N' := 7) (ty := .int) hx hb (hts _ wd_8) rfl hK hP hD hS hA (fun cA => z0_int 7 cA) (by decide +kernel) (by decide +kernel) (by decide +kernel) (Nat.le_of_ble_eq_true rfl) (Nat.le_of_ble_eq_true rfl) dX1_init_12 (fun q_1 cA_q_1 H hKn hP hD hS => ?_)
  obtain rfl := (K_int hKn).symm
  have hP : va_P D classes [(h, .inr (1, [.int 0, .null, .null, .null, .null, .null, .null, .int 0, .int 0, .null])), (q_1, .inl (cI, 7, .inl z0))] H := hP
  have hD : va_D A [(h, .inr (1, [.int 0, .null, .null, .null, .null, .null, .null, .int 0, .int 0, .null])), (q_1, .inl (cI, 7, .inl z0))] := hD
  refine W.widen (k := 1) (n := 7) (Nat.le_of_ble_eq_true rfl) (Nat.le_of_ble_eq_true rfl) ?_
  refine va_putF (D := D) (ci := 1) (v := .ref q_1) (ty := (.array .int)) (C := RX1) (T := TX1) (N := 10) hx hb hts iX1 tyX1 tyX1_ok nmX1 hown hK hP hD hS 0 rfl rfl 1 (by decide) (hts _ wd_32) (fun _ h9 => h9) rfl hin rfl (by decide +kernel) rfl rfl (Nat.le_of_ble_eq_true rfl) dX1_init_14 (fun H locs hP hD hS => ?_)
  have hP : va_P D classes [(h, .inr (1, [.int 0, .ref q_1, .null, .null, .null, .null, .null, .int 0, .int 0, .null])), (q_1, .inl (cI, 7, .inl z0))] H := hP
  have hD : va_D A [(h, .inr (1, [.int 0, .ref q_1, .null, .null, .null, .null, .null, .int 0, .int 0, .null])), (q_1, .inl (cI, 7, .inl z0))] := hD
  refine lv_aload_n hx hb dX1_init_17 rfl (lv_at hl 0 rfl) ?_
  refine lv_bipush (v := 6) hx hb dX1_init_18 (by decide) ?_
  refine va_newa (atype := .int) (a0 := (6, .inl z0)) (N' := 6) (ty := .int) hx hb (hts _ wd_8) rfl hK hP hD hS hA (fun cA => z0_int 6 cA) (by decide +kernel) (by decide +kernel) (by decide +kernel) (Nat.le_of_ble_eq_true rfl) (Nat.le_of_ble_eq_true rfl) dX1_init_20 (fun q_2 cA_q_2 H hKn hP hD hS => ?_)
  obtain rfl := (K_int hKn).symm
  have hP : va_P D classes [(h, .inr (1, [.int 0, .ref q_1, .null, .null, .null, .null, .null, .int 0, .int 0, .null])), (q_1, .inl (cI, 7, .inl z0)), (q_2, .inl (cI, 6, .inl z0))] H := hP
  have hD : va_D A [(h, .inr (1, [.int 0, .ref q_1, .null, .null, .null, .null, .null, .int 0, .int 0, .null])), (q_1, .inl (cI, 7, .inl z0)), (q_2, .inl (cI, 6, .inl z0))] := hD
  refine W.widen (k := 2) (n := 13) (Nat.le_of_ble_eq_true rfl) (Nat.le_of_ble_eq_true rfl) ?_
  refine va_putF (D := D) (ci := 1) (v := .ref q_2) (ty := (.array .int)) (C := RX1) (T := TX1) (N := 10) hx hb hts iX1 tyX1 tyX1_ok nmX1 hown hK hP hD hS 0 rfl rfl 2 (by decide) (hts _ wd_33) (fun _ h9 => h9) rfl hin rfl (by decide +kernel) rfl rfl (Nat.le_of_ble_eq_true rfl) dX1_init_22 (fun H locs hP hD hS => ?_)
  have hP : va_P D classes [(h, .inr (1, [.int 0, .ref q_1, .ref q_2, .null, .null, .null, .null, .int 0, .int 0, .null])), (q_1, .inl (cI, 7, .inl z0)), (q_2, .inl (cI, 6, .inl z0))] H := hP
  have hD : va_D A [(h, .inr (1, [.int 0, .ref q_1, .ref q_2, .null, .null, .null, .null, .int 0, .int 0, .null])), (q_1, .inl (cI, 7, .inl z0)), (q_2, .inl (cI, 6, .inl z0))] := hD
  refine lv_aload_n hx hb dX1_init_25 rfl (lv_at hl 0 rfl) ?_
  refine lv_bipush (v := 48) hx hb dX1_init_26 (by decide) ?_
  refine va_newa (atype := .int) (a0 := (48, .inl z0)) (N' := 48) (ty := .int) hx hb (hts _ wd_8) rfl hK hP hD hS hA (fun cA => z0_int 48 cA) (by decide +kernel) (by decide +kernel) (by decide +kernel) (Nat.le_of_ble_eq_true rfl) (Nat.le_of_ble_eq_true rfl) dX1_init_28 (fun q_3 cA_q_3 H hKn hP hD hS => ?_)
  obtain rfl := (K_int hKn).symm
  have hP : va_P D classes [(h, .inr (1, [.int 0, .ref q_1, .ref q_2, .null, .null, .null, .null, .int 0, .int 0, .null])), (q_1, .inl (cI, 7, .inl z0)), (q_2, .inl (cI, 6, .inl z0)), (q_3, .inl (cI, 48, .inl z0))] H := hP
  have hD : va_D A [(h, .inr (1, [.int 0, .ref q_1, .ref q_2, .null, .null, .null, .null, .int 0, .int 0, .null])), (q_1, .inl (cI, 7, .inl z0)), (q_2, .inl (cI, 6, .inl z0)), (q_3, .inl (cI, 48, .inl z0))] := hD
  refine W.widen (k := 3) (n := 61) (Nat.le_of_ble_eq_true rfl) (Nat.le_of_ble_eq_true rfl) ?_
  refine va_putF (D := D) (ci := 1) (v := .ref q_3) (ty := (.array .int)) (C := RX1) (T := TX1) (N := 10) hx hb hts iX1 tyX1 tyX1_ok nmX1 hown hK hP hD hS 0 rfl rfl 3 (by decide) (hts _ wd_34) (fun _ h9 => h9) rfl hin rfl (by decide +kernel) rfl rfl (Nat.le_of_ble_eq_true rfl) dX1_init_30 (fun H locs hP hD hS => ?_)
  have hP : va_P D classes [(h, .inr (1, [.int 0, .ref q_1, .ref q_2, .ref q_3, .null, .null, .null, .int 0, .int 0, .null])), (q_1, .inl (cI, 7, .inl z0)), (q_2, .inl (cI, 6, .inl z0)), (q_3, .inl (cI, 48, .inl z0))] H := hP
  have hD : va_D A [(h, .inr (1, [.int 0, .ref q_1, .ref q_2, .ref q_3, .null, .null, .null, .int 0, .int 0, .null])), (q_1, .inl (cI, 7, .inl z0)), (q_2, .inl (cI, 6, .inl z0)), (q_3, .inl (cI, 48, .inl z0))] := hD
  refine lv_aload_n hx hb dX1_init_33 rfl (lv_at hl 0 rfl) ?_
  refine lv_sipush (v := 128) hx hb dX1_init_34 (by decide) ?_
  refine va_newa (atype := .int) (a0 := (128, .inl z0)) (N' := 128) (ty := .int) hx hb (hts _ wd_8) rfl hK hP hD hS hA (fun cA => z0_int 128 cA) (by decide +kernel) (by decide +kernel) (by decide +kernel) (Nat.le_of_ble_eq_true rfl) (Nat.le_of_ble_eq_true rfl) dX1_init_37 (fun q_4 cA_q_4 H hKn hP hD hS => ?_)
  obtain rfl := (K_int hKn).symm
  have hP : va_P D classes [(h, .inr (1, [.int 0, .ref q_1, .ref q_2, .ref q_3, .null, .null, .null, .int 0, .int 0, .null])), (q_1, .inl (cI, 7, .inl z0)), (q_2, .inl (cI, 6, .inl z0)), (q_3, .inl (cI, 48, .inl z0)), (q_4, .inl (cI, 128, .inl z0))] H := hP
  have hD : va_D A [(h, .inr (1, [.int 0, .ref q_1, .ref q_2, .ref q_3, .null, .null, .null, .int 0, .int 0, .null])), (q_1, .inl (cI, 7, .inl z0)), (q_2, .inl (cI, 6, .inl z0)), (q_3, .inl (cI, 48, .inl z0)), (q_4, .inl (cI, 128, .inl z0))] := hD
  refine W.widen (k := 4) (n := 189) (Nat.le_of_ble_eq_true rfl) (Nat.le_of_ble_eq_true rfl) ?_
  refine va_putF (D := D) (ci := 1) (v := .ref q_4) (ty := (.array .int)) (C := RX1) (T := TX1) (N := 10) hx hb hts iX1 tyX1 tyX1_ok nmX1 hown hK hP hD hS 0 rfl rfl 4 (by decide) (hts _ wd_35) (fun _ h9 => h9) rfl hin rfl (by decide +kernel) rfl rfl (Nat.le_of_ble_eq_true rfl) dX1_init_39 (fun H locs hP hD hS => ?_)
  have hP : va_P D classes [(h, .inr (1, [.int 0, .ref q_1, .ref q_2, .ref q_3, .ref q_4, .null, .null, .int 0, .int 0, .null])), (q_1, .inl (cI, 7, .inl z0)), (q_2, .inl (cI, 6, .inl z0)), (q_3, .inl (cI, 48, .inl z0)), (q_4, .inl (cI, 128, .inl z0))] H := hP
  have hD : va_D A [(h, .inr (1, [.int 0, .ref q_1, .ref q_2, .ref q_3, .ref q_4, .null, .null, .int 0, .int 0, .null])), (q_1, .inl (cI, 7, .inl z0)), (q_2, .inl (cI, 6, .inl z0)), (q_3, .inl (cI, 48, .inl z0)), (q_4, .inl (cI, 128, .inl z0))] := hD
  refine lv_aload_n hx hb dX1_init_42 rfl (lv_at hl 0 rfl) ?_
  refine lv_sipush (v := 128) hx hb dX1_init_43 (by decide) ?_
  refine va_newa (atype := .int) (a0 := (128, .inl z0)) (N' := 128) (ty := .int) hx hb (hts _ wd_8) rfl hK hP hD hS hA (fun cA => z0_int 128 cA) (by decide +kernel) (by decide +kernel) (by decide +kernel) (Nat.le_of_ble_eq_true rfl) (Nat.le_of_ble_eq_true rfl) dX1_init_46 (fun q_5 cA_q_5 H hKn hP hD hS => ?_)
  obtain rfl := (K_int hKn).symm
  have hP : va_P D classes [(h, .inr (1, [.int 0, .ref q_1, .ref q_2, .ref q_3, .ref q_4, .null, .null, .int 0, .int 0, .null])), (q_1, .inl (cI, 7, .inl z0)), (q_2, .inl (cI, 6, .inl z0)), (q_3, .inl (cI, 48, .inl z0)), (q_4, .inl (cI, 128, .inl z0)), (q_5, .inl (cI, 128, .inl z0))] H := hP
  have hD : va_D A [(h, .inr (1, [.int 0, .ref q_1, .ref q_2, .ref q_3, .ref q_4, .null, .null, .int 0, .int 0, .null])), (q_1, .inl (cI, 7, .inl z0)), (q_2, .inl (cI, 6, .inl z0)), (q_3, .inl (cI, 48, .inl z0)), (q_4, .inl (cI, 128, .inl z0)), (q_5, .inl (cI, 128, .inl z0))] := hD
  refine W.widen (k := 5) (n := 317) (Nat.le_of_ble_eq_true rfl) (Nat.le_of_ble_eq_true rfl) ?_
  refine va_putF (D := D) (ci := 1) (v := .ref q_5) (ty := (.array .int)) (C := RX1) (T := TX1) (N := 10) hx hb hts iX1 tyX1 tyX1_ok nmX1 hown hK hP hD hS 0 rfl rfl 5 (by decide) (hts _ wd_36) (fun _ h9 => h9) rfl hin rfl (by decide +kernel) rfl rfl (Nat.le_of_ble_eq_true rfl) dX1_init_48 (fun H locs hP hD hS => ?_)
  have hP : va_P D classes [(h, .inr (1, [.int 0, .ref q_1, .ref q_2, .ref q_3, .ref q_4, .ref q_5, .null, .int 0, .int 0, .null])), (q_1, .inl (cI, 7, .inl z0)), (q_2, .inl (cI, 6, .inl z0)), (q_3, .inl (cI, 48, .inl z0)), (q_4, .inl (cI, 128, .inl z0)), (q_5, .inl (cI, 128, .inl z0))] H := hP
  have hD : va_D A [(h, .inr (1, [.int 0, .ref q_1, .ref q_2, .ref q_3, .ref q_4, .ref q_5, .null, .int 0, .int 0, .null])), (q_1, .inl (cI, 7, .inl z0)), (q_2, .inl (cI, 6, .inl z0)), (q_3, .inl (cI, 48, .inl z0)), (q_4, .inl (cI, 128, .inl z0)), (q_5, .inl (cI, 128, .inl z0))] := hD
  refine lv_aload_n hx hb dX1_init_51 rfl (lv_at hl 0 rfl) ?_
  refine lv_sipush (v := 128) hx hb dX1_init_52 (by decide) ?_
  refine va_newa (atype := .int) (a0 := (128, .inl z0)) (N' := 128) (ty := .int) hx hb (hts _ wd_8) rfl hK hP hD hS hA (fun cA => z0_int 128 cA) (by decide +kernel) (by decide +kernel) (by decide +kernel) (Nat.le_of_ble_eq_true rfl) (Nat.le_of_ble_eq_true rfl) dX1_init_55 (fun q_6 cA_q_6 H hKn hP hD hS => ?_)
  obtain rfl := (K_int hKn).symm
  have hP : va_P D classes [(h, .inr (1, [.int 0, .ref q_1, .ref q_2, .ref q_3, .ref q_4, .ref q_5, .null, .int 0, .int 0, .null])), (q_1, .inl (cI, 7, .inl z0)), (q_2, .inl (cI, 6, .inl z0)), (q_3, .inl (cI, 48, .inl z0)), (q_4, .inl (cI, 128, .inl z0)), (q_5, .inl (cI, 128, .inl z0)), (q_6, .inl (cI, 128, .inl z0))] H := hP
  have hD : va_D A [(h, .inr (1, [.int 0, .ref q_1, .ref q_2, .ref q_3, .ref q_4, .ref q_5, .null, .int 0, .int 0, .null])), (q_1, .inl (cI, 7, .inl z0)), (q_2, .inl (cI, 6, .inl z0)), (q_3, .inl (cI, 48, .inl z0)), (q_4, .inl (cI, 128, .inl z0)), (q_5, .inl (cI, 128, .inl z0)), (q_6, .inl (cI, 128, .inl z0))] := hD
  refine W.widen (k := 6) (n := 445) (Nat.le_of_ble_eq_true rfl) (Nat.le_of_ble_eq_true rfl) ?_
  refine va_putF (D := D) (ci := 1) (v := .ref q_6) (ty := (.array .int)) (C := RX1) (T := TX1) (N := 10) hx hb hts iX1 tyX1 tyX1_ok nmX1 hown hK hP hD hS 0 rfl rfl 6 (by decide) (hts _ wd_37) (fun _ h9 => h9) rfl hin rfl (by decide +kernel) rfl rfl (Nat.le_of_ble_eq_true rfl) dX1_init_57 (fun H locs hP hD hS => ?_)
  have hP : va_P D classes [(h, .inr (1, [.int 0, .ref q_1, .ref q_2, .ref q_3, .ref q_4, .ref q_5, .ref q_6, .int 0, .int 0, .null])), (q_1, .inl (cI, 7, .inl z0)), (q_2, .inl (cI, 6, .inl z0)), (q_3, .inl (cI, 48, .inl z0)), (q_4, .inl (cI, 128, .inl z0)), (q_5, .inl (cI, 128, .inl z0)), (q_6, .inl (cI, 128, .inl z0))] H := hP
  have hD : va_D A [(h, .inr (1, [.int 0, .ref q_1, .ref q_2, .ref q_3, .ref q_4, .ref q_5, .ref q_6, .int 0, .int 0, .null])), (q_1, .inl (cI, 7, .inl z0)), (q_2, .inl (cI, 6, .inl z0)), (q_3, .inl (cI, 48, .inl z0)), (q_4, .inl (cI, 128, .inl z0)), (q_5, .inl (cI, 128, .inl z0)), (q_6, .inl (cI, 128, .inl z0))] := hD
  refine lv_aload_n hx hb dX1_init_60 rfl (lv_at hl 0 rfl) ?_
  refine lv_iconst (v := 0) hx hb dX1_init_61 (by decide) ?_
  refine va_put (D := D) (ci := 1) (v := .int 0) (ty := .int) (C := RX1) (T := TX1) (N := 10) hx hb hts iX1 tyX1 tyX1_ok nmX1 hown hK hP hD hS 0 rfl rfl 7 (by decide) (hts _ wd_38) (fun _ h9 => h9) rfl (by decide +kernel) rfl rfl (Nat.le_of_ble_eq_true rfl) dX1_init_62 (fun H locs hP hD hS => ?_)
  have hP : va_P D classes [(h, .inr (1, [.int 0, .ref q_1, .ref q_2, .ref q_3, .ref q_4, .ref q_5, .ref q_6, .int 0, .int 0, .null])), (q_1, .inl (cI, 7, .inl z0)), (q_2, .inl (cI, 6, .inl z0)), (q_3, .inl (cI, 48, .inl z0)), (q_4, .inl (cI, 128, .inl z0)), (q_5, .inl (cI, 128, .inl z0)), (q_6, .inl (cI, 128, .inl z0))] H := hP
  have hD : va_D A [(h, .inr (1, [.int 0, .ref q_1, .ref q_2, .ref q_3, .ref q_4, .ref q_5, .ref q_6, .int 0, .int 0, .null])), (q_1, .inl (cI, 7, .inl z0)), (q_2, .inl (cI, 6, .inl z0)), (q_3, .inl (cI, 48, .inl z0)), (q_4, .inl (cI, 128, .inl z0)), (q_5, .inl (cI, 128, .inl z0)), (q_6, .inl (cI, 128, .inl z0))] := hD
  refine lv_aload_n hx hb dX1_init_65 rfl (lv_at hl 0 rfl) ?_
  refine lv_iconst (v := 0) hx hb dX1_init_66 (by decide) ?_
  refine va_put (D := D) (ci := 1) (v := .int 0) (ty := .int) (C := RX1) (T := TX1) (N := 10) hx hb hts iX1 tyX1 tyX1_ok nmX1 hown hK hP hD hS 0 rfl rfl 8 (by decide) (hts _ wd_39) (fun _ h9 => h9) rfl (by decide +kernel) rfl rfl (Nat.le_of_ble_eq_true rfl) dX1_init_67 (fun H locs hP hD hS => ?_)
  have hP : va_P D classes [(h, .inr (1, [.int 0, .ref q_1, .ref q_2, .ref q_3, .ref q_4, .ref q_5, .ref q_6, .int 0, .int 0, .null])), (q_1, .inl (cI, 7, .inl z0)), (q_2, .inl (cI, 6, .inl z0)), (q_3, .inl (cI, 48, .inl z0)), (q_4, .inl (cI, 128, .inl z0)), (q_5, .inl (cI, 128, .inl z0)), (q_6, .inl (cI, 128, .inl z0))] H := hP
  have hD : va_D A [(h, .inr (1, [.int 0, .ref q_1, .ref q_2, .ref q_3, .ref q_4, .ref q_5, .ref q_6, .int 0, .int 0, .null])), (q_1, .inl (cI, 7, .inl z0)), (q_2, .inl (cI, 6, .inl z0)), (q_3, .inl (cI, 48, .inl z0)), (q_4, .inl (cI, 128, .inl z0)), (q_5, .inl (cI, 128, .inl z0)), (q_6, .inl (cI, 128, .inl z0))] := hD
  refine lv_aload_n hx hb dX1_init_70 rfl (lv_at hl 0 rfl) ?_
  refine lv_null hx hb dX1_init_71 ?_
  refine va_put (D := D) (ci := 1) (v := .null) (ty := (.object "QuarrelBridges$Town")) (C := RX1) (T := TX1) (N := 10) hx hb hts iX1 tyX1 tyX1_ok nmX1 hown hK hP hD hS 0 rfl rfl 9 (by decide) (hts _ wd_40) (fun _ h9 => h9) rfl (by decide +kernel) rfl rfl (Nat.le_of_ble_eq_true rfl) dX1_init_72 (fun H locs hP hD hS => ?_)
  have hP : va_P D classes [(h, .inr (1, [.int 0, .ref q_1, .ref q_2, .ref q_3, .ref q_4, .ref q_5, .ref q_6, .int 0, .int 0, .null])), (q_1, .inl (cI, 7, .inl z0)), (q_2, .inl (cI, 6, .inl z0)), (q_3, .inl (cI, 48, .inl z0)), (q_4, .inl (cI, 128, .inl z0)), (q_5, .inl (cI, 128, .inl z0)), (q_6, .inl (cI, 128, .inl z0))] H := hP
  have hD : va_D A [(h, .inr (1, [.int 0, .ref q_1, .ref q_2, .ref q_3, .ref q_4, .ref q_5, .ref q_6, .int 0, .int 0, .null])), (q_1, .inl (cI, 7, .inl z0)), (q_2, .inl (cI, 6, .inl z0)), (q_3, .inl (cI, 48, .inl z0)), (q_4, .inl (cI, 128, .inl z0)), (q_5, .inl (cI, 128, .inl z0)), (q_6, .inl (cI, 128, .inl z0))] := hD
  refine W.widen (k := rm_k_convoy_init.cells) (n := rm_k_convoy_init.slots) (Nat.le_of_ble_eq_true rfl) (Nat.le_of_ble_eq_true rfl) ?_
  exact hret ⟨q_1, q_2, q_3, q_4, q_5, q_6⟩ _ _ _ _ dX1_init_75 trivial hP hD hS
def rm_k_reader_init : Room := { frames := 1, cells := 1, slots := 0, locals := 16 }
set_option maxHeartbeats 4000000 in
set_option maxRecDepth 100000 in
theorem k_reader_init {l : Launch} {D : va_G} {cI cZ : ClassId} {sz : Nat} (h : Nat) : KV l yX5_init cX5_init 1 rm_k_reader_init D cI cZ [.ref h] sz [(h, .inr (5, [.int 0, .int 0, .null, .int 0, .int 0, .int 0, .int 0]))] (fun (_ : Nat) => True) (fun (u : Nat) => [(h, .inr (5, [.int 0, .int (-1), .ref u, .int 0, .int 0, .int 0, .int 0])), (u, .inl (cI, 0, .inl z0))]) := by
  refine KV.go rfl (Nat.le_of_ble_eq_true rfl) ?_
  intro p e s m args below meth c ls A Q hx hb hml hts hown hin hP hK hD hS hA hN hl hret
  have hl : lv_has ls 1 [(0, .ref h)] := hl
  refine lv_aload_n hx hb dX5_init_0 rfl (lv_at hl 0 rfl) ?_
  refine W.objInit hx hb hown (hts _ wd_41) (hts _ wd_1) (hts _ wd_2) rfl (by rw [hml]; exact hl.1) rfl dX5_init_1 (Nat.le_of_ble_eq_true rfl) (Nat.le_of_ble_eq_true rfl) ?_
  refine W.eq (g2 := F0 m 4 ls []) rfl ?_
  refine lv_aload_n hx hb dX5_init_4 rfl (lv_at hl 0 rfl) ?_
  refine lv_iconst (v := 0) hx hb dX5_init_5 (by decide) ?_
  refine va_put (D := D) (ci := 5) (v := .int 0) (ty := .int) (C := RX5) (T := TX5) (N := 7) hx hb hts iX5 tyX5 tyX5_ok nmX5 hown hK hP hD hS 0 rfl rfl 0 (by decide) (hts _ wd_42) (fun _ h9 => h9) rfl (by decide +kernel) rfl rfl (Nat.le_of_ble_eq_true rfl) dX5_init_6 (fun H locs hP hD hS => ?_)
  have hP : va_P D classes [(h, .inr (5, [.int 0, .int 0, .null, .int 0, .int 0, .int 0, .int 0]))] H := hP
  have hD : va_D A [(h, .inr (5, [.int 0, .int 0, .null, .int 0, .int 0, .int 0, .int 0]))] := hD
  refine lv_aload_n hx hb dX5_init_9 rfl (lv_at hl 0 rfl) ?_
  refine lv_iconst (v := (-1)) hx hb dX5_init_10 (by decide) ?_
  refine va_put (D := D) (ci := 5) (v := .int (-1)) (ty := .int) (C := RX5) (T := TX5) (N := 7) hx hb hts iX5 tyX5 tyX5_ok nmX5 hown hK hP hD hS 0 rfl rfl 1 (by decide) (hts _ wd_43) (fun _ h9 => h9) rfl (by decide +kernel) rfl rfl (Nat.le_of_ble_eq_true rfl) dX5_init_11 (fun H locs hP hD hS => ?_)
  have hP : va_P D classes [(h, .inr (5, [.int 0, .int (-1), .null, .int 0, .int 0, .int 0, .int 0]))] H := hP
  have hD : va_D A [(h, .inr (5, [.int 0, .int (-1), .null, .int 0, .int 0, .int 0, .int 0]))] := hD
  refine lv_aload_n hx hb dX5_init_14 rfl (lv_at hl 0 rfl) ?_
  refine lv_iconst (v := 0) hx hb dX5_init_15 (by decide) ?_
  refine va_newa (atype := .int) (a0 := (0, .inl z0)) (N' := 0) (ty := .int) hx hb (hts _ wd_8) rfl hK hP hD hS hA (fun cA => z0_int 0 cA) (by decide +kernel) (by decide +kernel) (by decide +kernel) (Nat.le_of_ble_eq_true rfl) (Nat.le_of_ble_eq_true rfl) dX5_init_16 (fun q_1 cA_q_1 H hKn hP hD hS => ?_)
  obtain rfl := (K_int hKn).symm
  have hP : va_P D classes [(h, .inr (5, [.int 0, .int (-1), .null, .int 0, .int 0, .int 0, .int 0])), (q_1, .inl (cI, 0, .inl z0))] H := hP
  have hD : va_D A [(h, .inr (5, [.int 0, .int (-1), .null, .int 0, .int 0, .int 0, .int 0])), (q_1, .inl (cI, 0, .inl z0))] := hD
  refine W.widen (k := 1) (n := 0) (Nat.le_of_ble_eq_true rfl) (Nat.le_of_ble_eq_true rfl) ?_
  refine va_put (D := D) (ci := 5) (v := .ref q_1) (ty := (.array .int)) (C := RX5) (T := TX5) (N := 7) hx hb hts iX5 tyX5 tyX5_ok nmX5 hown hK hP hD hS 0 rfl rfl 2 (by decide) (hts _ wd_44) (fun _ h9 => h9) rfl (by decide +kernel) rfl rfl (Nat.le_of_ble_eq_true rfl) dX5_init_18 (fun H locs hP hD hS => ?_)
  have hP : va_P D classes [(h, .inr (5, [.int 0, .int (-1), .ref q_1, .int 0, .int 0, .int 0, .int 0])), (q_1, .inl (cI, 0, .inl z0))] H := hP
  have hD : va_D A [(h, .inr (5, [.int 0, .int (-1), .ref q_1, .int 0, .int 0, .int 0, .int 0])), (q_1, .inl (cI, 0, .inl z0))] := hD
  refine lv_aload_n hx hb dX5_init_21 rfl (lv_at hl 0 rfl) ?_
  refine lv_iconst (v := 0) hx hb dX5_init_22 (by decide) ?_
  refine va_put (D := D) (ci := 5) (v := .int 0) (ty := .int) (C := RX5) (T := TX5) (N := 7) hx hb hts iX5 tyX5 tyX5_ok nmX5 hown hK hP hD hS 0 rfl rfl 3 (by decide) (hts _ wd_45) (fun _ h9 => h9) rfl (by decide +kernel) rfl rfl (Nat.le_of_ble_eq_true rfl) dX5_init_23 (fun H locs hP hD hS => ?_)
  have hP : va_P D classes [(h, .inr (5, [.int 0, .int (-1), .ref q_1, .int 0, .int 0, .int 0, .int 0])), (q_1, .inl (cI, 0, .inl z0))] H := hP
  have hD : va_D A [(h, .inr (5, [.int 0, .int (-1), .ref q_1, .int 0, .int 0, .int 0, .int 0])), (q_1, .inl (cI, 0, .inl z0))] := hD
  refine lv_aload_n hx hb dX5_init_26 rfl (lv_at hl 0 rfl) ?_
  refine lv_iconst (v := 0) hx hb dX5_init_27 (by decide) ?_
  refine va_put (D := D) (ci := 5) (v := .int 0) (ty := .int) (C := RX5) (T := TX5) (N := 7) hx hb hts iX5 tyX5 tyX5_ok nmX5 hown hK hP hD hS 0 rfl rfl 4 (by decide) (hts _ wd_46) (fun _ h9 => h9) rfl (by decide +kernel) rfl rfl (Nat.le_of_ble_eq_true rfl) dX5_init_28 (fun H locs hP hD hS => ?_)
  have hP : va_P D classes [(h, .inr (5, [.int 0, .int (-1), .ref q_1, .int 0, .int 0, .int 0, .int 0])), (q_1, .inl (cI, 0, .inl z0))] H := hP
  have hD : va_D A [(h, .inr (5, [.int 0, .int (-1), .ref q_1, .int 0, .int 0, .int 0, .int 0])), (q_1, .inl (cI, 0, .inl z0))] := hD
  refine lv_aload_n hx hb dX5_init_31 rfl (lv_at hl 0 rfl) ?_
  refine lv_iconst (v := 0) hx hb dX5_init_32 (by decide) ?_
  refine va_put (D := D) (ci := 5) (v := .int 0) (ty := .boolean) (C := RX5) (T := TX5) (N := 7) hx hb hts iX5 tyX5 tyX5_ok nmX5 hown hK hP hD hS 0 rfl rfl 5 (by decide) (hts _ wd_47) (fun _ h9 => h9) rfl (by decide +kernel) rfl rfl (Nat.le_of_ble_eq_true rfl) dX5_init_33 (fun H locs hP hD hS => ?_)
  have hP : va_P D classes [(h, .inr (5, [.int 0, .int (-1), .ref q_1, .int 0, .int 0, .int 0, .int 0])), (q_1, .inl (cI, 0, .inl z0))] H := hP
  have hD : va_D A [(h, .inr (5, [.int 0, .int (-1), .ref q_1, .int 0, .int 0, .int 0, .int 0])), (q_1, .inl (cI, 0, .inl z0))] := hD
  refine lv_aload_n hx hb dX5_init_36 rfl (lv_at hl 0 rfl) ?_
  refine lv_iconst (v := 0) hx hb dX5_init_37 (by decide) ?_
  refine va_put (D := D) (ci := 5) (v := .int 0) (ty := .boolean) (C := RX5) (T := TX5) (N := 7) hx hb hts iX5 tyX5 tyX5_ok nmX5 hown hK hP hD hS 0 rfl rfl 6 (by decide) (hts _ wd_48) (fun _ h9 => h9) rfl (by decide +kernel) rfl rfl (Nat.le_of_ble_eq_true rfl) dX5_init_38 (fun H locs hP hD hS => ?_)
  have hP : va_P D classes [(h, .inr (5, [.int 0, .int (-1), .ref q_1, .int 0, .int 0, .int 0, .int 0])), (q_1, .inl (cI, 0, .inl z0))] H := hP
  have hD : va_D A [(h, .inr (5, [.int 0, .int (-1), .ref q_1, .int 0, .int 0, .int 0, .int 0])), (q_1, .inl (cI, 0, .inl z0))] := hD
  refine W.widen (k := rm_k_reader_init.cells) (n := rm_k_reader_init.slots) (Nat.le_of_ble_eq_true rfl) (Nat.le_of_ble_eq_true rfl) ?_
  exact hret q_1 _ _ _ _ dX5_init_41 trivial hP hD hS
def rm_k_shelf_init20 : Room := { frames := 1, cells := 1, slots := 820, locals := 30 }
set_option maxHeartbeats 4000000 in
set_option maxRecDepth 100000 in
theorem k_shelf_init20 {l : Launch} {D : va_G} {cI cZ : ClassId} {sz : Nat} (h : Nat) : KV l yX6_init cX6_init 2 rm_k_shelf_init20 D cI cZ [.ref h, .int 20] sz [(h, .inr (6, [.int 0, .null]))] (fun (_ : Nat) => True) (fun (u : Nat) => [(h, .inr (6, [.int 20, .ref u])), (u, .inl (cI, 820, .inl z0))]) := by
  refine KV.go rfl (Nat.le_of_ble_eq_true rfl) ?_
  intro p e s m args below meth c ls A Q hx hb hml hts hown hin hP hK hD hS hA hN hl hret
  have hl : lv_has ls 2 [(0, .ref h), (1, .int 20)] := hl
  refine lv_aload_n hx hb dX6_init_0 rfl (lv_at hl 0 rfl) ?_
  refine W.objInit hx hb hown (hts _ wd_49) (hts _ wd_1) (hts _ wd_2) rfl (by rw [hml]; exact hl.1) rfl dX6_init_1 (Nat.le_of_ble_eq_true rfl) (Nat.le_of_ble_eq_true rfl) ?_
  refine W.eq (g2 := F0 m 4 ls []) rfl ?_
  refine lv_aload_n hx hb dX6_init_4 rfl (lv_at hl 0 rfl) ?_
  refine lv_iconst (v := 0) hx hb dX6_init_5 (by decide) ?_
  refine lv_iload_n hx hb dX6_init_6 rfl (lv_at hl 1 rfl) ?_
  refine va_mmax hx hb (by rw [hml]; exact hl.1.symm) hown (hts _ wd_50) (hts _ wd_51) (hts _ wd_52) (hts _ wd_53) (Nat.le_of_ble_eq_true rfl) (Nat.le_of_ble_eq_true rfl) (Nat.le_of_ble_eq_true rfl) (Nat.le_of_ble_eq_true rfl) dX6_init_7 ?_
  refine lv_topi (fun z_1 ez_1 => ?_)
  obtain rfl : z_1 = 20 := ez_1.trans (by decide +kernel)
  refine va_putF (D := D) (ci := 6) (v := .int 20) (ty := .int) (C := RX6) (T := TX6) (N := 2) hx hb hts iX6 tyX6 tyX6_ok nmX6 hown hK hP hD hS 0 rfl rfl 0 (by decide) (hts _ wd_54) (fun _ h9 => h9) rfl hin rfl (by decide +kernel) rfl rfl (Nat.le_of_ble_eq_true rfl) dX6_init_10 (fun H locs hP hD hS => ?_)
  have hP : va_P D classes [(h, .inr (6, [.int 20, .null]))] H := hP
  have hD : va_D A [(h, .inr (6, [.int 20, .null]))] := hD
  refine lv_aload_n hx hb dX6_init_13 rfl (lv_at hl 0 rfl) ?_
  refine lv_aload_n hx hb dX6_init_14 rfl (lv_at hl 0 rfl) ?_
  refine va_get (D := D) (ci := 6) (v := .int 20) (C := RX6) (T := TX6) (N := 2) hx hb hts iX6 hown hK hP 0 rfl rfl 0 (by decide) (hts _ wd_54) (fun _ h9 => h9) rfl dX6_init_15 ?_
  refine lv_bipush (v := 41) hx hb dX6_init_18 (by decide) ?_
  refine lv_imul hx hb dX6_init_20 ?_
  refine lv_topi (fun z_2 ez_2 => ?_)
  obtain rfl : z_2 = 820 := ez_2.trans (by decide +kernel)
  refine va_newa (atype := .int) (a0 := (820, .inl z0)) (N' := 820) (ty := .int) hx hb (hts _ wd_8) rfl hK hP hD hS hA (fun cA => z0_int 820 cA) (by decide +kernel) (by decide +kernel) (by decide +kernel) (Nat.le_of_ble_eq_true rfl) (Nat.le_of_ble_eq_true rfl) dX6_init_21 (fun q_3 cA_q_3 H hKn hP hD hS => ?_)
  obtain rfl := (K_int hKn).symm
  have hP : va_P D classes [(h, .inr (6, [.int 20, .null])), (q_3, .inl (cI, 820, .inl z0))] H := hP
  have hD : va_D A [(h, .inr (6, [.int 20, .null])), (q_3, .inl (cI, 820, .inl z0))] := hD
  refine W.widen (k := 1) (n := 820) (Nat.le_of_ble_eq_true rfl) (Nat.le_of_ble_eq_true rfl) ?_
  refine va_putF (D := D) (ci := 6) (v := .ref q_3) (ty := (.array .int)) (C := RX6) (T := TX6) (N := 2) hx hb hts iX6 tyX6 tyX6_ok nmX6 hown hK hP hD hS 0 rfl rfl 1 (by decide) (hts _ wd_55) (fun _ h9 => h9) rfl hin rfl (by decide +kernel) rfl rfl (Nat.le_of_ble_eq_true rfl) dX6_init_23 (fun H locs hP hD hS => ?_)
  have hP : va_P D classes [(h, .inr (6, [.int 20, .ref q_3])), (q_3, .inl (cI, 820, .inl z0))] H := hP
  have hD : va_D A [(h, .inr (6, [.int 20, .ref q_3])), (q_3, .inl (cI, 820, .inl z0))] := hD
  refine W.widen (k := rm_k_shelf_init20.cells) (n := rm_k_shelf_init20.slots) (Nat.le_of_ble_eq_true rfl) (Nat.le_of_ble_eq_true rfl) ?_
  exact hret q_3 _ _ _ _ dX6_init_26 trivial hP hD hS
def rm_k_shelf_init2 : Room := { frames := 1, cells := 1, slots := 82, locals := 30 }
set_option maxHeartbeats 4000000 in
set_option maxRecDepth 100000 in
theorem k_shelf_init2 {l : Launch} {D : va_G} {cI cZ : ClassId} {sz : Nat} (h : Nat) : KV l yX6_init cX6_init 2 rm_k_shelf_init2 D cI cZ [.ref h, .int 2] sz [(h, .inr (6, [.int 0, .null]))] (fun (_ : Nat) => True) (fun (u : Nat) => [(h, .inr (6, [.int 2, .ref u])), (u, .inl (cI, 82, .inl z0))]) := by
  refine KV.go rfl (Nat.le_of_ble_eq_true rfl) ?_
  intro p e s m args below meth c ls A Q hx hb hml hts hown hin hP hK hD hS hA hN hl hret
  have hl : lv_has ls 2 [(0, .ref h), (1, .int 2)] := hl
  refine lv_aload_n hx hb dX6_init_0 rfl (lv_at hl 0 rfl) ?_
  refine W.objInit hx hb hown (hts _ wd_49) (hts _ wd_1) (hts _ wd_2) rfl (by rw [hml]; exact hl.1) rfl dX6_init_1 (Nat.le_of_ble_eq_true rfl) (Nat.le_of_ble_eq_true rfl) ?_
  refine W.eq (g2 := F0 m 4 ls []) rfl ?_
  refine lv_aload_n hx hb dX6_init_4 rfl (lv_at hl 0 rfl) ?_
  refine lv_iconst (v := 0) hx hb dX6_init_5 (by decide) ?_
  refine lv_iload_n hx hb dX6_init_6 rfl (lv_at hl 1 rfl) ?_
  refine va_mmax hx hb (by rw [hml]; exact hl.1.symm) hown (hts _ wd_50) (hts _ wd_51) (hts _ wd_52) (hts _ wd_53) (Nat.le_of_ble_eq_true rfl) (Nat.le_of_ble_eq_true rfl) (Nat.le_of_ble_eq_true rfl) (Nat.le_of_ble_eq_true rfl) dX6_init_7 ?_
  refine lv_topi (fun z_1 ez_1 => ?_)
  obtain rfl : z_1 = 2 := ez_1.trans (by decide +kernel)
  refine va_putF (D := D) (ci := 6) (v := .int 2) (ty := .int) (C := RX6) (T := TX6) (N := 2) hx hb hts iX6 tyX6 tyX6_ok nmX6 hown hK hP hD hS 0 rfl rfl 0 (by decide) (hts _ wd_54) (fun _ h9 => h9) rfl hin rfl (by decide +kernel) rfl rfl (Nat.le_of_ble_eq_true rfl) dX6_init_10 (fun H locs hP hD hS => ?_)
  have hP : va_P D classes [(h, .inr (6, [.int 2, .null]))] H := hP
  have hD : va_D A [(h, .inr (6, [.int 2, .null]))] := hD
  refine lv_aload_n hx hb dX6_init_13 rfl (lv_at hl 0 rfl) ?_
  refine lv_aload_n hx hb dX6_init_14 rfl (lv_at hl 0 rfl) ?_
  refine va_get (D := D) (ci := 6) (v := .int 2) (C := RX6) (T := TX6) (N := 2) hx hb hts iX6 hown hK hP 0 rfl rfl 0 (by decide) (hts _ wd_54) (fun _ h9 => h9) rfl dX6_init_15 ?_
  refine lv_bipush (v := 41) hx hb dX6_init_18 (by decide) ?_
  refine lv_imul hx hb dX6_init_20 ?_
  refine lv_topi (fun z_2 ez_2 => ?_)
  obtain rfl : z_2 = 82 := ez_2.trans (by decide +kernel)
  refine va_newa (atype := .int) (a0 := (82, .inl z0)) (N' := 82) (ty := .int) hx hb (hts _ wd_8) rfl hK hP hD hS hA (fun cA => z0_int 82 cA) (by decide +kernel) (by decide +kernel) (by decide +kernel) (Nat.le_of_ble_eq_true rfl) (Nat.le_of_ble_eq_true rfl) dX6_init_21 (fun q_3 cA_q_3 H hKn hP hD hS => ?_)
  obtain rfl := (K_int hKn).symm
  have hP : va_P D classes [(h, .inr (6, [.int 2, .null])), (q_3, .inl (cI, 82, .inl z0))] H := hP
  have hD : va_D A [(h, .inr (6, [.int 2, .null])), (q_3, .inl (cI, 82, .inl z0))] := hD
  refine W.widen (k := 1) (n := 82) (Nat.le_of_ble_eq_true rfl) (Nat.le_of_ble_eq_true rfl) ?_
  refine va_putF (D := D) (ci := 6) (v := .ref q_3) (ty := (.array .int)) (C := RX6) (T := TX6) (N := 2) hx hb hts iX6 tyX6 tyX6_ok nmX6 hown hK hP hD hS 0 rfl rfl 1 (by decide) (hts _ wd_55) (fun _ h9 => h9) rfl hin rfl (by decide +kernel) rfl rfl (Nat.le_of_ble_eq_true rfl) dX6_init_23 (fun H locs hP hD hS => ?_)
  have hP : va_P D classes [(h, .inr (6, [.int 2, .ref q_3])), (q_3, .inl (cI, 82, .inl z0))] H := hP
  have hD : va_D A [(h, .inr (6, [.int 2, .ref q_3])), (q_3, .inl (cI, 82, .inl z0))] := hD
  refine W.widen (k := rm_k_shelf_init2.cells) (n := rm_k_shelf_init2.slots) (Nat.le_of_ble_eq_true rfl) (Nat.le_of_ble_eq_true rfl) ?_
  exact hret q_3 _ _ _ _ dX6_init_26 trivial hP hD hS
def rm_k_history_init : Room := { frames := 2, cells := 2, slots := 822, locals := 51 }
set_option maxHeartbeats 4000000 in
set_option maxRecDepth 100000 in
theorem k_history_init {l : Launch} {D : va_G} {cI cZ : ClassId} {sz : Nat} (h : Nat) : KV l yX2_init cX2_init 1 rm_k_history_init D cI cZ [.ref h] sz [(h, .inr (2, [.null, .int 0, .int 0]))] (fun (_ : Nat × Nat) => True) (fun (u : Nat × Nat) => [(h, .inr (2, [.ref u.1, .int 0, .int 0])), (u.1, .inr (6, [.int 20, .ref u.2])), (u.2, .inl (cI, 820, .inl z0))]) := by
  refine KV.go rfl (Nat.le_of_ble_eq_true rfl) ?_
  intro p e s m args below meth c ls A Q hx hb hml hts hown hin hP hK hD hS hA hN hl hret
  have hl : lv_has ls 1 [(0, .ref h)] := hl
  refine lv_aload_n hx hb dX2_init_0 rfl (lv_at hl 0 rfl) ?_
  refine W.objInit hx hb hown (hts _ wd_56) (hts _ wd_1) (hts _ wd_2) rfl (by rw [hml]; exact hl.1) rfl dX2_init_1 (Nat.le_of_ble_eq_true rfl) (Nat.le_of_ble_eq_true rfl) ?_
  refine W.eq (g2 := F0 m 4 ls []) rfl ?_
  refine lv_aload_n hx hb dX2_init_4 rfl (lv_at hl 0 rfl) ?_
  refine va_new (ci := 6) (fs := [.int 0, .null]) (C := RX6) (T := TX6) (N := 2) hx hb hts iX6 tyX6 tyX6_ok hown (hts _ wd_57) (hts _ wd_58) (hts _ wd_59) hK hP hD hS hA rfl (by decide +kernel) (Nat.le_of_ble_eq_true rfl) (Nat.le_of_ble_eq_true rfl) dX2_init_5 (fun q_1 H hP hD hS => ?_)
  have hP : va_P D classes [(h, .inr (2, [.null, .int 0, .int 0])), (q_1, .inr (6, [.int 0, .null]))] H := hP
  have hD : va_D A [(h, .inr (2, [.null, .int 0, .int 0])), (q_1, .inr (6, [.int 0, .null]))] := hD
  refine W.widen (k := 1) (n := 2) (Nat.le_of_ble_eq_true rfl) (Nat.le_of_ble_eq_true rfl) ?_
  refine lv_dup hx hb dX2_init_8 rfl ?_
  refine lv_bipush (v := 20) hx hb dX2_init_9 (by decide) ?_
  refine cIv (wr := [(h, .inr (2, [.null, .int 0, .int 0]))]) (rest := [.ref q_1, .ref h]) (k_shelf_init20 q_1) okI_X6_init wd_60 hx hb hml hown hts hK hP hD hS hA hN hl.1 [1] [0] rfl rfl rfl rfl (by decide) rfl (Nat.le_of_ble_eq_true rfl) (Nat.le_of_ble_eq_true rfl) (Nat.le_of_ble_eq_true rfl) (Nat.le_of_ble_eq_true rfl) (Nat.le_of_ble_eq_true rfl) dX2_init_11 (fun u_2 H locs hw_u_2 hP hD hS => ?_)
  refine W.widen (k := 2) (n := 822) (Nat.le_of_ble_eq_true rfl) (Nat.le_of_ble_eq_true rfl) ?_
  have hP : va_P D classes [(h, .inr (2, [.null, .int 0, .int 0])), (q_1, .inr (6, [.int 20, .ref u_2])), (u_2, .inl (cI, 820, .inl z0))] H := hP
  have hD : va_D A [(h, .inr (2, [.null, .int 0, .int 0])), (q_1, .inr (6, [.int 20, .ref u_2])), (u_2, .inl (cI, 820, .inl z0))] := hD
  refine va_putF (D := D) (ci := 2) (v := .ref q_1) (ty := (.object "QuarrelBridges$Shelf")) (C := RX2) (T := TX2) (N := 3) hx hb hts iX2 tyX2 tyX2_ok nmX2 hown hK hP hD hS 0 rfl rfl 0 (by decide) (hts _ wd_63) (fun _ h9 => h9) rfl hin rfl (by decide +kernel) rfl rfl (Nat.le_of_ble_eq_true rfl) dX2_init_14 (fun H locs hP hD hS => ?_)
  have hP : va_P D classes [(h, .inr (2, [.ref q_1, .int 0, .int 0])), (q_1, .inr (6, [.int 20, .ref u_2])), (u_2, .inl (cI, 820, .inl z0))] H := hP
  have hD : va_D A [(h, .inr (2, [.ref q_1, .int 0, .int 0])), (q_1, .inr (6, [.int 20, .ref u_2])), (u_2, .inl (cI, 820, .inl z0))] := hD
  refine lv_aload_n hx hb dX2_init_17 rfl (lv_at hl 0 rfl) ?_
  refine lv_iconst (v := 0) hx hb dX2_init_18 (by decide) ?_
  refine va_put (D := D) (ci := 2) (v := .int 0) (ty := .int) (C := RX2) (T := TX2) (N := 3) hx hb hts iX2 tyX2 tyX2_ok nmX2 hown hK hP hD hS 0 rfl rfl 1 (by decide) (hts _ wd_64) (fun _ h9 => h9) rfl (by decide +kernel) rfl rfl (Nat.le_of_ble_eq_true rfl) dX2_init_19 (fun H locs hP hD hS => ?_)
  have hP : va_P D classes [(h, .inr (2, [.ref q_1, .int 0, .int 0])), (q_1, .inr (6, [.int 20, .ref u_2])), (u_2, .inl (cI, 820, .inl z0))] H := hP
  have hD : va_D A [(h, .inr (2, [.ref q_1, .int 0, .int 0])), (q_1, .inr (6, [.int 20, .ref u_2])), (u_2, .inl (cI, 820, .inl z0))] := hD
  refine lv_aload_n hx hb dX2_init_22 rfl (lv_at hl 0 rfl) ?_
  refine lv_iconst (v := 0) hx hb dX2_init_23 (by decide) ?_
  refine va_put (D := D) (ci := 2) (v := .int 0) (ty := .int) (C := RX2) (T := TX2) (N := 3) hx hb hts iX2 tyX2 tyX2_ok nmX2 hown hK hP hD hS 0 rfl rfl 2 (by decide) (hts _ wd_65) (fun _ h9 => h9) rfl (by decide +kernel) rfl rfl (Nat.le_of_ble_eq_true rfl) dX2_init_24 (fun H locs hP hD hS => ?_)
  have hP : va_P D classes [(h, .inr (2, [.ref q_1, .int 0, .int 0])), (q_1, .inr (6, [.int 20, .ref u_2])), (u_2, .inl (cI, 820, .inl z0))] H := hP
  have hD : va_D A [(h, .inr (2, [.ref q_1, .int 0, .int 0])), (q_1, .inr (6, [.int 20, .ref u_2])), (u_2, .inl (cI, 820, .inl z0))] := hD
  refine W.widen (k := rm_k_history_init.cells) (n := rm_k_history_init.slots) (Nat.le_of_ble_eq_true rfl) (Nat.le_of_ble_eq_true rfl) ?_
  exact hret ⟨q_1, u_2⟩ _ _ _ _ dX2_init_27 trivial hP hD hS
end
section
theorem dJ7_fill_53178_0 : decode cJ7_fill_53178 0 = .ok (.iconst 0, 1) := by decide +kernel
theorem dJ7_fill_53178_1 : decode cJ7_fill_53178 1 = .ok (.istore_n 2, 1) := by decide +kernel
theorem dJ7_fill_53178_2 : decode cJ7_fill_53178 2 = .ok (.aload_n 0, 1) := by decide +kernel
theorem dJ7_fill_53178_3 : decode cJ7_fill_53178 3 = .ok (.arraylength, 1) := by decide +kernel
theorem dJ7_fill_53178_4 : decode cJ7_fill_53178 4 = .ok (.istore_n 3, 1) := by decide +kernel
theorem dJ7_fill_53178_5 : decode cJ7_fill_53178 5 = .ok (.iload_n 2, 1) := by decide +kernel
theorem dJ7_fill_53178_6 : decode cJ7_fill_53178 6 = .ok (.iload_n 3, 1) := by decide +kernel
theorem dJ7_fill_53178_7 : decode cJ7_fill_53178 7 = .ok (.if_icmp .ge 13, 3) := by decide +kernel
theorem dJ7_fill_53178_20 : decode cJ7_fill_53178 20 = .ok (.return_, 1) := by decide +kernel
theorem dJ7_fill_53178_10 : decode cJ7_fill_53178 10 = .ok (.aload_n 0, 1) := by decide +kernel
theorem dJ7_fill_53178_11 : decode cJ7_fill_53178 11 = .ok (.iload_n 2, 1) := by decide +kernel
theorem dJ7_fill_53178_12 : decode cJ7_fill_53178 12 = .ok (.iload_n 1, 1) := by decide +kernel
theorem dJ7_fill_53178_13 : decode cJ7_fill_53178 13 = .ok (.iastore, 1) := by decide +kernel
theorem dJ7_fill_53178_14 : decode cJ7_fill_53178 14 = .ok (.iinc 2 1, 3) := by decide +kernel
theorem dJ7_fill_53178_17 : decode cJ7_fill_53178 17 = .ok (.goto (-12), 3) := by decide +kernel
theorem dX7_begin_0 : decode cX7_begin 0 = .ok (.aload_n 0, 1) := by decide +kernel
theorem dX7_begin_1 : decode cX7_begin 1 = .ok (.getfield 11, 3) := by decide +kernel
theorem dX7_begin_4 : decode cX7_begin 4 = .ok (.iconst 0, 1) := by decide +kernel
theorem dX7_begin_5 : decode cX7_begin 5 = .ok (.invokestatic 15, 3) := by decide +kernel
theorem wd_66 : Cond.methodLink RX7 15 yJ7_fill_53178 ∈ BG := BG_in (by decide +kernel) rfl
theorem wd_67 : Cond.code yJ7_fill_53178 cJ7_fill_53178 4 none ∈ BG := BG_in (by decide +kernel) rfl
theorem wd_68 : Cond.initialized RJ7 ∈ BG := BG_in (by decide +kernel) rfl
theorem wd_69 : Cond.static yJ7_fill_53178 ∈ BG := BG_in (by decide +kernel) rfl
theorem okS_J7_fill_53178 : okS yJ7_fill_53178 cJ7_fill_53178 4 none 2 := ⟨⟨wd_67, wd_68, by decide +kernel⟩, wd_69⟩
theorem dX7_begin_8 : decode cX7_begin 8 = .ok (.iconst 0, 1) := by decide +kernel
theorem dX7_begin_9 : decode cX7_begin 9 = .ok (.istore_n 2, 1) := by decide +kernel
theorem dX7_begin_10 : decode cX7_begin 10 = .ok (.iload_n 2, 1) := by decide +kernel
theorem dX7_begin_11 : decode cX7_begin 11 = .ok (.bipush 6, 2) := by decide +kernel
theorem dX7_begin_13 : decode cX7_begin 13 = .ok (.if_icmp .ge 51, 3) := by decide +kernel
theorem dX7_begin_64 : decode cX7_begin 64 = .ok (.iconst 0, 1) := by decide +kernel
theorem dX7_begin_65 : decode cX7_begin 65 = .ok (.istore_n 2, 1) := by decide +kernel
theorem dX7_begin_66 : decode cX7_begin 66 = .ok (.iload_n 2, 1) := by decide +kernel
theorem dX7_begin_67 : decode cX7_begin 67 = .ok (.bipush 7, 2) := by decide +kernel
theorem dX7_begin_69 : decode cX7_begin 69 = .ok (.if_icmp .ge 33, 3) := by decide +kernel
theorem dX7_begin_102 : decode cX7_begin 102 = .ok (.return_, 1) := by decide +kernel
theorem dX7_begin_72 : decode cX7_begin 72 = .ok (.aload_n 0, 1) := by decide +kernel
theorem dX7_begin_73 : decode cX7_begin 73 = .ok (.getfield 11, 3) := by decide +kernel
theorem dX7_begin_76 : decode cX7_begin 76 = .ok (.bipush 27, 2) := by decide +kernel
theorem dX7_begin_78 : decode cX7_begin 78 = .ok (.iload_n 2, 1) := by decide +kernel
theorem dX7_begin_79 : decode cX7_begin 79 = .ok (.iadd, 1) := by decide +kernel
theorem dX7_begin_80 : decode cX7_begin 80 = .ok (.iconst (-1), 1) := by decide +kernel
theorem dX7_begin_81 : decode cX7_begin 81 = .ok (.invokestatic 34, 3) := by decide +kernel
theorem wd_70 : Cond.code yX9_put cX9_put 3 none ∈ BG := BG_in (by decide +kernel) rfl
theorem wd_71 : Cond.initialized RX9 ∈ BG := BG_in (by decide +kernel) rfl
theorem wd_72 : Cond.static yX9_put ∈ BG := BG_in (by decide +kernel) rfl
theorem okS_X9_put : okS yX9_put cX9_put 3 none 3 := ⟨⟨wd_70, wd_71, by decide +kernel⟩, wd_72⟩
theorem dX7_begin_84 : decode cX7_begin 84 = .ok (.aload_n 0, 1) := by decide +kernel
theorem dX7_begin_85 : decode cX7_begin 85 = .ok (.getfield 11, 3) := by decide +kernel
theorem dX7_begin_88 : decode cX7_begin 88 = .ok (.bipush 34, 2) := by decide +kernel
theorem dX7_begin_90 : decode cX7_begin 90 = .ok (.iload_n 2, 1) := by decide +kernel
theorem dX7_begin_91 : decode cX7_begin 91 = .ok (.iadd, 1) := by decide +kernel
theorem dX7_begin_92 : decode cX7_begin 92 = .ok (.iconst (-1), 1) := by decide +kernel
theorem dX7_begin_93 : decode cX7_begin 93 = .ok (.invokestatic 34, 3) := by decide +kernel
theorem dX7_begin_96 : decode cX7_begin 96 = .ok (.iinc 2 1, 3) := by decide +kernel
theorem dX7_begin_99 : decode cX7_begin 99 = .ok (.goto (-33), 3) := by decide +kernel
theorem dX7_begin_16 : decode cX7_begin 16 = .ok (.aload_n 0, 1) := by decide +kernel
theorem dX7_begin_17 : decode cX7_begin 17 = .ok (.getfield 11, 3) := by decide +kernel
theorem dX7_begin_20 : decode cX7_begin 20 = .ok (.iconst 2, 1) := by decide +kernel
theorem dX7_begin_21 : decode cX7_begin 21 = .ok (.iload_n 2, 1) := by decide +kernel
theorem dX7_begin_22 : decode cX7_begin 22 = .ok (.iadd, 1) := by decide +kernel
theorem dX7_begin_23 : decode cX7_begin 23 = .ok (.iload_n 2, 1) := by decide +kernel
theorem dX7_begin_24 : decode cX7_begin 24 = .ok (.aload_n 1, 1) := by decide +kernel
theorem wd_73 : Cond.fieldLink RX7 21 "QuarrelBridges$Town" "couples" "I" ∈ BG := BG_in (by decide +kernel) rfl
theorem dX7_begin_25 : decode cX7_begin 25 = .ok (.getfield 21, 3) := by decide +kernel
theorem dX7_begin_28 : decode cX7_begin 28 = .ok (.if_icmp .ge 14, 3) := by decide +kernel
theorem dX7_begin_42 : decode cX7_begin 42 = .ok (.iconst 0, 1) := by decide +kernel
theorem dX7_begin_43 : decode cX7_begin 43 = .ok (.invokestatic 34, 3) := by decide +kernel
theorem dX7_begin_46 : decode cX7_begin 46 = .ok (.aload_n 0, 1) := by decide +kernel
theorem dX7_begin_47 : decode cX7_begin 47 = .ok (.getfield 11, 3) := by decide +kernel
theorem dX7_begin_50 : decode cX7_begin 50 = .ok (.bipush 8, 2) := by decide +kernel
theorem dX7_begin_52 : decode cX7_begin 52 = .ok (.iload_n 2, 1) := by decide +kernel
theorem dX7_begin_53 : decode cX7_begin 53 = .ok (.iadd, 1) := by decide +kernel
theorem dX7_begin_54 : decode cX7_begin 54 = .ok (.iconst (-1), 1) := by decide +kernel
theorem dX7_begin_55 : decode cX7_begin 55 = .ok (.invokestatic 34, 3) := by decide +kernel
theorem dX7_begin_58 : decode cX7_begin 58 = .ok (.iinc 2 1, 3) := by decide +kernel
theorem dX7_begin_61 : decode cX7_begin 61 = .ok (.goto (-51), 3) := by decide +kernel
def fillZ (f : Nat → Int32) : Nat → Nat → Int32
  | 0 => f
  | k + 1 => upd (fillZ f k) (nI k).toNatClampNeg 0
/-- begin(town) where the town has no couples -/
def cB1 (f : Nat → Int32) : Nat → Nat → Int32
  | 0 => fillZ f 41
  | k + 1 => putF 41 (putF 41 (cB1 f k) (2 + nI k) 0) (8 + nI k) (-1)
def cB2 (f : Nat → Int32) : Nat → Nat → Int32
  | 0 => cB1 f 6
  | k + 1 => putF 41 (putF 41 (cB2 f k) (27 + nI k) (-1)) (34 + nI k) (-1)
def rm_k_fill41 : Room := { frames := 0, cells := 0, slots := 0, locals := 0 }
set_option maxHeartbeats 4000000 in
set_option maxRecDepth 100000 in
theorem k_fill41 {l : Launch} {D : va_G} {cI cZ : ClassId} {sz : Nat} (a : Nat) (f : Nat → Int32) : KV l yJ7_fill_53178 cJ7_fill_53178 4 rm_k_fill41 D cI cZ [.ref a, .int 0] sz [(a, .inl (cI, 41, .inl f))] (fun (_ : Unit) => True) (fun (_ : Unit) => [(a, .inl (cI, 41, .inl (fillZ f 41)))]) := by
  refine KV.go rfl (Nat.le_of_ble_eq_true rfl) ?_
  intro p e s m args below meth c ls A Q hx hb hml hts hown hin hP hK hD hS hA hN hl hret
  have hl : lv_has ls 4 [(0, .ref a), (1, .int 0)] := hl
  refine lv_iconst (v := 0) hx hb dJ7_fill_53178_0 (by decide) ?_
  refine lv_istore_n (lv' := [(2, .int 0), (0, .ref a), (1, .int 0)]) hx hb dJ7_fill_53178_1 rfl hl (by decide) rfl (fun ls hl => ?_)
  refine lv_aload_n hx hb dJ7_fill_53178_2 rfl (lv_at hl 1 rfl) ?_
  refine va_alen (v := 41) hx hb hK hP 0 0 rfl rfl rfl dJ7_fill_53178_3 ?_
  refine lv_istore_n (lv' := [(3, .int 41), (2, .int 0), (0, .ref a), (1, .int 0)]) hx hb dJ7_fill_53178_4 rfl hl (by decide) rfl (fun ls hl => ?_)
  have lp_1 : ∀ (n k : Nat), k + n = 41 → ∀ (H : Heap) (locs : List Loc) (ls : Array Slot), va_P D classes [(a, .inl (cI, 41, .inl (fillZ f k)))] H → va_D A [(a, .inl (cI, 41, .inl (fillZ f k)))] → va_S A s.heap H locs → lv_has ls 4 [(3, .int 41), (2, .int (nI k)), (0, .ref a), (1, .int 0)] → W p l e rm_k_fill41 s m args below meth c H locs 0 0 Q (F0 m 5 ls []) := by
    intro n
    induction n with
    | zero =>
      intro k hk H locs ls hP hD hS hl
      obtain rfl : k = 41 := by omega
      refine lv_iload_n hx hb dJ7_fill_53178_5 rfl (lv_at hl 1 rfl) ?_
      refine lv_iload_n hx hb dJ7_fill_53178_6 rfl (lv_at hl 0 rfl) ?_
      refine lv_icmp_ge (tgt := 20) hx hb dJ7_fill_53178_7 (by decide) (fun c_2 => ?_) (fun c_2 => absurd (by decide +kernel) c_2)
      exact hret () _ _ _ _ dJ7_fill_53178_20 trivial hP hD hS
    | succ n ih_lp_1 =>
      intro k hk H locs ls hP hD hS hl
      have hkN_lp_1 : k < 41 := by omega
      refine lv_iload_n hx hb dJ7_fill_53178_5 rfl (lv_at hl 1 rfl) ?_
      refine lv_iload_n hx hb dJ7_fill_53178_6 rfl (lv_at hl 0 rfl) ?_
      refine lv_icmp_ge (tgt := 20) hx hb dJ7_fill_53178_7 (by decide) (fun c_3 => absurd c_3 (nI_ge hkN_lp_1 (by decide))) (fun c_3 => ?_)
      refine lv_aload_n hx hb dJ7_fill_53178_10 rfl (lv_at hl 2 rfl) ?_
      refine lv_iload_n hx hb dJ7_fill_53178_11 rfl (lv_at hl 1 rfl) ?_
      refine lv_iload_n hx hb dJ7_fill_53178_12 rfl (lv_at hl 3 rfl) ?_
      refine va_iast hx hb hK hP hD hS 0 0 rfl rfl (nI_in hkN_lp_1 (by decide)) dJ7_fill_53178_13 (fun H locs hP hD hS => ?_)
      have hP : va_P D classes [(a, .inl (cI, 41, .inl (upd (fillZ f k) ((nI k) : Int32).toNatClampNeg 0)))] H := hP
      have hD : va_D A [(a, .inl (cI, 41, .inl (upd (fillZ f k) ((nI k) : Int32).toNatClampNeg 0)))] := hD
      refine lv_iinc (v := (nI (k + 1))) (lv' := [(2, .int (nI (k + 1))), (3, .int 41), (0, .ref a), (1, .int 0)]) hx hb dJ7_fill_53178_14 hl (k := 1) rfl (nI_1 k) (by decide) rfl (fun ls hl => ?_)
      refine lv_goto (tgt := 5) hx hb dJ7_fill_53178_17 (by decide) ?_
      exact ih_lp_1 (k + 1) (by omega) _ _ ls hP hD hS (lv_sub hl [1, 0, 2, 3] rfl)
  exact lp_1 41 0 (by omega) _ _ ls hP hD hS hl
def rm_k_fill6 : Room := { frames := 0, cells := 0, slots := 0, locals := 0 }
set_option maxHeartbeats 4000000 in
set_option maxRecDepth 100000 in
theorem k_fill6 {l : Launch} {D : va_G} {cI cZ : ClassId} {sz : Nat} (a : Nat) (f : Nat → Int32) : KV l yJ7_fill_53178 cJ7_fill_53178 4 rm_k_fill6 D cI cZ [.ref a, .int 0] sz [(a, .inl (cI, 6, .inl f))] (fun (_ : Unit) => True) (fun (_ : Unit) => [(a, .inl (cI, 6, .inl (fillZ f 6)))]) := by
  refine KV.go rfl (Nat.le_of_ble_eq_true rfl) ?_
  intro p e s m args below meth c ls A Q hx hb hml hts hown hin hP hK hD hS hA hN hl hret
  have hl : lv_has ls 4 [(0, .ref a), (1, .int 0)] := hl
  refine lv_iconst (v := 0) hx hb dJ7_fill_53178_0 (by decide) ?_
  refine lv_istore_n (lv' := [(2, .int 0), (0, .ref a), (1, .int 0)]) hx hb dJ7_fill_53178_1 rfl hl (by decide) rfl (fun ls hl => ?_)
  refine lv_aload_n hx hb dJ7_fill_53178_2 rfl (lv_at hl 1 rfl) ?_
  refine va_alen (v := 6) hx hb hK hP 0 0 rfl rfl rfl dJ7_fill_53178_3 ?_
  refine lv_istore_n (lv' := [(3, .int 6), (2, .int 0), (0, .ref a), (1, .int 0)]) hx hb dJ7_fill_53178_4 rfl hl (by decide) rfl (fun ls hl => ?_)
  have lp_1 : ∀ (n k : Nat), k + n = 6 → ∀ (H : Heap) (locs : List Loc) (ls : Array Slot), va_P D classes [(a, .inl (cI, 6, .inl (fillZ f k)))] H → va_D A [(a, .inl (cI, 6, .inl (fillZ f k)))] → va_S A s.heap H locs → lv_has ls 4 [(3, .int 6), (2, .int (nI k)), (0, .ref a), (1, .int 0)] → W p l e rm_k_fill6 s m args below meth c H locs 0 0 Q (F0 m 5 ls []) := by
    intro n
    induction n with
    | zero =>
      intro k hk H locs ls hP hD hS hl
      obtain rfl : k = 6 := by omega
      refine lv_iload_n hx hb dJ7_fill_53178_5 rfl (lv_at hl 1 rfl) ?_
      refine lv_iload_n hx hb dJ7_fill_53178_6 rfl (lv_at hl 0 rfl) ?_
      refine lv_icmp_ge (tgt := 20) hx hb dJ7_fill_53178_7 (by decide) (fun c_2 => ?_) (fun c_2 => absurd (by decide +kernel) c_2)
      exact hret () _ _ _ _ dJ7_fill_53178_20 trivial hP hD hS
    | succ n ih_lp_1 =>
      intro k hk H locs ls hP hD hS hl
      have hkN_lp_1 : k < 6 := by omega
      refine lv_iload_n hx hb dJ7_fill_53178_5 rfl (lv_at hl 1 rfl) ?_
      refine lv_iload_n hx hb dJ7_fill_53178_6 rfl (lv_at hl 0 rfl) ?_
      refine lv_icmp_ge (tgt := 20) hx hb dJ7_fill_53178_7 (by decide) (fun c_3 => absurd c_3 (nI_ge hkN_lp_1 (by decide))) (fun c_3 => ?_)
      refine lv_aload_n hx hb dJ7_fill_53178_10 rfl (lv_at hl 2 rfl) ?_
      refine lv_iload_n hx hb dJ7_fill_53178_11 rfl (lv_at hl 1 rfl) ?_
      refine lv_iload_n hx hb dJ7_fill_53178_12 rfl (lv_at hl 3 rfl) ?_
      refine va_iast hx hb hK hP hD hS 0 0 rfl rfl (nI_in hkN_lp_1 (by decide)) dJ7_fill_53178_13 (fun H locs hP hD hS => ?_)
      have hP : va_P D classes [(a, .inl (cI, 6, .inl (upd (fillZ f k) ((nI k) : Int32).toNatClampNeg 0)))] H := hP
      have hD : va_D A [(a, .inl (cI, 6, .inl (upd (fillZ f k) ((nI k) : Int32).toNatClampNeg 0)))] := hD
      refine lv_iinc (v := (nI (k + 1))) (lv' := [(2, .int (nI (k + 1))), (3, .int 6), (0, .ref a), (1, .int 0)]) hx hb dJ7_fill_53178_14 hl (k := 1) rfl (nI_1 k) (by decide) rfl (fun ls hl => ?_)
      refine lv_goto (tgt := 5) hx hb dJ7_fill_53178_17 (by decide) ?_
      exact ih_lp_1 (k + 1) (by omega) _ _ ls hP hD hS (lv_sub hl [1, 0, 2, 3] rfl)
  exact lp_1 6 0 (by omega) _ _ ls hP hD hS hl
def rm_k_fill48 : Room := { frames := 0, cells := 0, slots := 0, locals := 0 }
set_option maxHeartbeats 4000000 in
set_option maxRecDepth 100000 in
theorem k_fill48 {l : Launch} {D : va_G} {cI cZ : ClassId} {sz : Nat} (a : Nat) (f : Nat → Int32) : KV l yJ7_fill_53178 cJ7_fill_53178 4 rm_k_fill48 D cI cZ [.ref a, .int 0] sz [(a, .inl (cI, 48, .inl f))] (fun (_ : Unit) => True) (fun (_ : Unit) => [(a, .inl (cI, 48, .inl (fillZ f 48)))]) := by
  refine KV.go rfl (Nat.le_of_ble_eq_true rfl) ?_
  intro p e s m args below meth c ls A Q hx hb hml hts hown hin hP hK hD hS hA hN hl hret
  have hl : lv_has ls 4 [(0, .ref a), (1, .int 0)] := hl
  refine lv_iconst (v := 0) hx hb dJ7_fill_53178_0 (by decide) ?_
  refine lv_istore_n (lv' := [(2, .int 0), (0, .ref a), (1, .int 0)]) hx hb dJ7_fill_53178_1 rfl hl (by decide) rfl (fun ls hl => ?_)
  refine lv_aload_n hx hb dJ7_fill_53178_2 rfl (lv_at hl 1 rfl) ?_
  refine va_alen (v := 48) hx hb hK hP 0 0 rfl rfl rfl dJ7_fill_53178_3 ?_
  refine lv_istore_n (lv' := [(3, .int 48), (2, .int 0), (0, .ref a), (1, .int 0)]) hx hb dJ7_fill_53178_4 rfl hl (by decide) rfl (fun ls hl => ?_)
  have lp_1 : ∀ (n k : Nat), k + n = 48 → ∀ (H : Heap) (locs : List Loc) (ls : Array Slot), va_P D classes [(a, .inl (cI, 48, .inl (fillZ f k)))] H → va_D A [(a, .inl (cI, 48, .inl (fillZ f k)))] → va_S A s.heap H locs → lv_has ls 4 [(3, .int 48), (2, .int (nI k)), (0, .ref a), (1, .int 0)] → W p l e rm_k_fill48 s m args below meth c H locs 0 0 Q (F0 m 5 ls []) := by
    intro n
    induction n with
    | zero =>
      intro k hk H locs ls hP hD hS hl
      obtain rfl : k = 48 := by omega
      refine lv_iload_n hx hb dJ7_fill_53178_5 rfl (lv_at hl 1 rfl) ?_
      refine lv_iload_n hx hb dJ7_fill_53178_6 rfl (lv_at hl 0 rfl) ?_
      refine lv_icmp_ge (tgt := 20) hx hb dJ7_fill_53178_7 (by decide) (fun c_2 => ?_) (fun c_2 => absurd (by decide +kernel) c_2)
      exact hret () _ _ _ _ dJ7_fill_53178_20 trivial hP hD hS
    | succ n ih_lp_1 =>
      intro k hk H locs ls hP hD hS hl
      have hkN_lp_1 : k < 48 := by omega
      refine lv_iload_n hx hb dJ7_fill_53178_5 rfl (lv_at hl 1 rfl) ?_
      refine lv_iload_n hx hb dJ7_fill_53178_6 rfl (lv_at hl 0 rfl) ?_
      refine lv_icmp_ge (tgt := 20) hx hb dJ7_fill_53178_7 (by decide) (fun c_3 => absurd c_3 (nI_ge hkN_lp_1 (by decide))) (fun c_3 => ?_)
      refine lv_aload_n hx hb dJ7_fill_53178_10 rfl (lv_at hl 2 rfl) ?_
      refine lv_iload_n hx hb dJ7_fill_53178_11 rfl (lv_at hl 1 rfl) ?_
      refine lv_iload_n hx hb dJ7_fill_53178_12 rfl (lv_at hl 3 rfl) ?_
      refine va_iast hx hb hK hP hD hS 0 0 rfl rfl (nI_in hkN_lp_1 (by decide)) dJ7_fill_53178_13 (fun H locs hP hD hS => ?_)
      have hP : va_P D classes [(a, .inl (cI, 48, .inl (upd (fillZ f k) ((nI k) : Int32).toNatClampNeg 0)))] H := hP
      have hD : va_D A [(a, .inl (cI, 48, .inl (upd (fillZ f k) ((nI k) : Int32).toNatClampNeg 0)))] := hD
      refine lv_iinc (v := (nI (k + 1))) (lv' := [(2, .int (nI (k + 1))), (3, .int 48), (0, .ref a), (1, .int 0)]) hx hb dJ7_fill_53178_14 hl (k := 1) rfl (nI_1 k) (by decide) rfl (fun ls hl => ?_)
      refine lv_goto (tgt := 5) hx hb dJ7_fill_53178_17 (by decide) ?_
      exact ih_lp_1 (k + 1) (by omega) _ _ ls hP hD hS (lv_sub hl [1, 0, 2, 3] rfl)
  exact lp_1 48 0 (by omega) _ _ ls hP hD hS hl
def rm_k_begin : Room := { frames := 1, cells := 0, slots := 0, locals := 23 }
set_option maxHeartbeats 4000000 in
set_option maxRecDepth 100000 in
theorem k_begin {l : Launch} {D : va_G} {cI cZ : ClassId} {sz : Nat} (h a : Nat) (f : Nat → Int32) (t : Nat) (t0 t1 t3 t4 : Int32) (ta tb tc td te : Nat) : KV l yX7_begin cX7_begin 3 rm_k_begin D cI cZ [.ref h, .ref t] sz [(h, .inr (7, [.ref a])), (a, .inl (cI, 41, .inl f)), (t, .inr (8, [.int t0, .int t1, .int 0, .int t3, .int t4, .ref ta, .ref tb, .ref tc, .ref td, .ref te]))] (fun (_ : Unit) => True) (fun (_ : Unit) => [(h, .inr (7, [.ref a])), (a, .inl (cI, 41, .inl (cB2 f 7))), (t, .inr (8, [.int t0, .int t1, .int 0, .int t3, .int t4, .ref ta, .ref tb, .ref tc, .ref td, .ref te]))]) := by
  refine KV.go rfl (Nat.le_of_ble_eq_true rfl) ?_
  intro p e s m args below meth c ls A Q hx hb hml hts hown hin hP hK hD hS hA hN hl hret
  have hl : lv_has ls 3 [(0, .ref h), (1, .ref t)] := hl
  refine lv_aload_n hx hb dX7_begin_0 rfl (lv_at hl 0 rfl) ?_
  refine va_get (D := D) (ci := 7) (v := .ref a) (C := RX7) (T := TX7) (N := 1) hx hb hts iX7 hown hK hP 0 rfl rfl 0 (by decide) (hts _ wd_15) (fun _ h9 => h9) rfl dX7_begin_1 ?_
  refine lv_iconst (v := 0) hx hb dX7_begin_4 (by decide) ?_
  refine cSv (wr := [(h, .inr (7, [.ref a])), (t, .inr (8, [.int t0, .int t1, .int 0, .int t3, .int t4, .ref ta, .ref tb, .ref tc, .ref td, .ref te]))]) (rest := []) (k_fill41 a f) okS_J7_fill_53178 wd_66 hx hb hml hown hts hK hP hD hS hA hN hl.1 [1] [0, 2] rfl rfl rfl rfl (by decide) rfl (Nat.le_of_ble_eq_true rfl) (Nat.le_of_ble_eq_true rfl) (Nat.le_of_ble_eq_true rfl) (Nat.le_of_ble_eq_true rfl) (Nat.le_of_ble_eq_true rfl) dX7_begin_5 (fun u_1 H locs hw_u_1 hP hD hS => ?_)
  have hP : va_P D classes [(h, .inr (7, [.ref a])), (t, .inr (8, [.int t0, .int t1, .int 0, .int t3, .int t4, .ref ta, .ref tb, .ref tc, .ref td, .ref te])), (a, .inl (cI, 41, .inl (fillZ f 41)))] H := hP
  have hD : va_D A [(h, .inr (7, [.ref a])), (t, .inr (8, [.int t0, .int t1, .int 0, .int t3, .int t4, .ref ta, .ref tb, .ref tc, .ref td, .ref te])), (a, .inl (cI, 41, .inl (fillZ f 41)))] := hD
  refine lv_iconst (v := 0) hx hb dX7_begin_8 (by decide) ?_
  refine lv_istore_n (lv' := [(2, .int 0), (0, .ref h), (1, .ref t)]) hx hb dX7_begin_9 rfl hl (by decide) rfl (fun ls hl => ?_)
  have lp_3 : ∀ (n k : Nat), k + n = 6 → ∀ (H : Heap) (locs : List Loc) (ls : Array Slot), va_P D classes [(h, .inr (7, [.ref a])), (t, .inr (8, [.int t0, .int t1, .int 0, .int t3, .int t4, .ref ta, .ref tb, .ref tc, .ref td, .ref te])), (a, .inl (cI, 41, .inl (cB1 f k)))] H → va_D A [(h, .inr (7, [.ref a])), (t, .inr (8, [.int t0, .int t1, .int 0, .int t3, .int t4, .ref ta, .ref tb, .ref tc, .ref td, .ref te])), (a, .inl (cI, 41, .inl (cB1 f k)))] → va_S A s.heap H locs → lv_has ls 3 [(2, .int (nI k)), (0, .ref h), (1, .ref t)] → W p l e rm_k_begin s m args below meth c H locs 0 0 Q (F0 m 10 ls []) := by
    intro n
    induction n with
    | zero =>
      intro k hk H locs ls hP hD hS hl
      obtain rfl : k = 6 := by omega
      refine lv_iload_n hx hb dX7_begin_10 rfl (lv_at hl 0 rfl) ?_
      refine lv_bipush (v := 6) hx hb dX7_begin_11 (by decide) ?_
      refine lv_icmp_ge (tgt := 64) hx hb dX7_begin_13 (by decide) (fun c_4 => ?_) (fun c_4 => absurd (by decide +kernel) c_4)
      refine lv_iconst (v := 0) hx hb dX7_begin_64 (by decide) ?_
      refine lv_istore_n (lv' := [(2, .int 0), (0, .ref h), (1, .ref t)]) hx hb dX7_begin_65 rfl hl (by decide) rfl (fun ls hl => ?_)
      have lp_5 : ∀ (n j : Nat), j + n = 7 → ∀ (H : Heap) (locs : List Loc) (ls : Array Slot), va_P D classes [(h, .inr (7, [.ref a])), (t, .inr (8, [.int t0, .int t1, .int 0, .int t3, .int t4, .ref ta, .ref tb, .ref tc, .ref td, .ref te])), (a, .inl (cI, 41, .inl (cB2 f j)))] H → va_D A [(h, .inr (7, [.ref a])), (t, .inr (8, [.int t0, .int t1, .int 0, .int t3, .int t4, .ref ta, .ref tb, .ref tc, .ref td, .ref te])), (a, .inl (cI, 41, .inl (cB2 f j)))] → va_S A s.heap H locs → lv_has ls 3 [(2, .int (nI j)), (0, .ref h), (1, .ref t)] → W p l e rm_k_begin s m args below meth c H locs 0 0 Q (F0 m 66 ls []) := by
        intro n
        induction n with
        | zero =>
          intro j hk H locs ls hP hD hS hl
          obtain rfl : j = 7 := by omega
          refine lv_iload_n hx hb dX7_begin_66 rfl (lv_at hl 0 rfl) ?_
          refine lv_bipush (v := 7) hx hb dX7_begin_67 (by decide) ?_
          refine lv_icmp_ge (tgt := 102) hx hb dX7_begin_69 (by decide) (fun c_6 => ?_) (fun c_6 => absurd (by decide +kernel) c_6)
          exact hret () _ _ _ _ dX7_begin_102 trivial (cutP (isC := [0, 2, 1]) hP rfl) (cutD (isC := [0, 2, 1]) hD rfl rfl) hS
        | succ n ih_lp_5 =>
          intro j hk H locs ls hP hD hS hl
          have hkN_lp_5 : j < 7 := by omega
          refine lv_iload_n hx hb dX7_begin_66 rfl (lv_at hl 0 rfl) ?_
          refine lv_bipush (v := 7) hx hb dX7_begin_67 (by decide) ?_
          refine lv_icmp_ge (tgt := 102) hx hb dX7_begin_69 (by decide) (fun c_7 => absurd c_7 (nI_ge hkN_lp_5 (by decide))) (fun c_7 => ?_)
          refine lv_aload_n hx hb dX7_begin_72 rfl (lv_at hl 1 rfl) ?_
          refine va_get (D := D) (ci := 7) (v := .ref a) (C := RX7) (T := TX7) (N := 1) hx hb hts iX7 hown hK hP 0 rfl rfl 0 (by decide) (hts _ wd_15) (fun _ h9 => h9) rfl dX7_begin_73 ?_
          refine lv_bipush (v := 27) hx hb dX7_begin_76 (by decide) ?_
          refine lv_iload_n hx hb dX7_begin_78 rfl (lv_at hl 0 rfl) ?_
          refine lv_iadd hx hb dX7_begin_79 ?_
          refine lv_iconst (v := (-1)) hx hb dX7_begin_80 (by decide) ?_
          refine cNv (wr := [(h, .inr (7, [.ref a])), (t, .inr (8, [.int t0, .int t1, .int 0, .int t3, .int t4, .ref ta, .ref tb, .ref tc, .ref td, .ref te]))]) (rest := []) (k_put a 41 (cB2 f j) (27 + (nI j)) (-1) (by decide)) okS_X9_put 17 rfl hx hb hml hown hts hK hP hD hS hA hN hl.1 [2] [0, 1] rfl rfl rfl rfl (by decide) rfl (Nat.le_of_ble_eq_true rfl) (Nat.le_of_ble_eq_true rfl) (Nat.le_of_ble_eq_true rfl) (Nat.le_of_ble_eq_true rfl) (Nat.le_of_ble_eq_true rfl) dX7_begin_81 (fun u_8 H locs hw_u_8 hP hD hS => ?_)
          have hP : va_P D classes [(h, .inr (7, [.ref a])), (t, .inr (8, [.int t0, .int t1, .int 0, .int t3, .int t4, .ref ta, .ref tb, .ref tc, .ref td, .ref te])), (a, .inl (cI, 41, .inl (putF 41 (cB2 f j) (27 + (nI j)) (-1))))] H := hP
          have hD : va_D A [(h, .inr (7, [.ref a])), (t, .inr (8, [.int t0, .int t1, .int 0, .int t3, .int t4, .ref ta, .ref tb, .ref tc, .ref td, .ref te])), (a, .inl (cI, 41, .inl (putF 41 (cB2 f j) (27 + (nI j)) (-1))))] := hD
          refine lv_aload_n hx hb dX7_begin_84 rfl (lv_at hl 1 rfl) ?_
          refine va_get (D := D) (ci := 7) (v := .ref a) (C := RX7) (T := TX7) (N := 1) hx hb hts iX7 hown hK hP 0 rfl rfl 0 (by decide) (hts _ wd_15) (fun _ h9 => h9) rfl dX7_begin_85 ?_
          refine lv_bipush (v := 34) hx hb dX7_begin_88 (by decide) ?_
          refine lv_iload_n hx hb dX7_begin_90 rfl (lv_at hl 0 rfl) ?_
          refine lv_iadd hx hb dX7_begin_91 ?_
          refine lv_iconst (v := (-1)) hx hb dX7_begin_92 (by decide) ?_
          refine cNv (wr := [(h, .inr (7, [.ref a])), (t, .inr (8, [.int t0, .int t1, .int 0, .int t3, .int t4, .ref ta, .ref tb, .ref tc, .ref td, .ref te]))]) (rest := []) (k_put a 41 (putF 41 (cB2 f j) (27 + (nI j)) (-1)) (34 + (nI j)) (-1) (by decide)) okS_X9_put 17 rfl hx hb hml hown hts hK hP hD hS hA hN hl.1 [2] [0, 1] rfl rfl rfl rfl (by decide) rfl (Nat.le_of_ble_eq_true rfl) (Nat.le_of_ble_eq_true rfl) (Nat.le_of_ble_eq_true rfl) (Nat.le_of_ble_eq_true rfl) (Nat.le_of_ble_eq_true rfl) dX7_begin_93 (fun u_10 H locs hw_u_10 hP hD hS => ?_)
          have hP : va_P D classes [(h, .inr (7, [.ref a])), (t, .inr (8, [.int t0, .int t1, .int 0, .int t3, .int t4, .ref ta, .ref tb, .ref tc, .ref td, .ref te])), (a, .inl (cI, 41, .inl (putF 41 (putF 41 (cB2 f j) (27 + (nI j)) (-1)) (34 + (nI j)) (-1))))] H := hP
          have hD : va_D A [(h, .inr (7, [.ref a])), (t, .inr (8, [.int t0, .int t1, .int 0, .int t3, .int t4, .ref ta, .ref tb, .ref tc, .ref td, .ref te])), (a, .inl (cI, 41, .inl (putF 41 (putF 41 (cB2 f j) (27 + (nI j)) (-1)) (34 + (nI j)) (-1))))] := hD
          refine lv_iinc (v := (nI (j + 1))) (lv' := [(2, .int (nI (j + 1))), (0, .ref h), (1, .ref t)]) hx hb dX7_begin_96 hl (k := 0) rfl (nI_1 j) (by decide) rfl (fun ls hl => ?_)
          refine lv_goto (tgt := 66) hx hb dX7_begin_99 (by decide) ?_
          exact ih_lp_5 (j + 1) (by omega) _ _ ls hP hD hS (lv_sub hl [0, 1, 2] rfl)
      exact lp_5 7 0 (by omega) _ _ ls hP hD hS hl
    | succ n ih_lp_3 =>
      intro k hk H locs ls hP hD hS hl
      have hkN_lp_3 : k < 6 := by omega
      refine lv_iload_n hx hb dX7_begin_10 rfl (lv_at hl 0 rfl) ?_
      refine lv_bipush (v := 6) hx hb dX7_begin_11 (by decide) ?_
      refine lv_icmp_ge (tgt := 64) hx hb dX7_begin_13 (by decide) (fun c_12 => absurd c_12 (nI_ge hkN_lp_3 (by decide))) (fun c_12 => ?_)
      refine lv_aload_n hx hb dX7_begin_16 rfl (lv_at hl 1 rfl) ?_
      refine va_get (D := D) (ci := 7) (v := .ref a) (C := RX7) (T := TX7) (N := 1) hx hb hts iX7 hown hK hP 0 rfl rfl 0 (by decide) (hts _ wd_15) (fun _ h9 => h9) rfl dX7_begin_17 ?_
      refine lv_iconst (v := 2) hx hb dX7_begin_20 (by decide) ?_
      refine lv_iload_n hx hb dX7_begin_21 rfl (lv_at hl 0 rfl) ?_
      refine lv_iadd hx hb dX7_begin_22 ?_
      refine lv_iload_n hx hb dX7_begin_23 rfl (lv_at hl 0 rfl) ?_
      refine lv_aload_n hx hb dX7_begin_24 rfl (lv_at hl 2 rfl) ?_
      refine va_get (D := D) (ci := 8) (v := .int 0) (C := RX8) (T := TX8) (N := 10) hx hb hts iX8 hown hK hP 1 rfl rfl 2 (by decide) (hts _ wd_73) (fun _ h9 => h9) rfl dX7_begin_25 ?_
      refine lv_icmp_ge (tgt := 42) hx hb dX7_begin_28 (by decide) (fun c_13 => ?_) (fun c_13 => absurd (nI_pos' (by omega)) c_13)
      refine lv_iconst (v := 0) hx hb dX7_begin_42 (by decide) ?_
      refine cNv (wr := [(h, .inr (7, [.ref a])), (t, .inr (8, [.int t0, .int t1, .int 0, .int t3, .int t4, .ref ta, .ref tb, .ref tc, .ref td, .ref te]))]) (rest := []) (k_put a 41 (cB1 f k) (2 + (nI k)) 0 (by decide)) okS_X9_put 17 rfl hx hb hml hown hts hK hP hD hS hA hN hl.1 [2] [0, 1] rfl rfl rfl rfl (by decide) rfl (Nat.le_of_ble_eq_true rfl) (Nat.le_of_ble_eq_true rfl) (Nat.le_of_ble_eq_true rfl) (Nat.le_of_ble_eq_true rfl) (Nat.le_of_ble_eq_true rfl) dX7_begin_43 (fun u_14 H locs hw_u_14 hP hD hS => ?_)
      have hP : va_P D classes [(h, .inr (7, [.ref a])), (t, .inr (8, [.int t0, .int t1, .int 0, .int t3, .int t4, .ref ta, .ref tb, .ref tc, .ref td, .ref te])), (a, .inl (cI, 41, .inl (putF 41 (cB1 f k) (2 + (nI k)) 0)))] H := hP
      have hD : va_D A [(h, .inr (7, [.ref a])), (t, .inr (8, [.int t0, .int t1, .int 0, .int t3, .int t4, .ref ta, .ref tb, .ref tc, .ref td, .ref te])), (a, .inl (cI, 41, .inl (putF 41 (cB1 f k) (2 + (nI k)) 0)))] := hD
      refine lv_aload_n hx hb dX7_begin_46 rfl (lv_at hl 1 rfl) ?_
      refine va_get (D := D) (ci := 7) (v := .ref a) (C := RX7) (T := TX7) (N := 1) hx hb hts iX7 hown hK hP 0 rfl rfl 0 (by decide) (hts _ wd_15) (fun _ h9 => h9) rfl dX7_begin_47 ?_
      refine lv_bipush (v := 8) hx hb dX7_begin_50 (by decide) ?_
      refine lv_iload_n hx hb dX7_begin_52 rfl (lv_at hl 0 rfl) ?_
      refine lv_iadd hx hb dX7_begin_53 ?_
      refine lv_iconst (v := (-1)) hx hb dX7_begin_54 (by decide) ?_
      refine cNv (wr := [(h, .inr (7, [.ref a])), (t, .inr (8, [.int t0, .int t1, .int 0, .int t3, .int t4, .ref ta, .ref tb, .ref tc, .ref td, .ref te]))]) (rest := []) (k_put a 41 (putF 41 (cB1 f k) (2 + (nI k)) 0) (8 + (nI k)) (-1) (by decide)) okS_X9_put 17 rfl hx hb hml hown hts hK hP hD hS hA hN hl.1 [2] [0, 1] rfl rfl rfl rfl (by decide) rfl (Nat.le_of_ble_eq_true rfl) (Nat.le_of_ble_eq_true rfl) (Nat.le_of_ble_eq_true rfl) (Nat.le_of_ble_eq_true rfl) (Nat.le_of_ble_eq_true rfl) dX7_begin_55 (fun u_16 H locs hw_u_16 hP hD hS => ?_)
      have hP : va_P D classes [(h, .inr (7, [.ref a])), (t, .inr (8, [.int t0, .int t1, .int 0, .int t3, .int t4, .ref ta, .ref tb, .ref tc, .ref td, .ref te])), (a, .inl (cI, 41, .inl (putF 41 (putF 41 (cB1 f k) (2 + (nI k)) 0) (8 + (nI k)) (-1))))] H := hP
      have hD : va_D A [(h, .inr (7, [.ref a])), (t, .inr (8, [.int t0, .int t1, .int 0, .int t3, .int t4, .ref ta, .ref tb, .ref tc, .ref td, .ref te])), (a, .inl (cI, 41, .inl (putF 41 (putF 41 (cB1 f k) (2 + (nI k)) 0) (8 + (nI k)) (-1))))] := hD
      refine lv_iinc (v := (nI (k + 1))) (lv' := [(2, .int (nI (k + 1))), (0, .ref h), (1, .ref t)]) hx hb dX7_begin_58 hl (k := 0) rfl (nI_1 k) (by decide) rfl (fun ls hl => ?_)
      refine lv_goto (tgt := 10) hx hb dX7_begin_61 (by decide) ?_
      exact ih_lp_3 (k + 1) (by omega) _ _ ls hP hD hS (lv_sub hl [0, 1, 2] rfl)
  exact lp_3 6 0 (by omega) _ _ ls hP hD hS hl
end
section
theorem dX9_init_0 : decode cX9_init 0 = .ok (.aload_n 0, 1) := by decide +kernel
theorem dX9_init_1 : decode cX9_init 1 = .ok (.invokespecial 1, 3) := by decide +kernel
theorem wd_74 : Cond.methodLink RX9 1 objectInit ∈ BG := BG_in (by decide +kernel) rfl
theorem dX9_init_4 : decode cX9_init 4 = .ok (.aload_n 0, 1) := by decide +kernel
theorem dX9_init_5 : decode cX9_init 5 = .ok (.sipush 240, 3) := by decide +kernel
theorem dX9_init_8 : decode cX9_init 8 = .ok (.newarray .int, 2) := by decide +kernel
theorem iX9_t : ∀ w ∈ wsX90, w ∈ lw_tbl ∧ goodWord w = true := by decide +kernel
theorem iX9 : ∀ w ∈ wsX90, w ∈ BG := fun w h => BG_in (iX9_t w h).1 (iX9_t w h).2
theorem wd_75 : Cond.fieldLink RX9 9 "QuarrelBridges" "text" "[I" ∈ BG := BG_in (by decide +kernel) rfl
theorem dX9_init_10 : decode cX9_init 10 = .ok (.putfield 9, 3) := by decide +kernel
theorem dX9_init_13 : decode cX9_init 13 = .ok (.aload_n 0, 1) := by decide +kernel
theorem dX9_init_14 : decode cX9_init 14 = .ok (.iconst 0, 1) := by decide +kernel
theorem wd_76 : Cond.fieldLink RX9 13 "QuarrelBridges" "letters" "I" ∈ BG := BG_in (by decide +kernel) rfl
theorem dX9_init_15 : decode cX9_init 15 = .ok (.putfield 13, 3) := by decide +kernel
theorem dX9_init_18 : decode cX9_init 18 = .ok (.aload_n 0, 1) := by decide +kernel
theorem dX9_init_19 : decode cX9_init 19 = .ok (.iconst (-1), 1) := by decide +kernel
theorem wd_77 : Cond.fieldLink RX9 17 "QuarrelBridges" "faultAt" "I" ∈ BG := BG_in (by decide +kernel) rfl
theorem dX9_init_20 : decode cX9_init 20 = .ok (.putfield 17, 3) := by decide +kernel
theorem dX9_init_23 : decode cX9_init 23 = .ok (.aload_n 0, 1) := by decide +kernel
theorem wd_78 : Cond.classLink RX9 20 RX5 ∈ BG := BG_in (by decide +kernel) rfl
theorem wd_79 : Cond.instantiable RX5 7 ∈ BG := BG_in (by decide +kernel) rfl
theorem wd_80 : Cond.initialized RX5 ∈ BG := BG_in (by decide +kernel) rfl
theorem dX9_init_24 : decode cX9_init 24 = .ok (.new 20, 3) := by decide +kernel
theorem dX9_init_27 : decode cX9_init 27 = .ok (.dup, 1) := by decide +kernel
theorem dX9_init_28 : decode cX9_init 28 = .ok (.invokespecial 22, 3) := by decide +kernel
theorem wd_81 : Cond.code yX5_init cX5_init 1 none ∈ BG := BG_in (by decide +kernel) rfl
theorem wd_82 : Cond.instanceMethod yX5_init ∈ BG := BG_in (by decide +kernel) rfl
theorem okI_X5_init : okI yX5_init cX5_init 1 0 := ⟨⟨wd_81, wd_80, by decide +kernel⟩, wd_82, rfl⟩
theorem wd_83 : Cond.fieldLink RX9 23 "QuarrelBridges" "reader" "LQuarrelBridges$Reader;" ∈ BG := BG_in (by decide +kernel) rfl
theorem dX9_init_31 : decode cX9_init 31 = .ok (.putfield 23, 3) := by decide +kernel
theorem dX9_init_34 : decode cX9_init 34 = .ok (.aload_n 0, 1) := by decide +kernel
theorem wd_84 : Cond.classLink RX9 27 RX8 ∈ BG := BG_in (by decide +kernel) rfl
theorem wd_85 : Cond.instantiable RX8 10 ∈ BG := BG_in (by decide +kernel) rfl
theorem wd_86 : Cond.initialized RX8 ∈ BG := BG_in (by decide +kernel) rfl
theorem dX9_init_35 : decode cX9_init 35 = .ok (.new 27, 3) := by decide +kernel
theorem dX9_init_38 : decode cX9_init 38 = .ok (.dup, 1) := by decide +kernel
theorem dX9_init_39 : decode cX9_init 39 = .ok (.invokespecial 29, 3) := by decide +kernel
theorem wd_87 : Cond.code yX8_init cX8_init 1 none ∈ BG := BG_in (by decide +kernel) rfl
theorem wd_88 : Cond.instanceMethod yX8_init ∈ BG := BG_in (by decide +kernel) rfl
theorem okI_X8_init : okI yX8_init cX8_init 1 0 := ⟨⟨wd_87, wd_86, by decide +kernel⟩, wd_88, rfl⟩
theorem wd_89 : Cond.fieldLink RX9 30 "QuarrelBridges" "town" "LQuarrelBridges$Town;" ∈ BG := BG_in (by decide +kernel) rfl
theorem dX9_init_42 : decode cX9_init 42 = .ok (.putfield 30, 3) := by decide +kernel
theorem dX9_init_45 : decode cX9_init 45 = .ok (.aload_n 0, 1) := by decide +kernel
theorem dX9_init_46 : decode cX9_init 46 = .ok (.new 27, 3) := by decide +kernel
theorem dX9_init_49 : decode cX9_init 49 = .ok (.dup, 1) := by decide +kernel
theorem dX9_init_50 : decode cX9_init 50 = .ok (.invokespecial 29, 3) := by decide +kernel
theorem wd_90 : Cond.fieldLink RX9 34 "QuarrelBridges" "draft" "LQuarrelBridges$Town;" ∈ BG := BG_in (by decide +kernel) rfl
theorem dX9_init_53 : decode cX9_init 53 = .ok (.putfield 34, 3) := by decide +kernel
theorem dX9_init_56 : decode cX9_init 56 = .ok (.aload_n 0, 1) := by decide +kernel
theorem wd_91 : Cond.classLink RX9 37 RX7 ∈ BG := BG_in (by decide +kernel) rfl
theorem wd_92 : Cond.instantiable RX7 1 ∈ BG := BG_in (by decide +kernel) rfl
theorem wd_93 : Cond.initialized RX7 ∈ BG := BG_in (by decide +kernel) rfl
theorem dX9_init_57 : decode cX9_init 57 = .ok (.new 37, 3) := by decide +kernel
theorem dX9_init_60 : decode cX9_init 60 = .ok (.dup, 1) := by decide +kernel
theorem dX9_init_61 : decode cX9_init 61 = .ok (.invokespecial 39, 3) := by decide +kernel
theorem wd_94 : Cond.code yX7_init cX7_init 1 none ∈ BG := BG_in (by decide +kernel) rfl
theorem wd_95 : Cond.instanceMethod yX7_init ∈ BG := BG_in (by decide +kernel) rfl
theorem okI_X7_init : okI yX7_init cX7_init 1 0 := ⟨⟨wd_94, wd_93, by decide +kernel⟩, wd_95, rfl⟩
theorem wd_96 : Cond.fieldLink RX9 40 "QuarrelBridges" "now" "LQuarrelBridges$State;" ∈ BG := BG_in (by decide +kernel) rfl
theorem dX9_init_64 : decode cX9_init 64 = .ok (.putfield 40, 3) := by decide +kernel
theorem dX9_init_67 : decode cX9_init 67 = .ok (.aload_n 0, 1) := by decide +kernel
theorem wd_97 : Cond.classLink RX9 44 RX2 ∈ BG := BG_in (by decide +kernel) rfl
theorem wd_98 : Cond.instantiable RX2 3 ∈ BG := BG_in (by decide +kernel) rfl
theorem wd_99 : Cond.initialized RX2 ∈ BG := BG_in (by decide +kernel) rfl
theorem dX9_init_68 : decode cX9_init 68 = .ok (.new 44, 3) := by decide +kernel
theorem dX9_init_71 : decode cX9_init 71 = .ok (.dup, 1) := by decide +kernel
theorem dX9_init_72 : decode cX9_init 72 = .ok (.invokespecial 46, 3) := by decide +kernel
theorem wd_100 : Cond.code yX2_init cX2_init 1 none ∈ BG := BG_in (by decide +kernel) rfl
theorem wd_101 : Cond.instanceMethod yX2_init ∈ BG := BG_in (by decide +kernel) rfl
theorem okI_X2_init : okI yX2_init cX2_init 1 0 := ⟨⟨wd_100, wd_99, by decide +kernel⟩, wd_101, rfl⟩
theorem wd_102 : Cond.fieldLink RX9 47 "QuarrelBridges" "past" "LQuarrelBridges$History;" ∈ BG := BG_in (by decide +kernel) rfl
theorem dX9_init_75 : decode cX9_init 75 = .ok (.putfield 47, 3) := by decide +kernel
theorem dX9_init_78 : decode cX9_init 78 = .ok (.aload_n 0, 1) := by decide +kernel
theorem wd_103 : Cond.classLink RX9 51 RX6 ∈ BG := BG_in (by decide +kernel) rfl
theorem dX9_init_79 : decode cX9_init 79 = .ok (.new 51, 3) := by decide +kernel
theorem dX9_init_82 : decode cX9_init 82 = .ok (.dup, 1) := by decide +kernel
theorem dX9_init_83 : decode cX9_init 83 = .ok (.iconst 2, 1) := by decide +kernel
theorem dX9_init_84 : decode cX9_init 84 = .ok (.invokespecial 53, 3) := by decide +kernel
theorem wd_104 : Cond.methodLink RX9 53 yX6_init ∈ BG := BG_in (by decide +kernel) rfl
theorem wd_105 : Cond.fieldLink RX9 56 "QuarrelBridges" "images" "LQuarrelBridges$Shelf;" ∈ BG := BG_in (by decide +kernel) rfl
theorem dX9_init_87 : decode cX9_init 87 = .ok (.putfield 56, 3) := by decide +kernel
theorem dX9_init_90 : decode cX9_init 90 = .ok (.aload_n 0, 1) := by decide +kernel
theorem dX9_init_91 : decode cX9_init 91 = .ok (.iconst 2, 1) := by decide +kernel
theorem dX9_init_92 : decode cX9_init 92 = .ok (.newarray .int, 2) := by decide +kernel
theorem wd_106 : Cond.fieldLink RX9 60 "QuarrelBridges" "imageSeeds" "[I" ∈ BG := BG_in (by decide +kernel) rfl
theorem dX9_init_94 : decode cX9_init 94 = .ok (.putfield 60, 3) := by decide +kernel
theorem dX9_init_97 : decode cX9_init 97 = .ok (.aload_n 0, 1) := by decide +kernel
theorem dX9_init_98 : decode cX9_init 98 = .ok (.iconst 0, 1) := by decide +kernel
theorem wd_107 : Cond.fieldLink RX9 63 "QuarrelBridges" "imagesKept" "I" ∈ BG := BG_in (by decide +kernel) rfl
theorem dX9_init_99 : decode cX9_init 99 = .ok (.putfield 63, 3) := by decide +kernel
theorem dX9_init_102 : decode cX9_init 102 = .ok (.aload_n 0, 1) := by decide +kernel
theorem wd_108 : Cond.classLink RX9 66 RX0 ∈ BG := BG_in (by decide +kernel) rfl
theorem wd_109 : Cond.instantiable RX0 3 ∈ BG := BG_in (by decide +kernel) rfl
theorem wd_110 : Cond.initialized RX0 ∈ BG := BG_in (by decide +kernel) rfl
theorem dX9_init_103 : decode cX9_init 103 = .ok (.new 66, 3) := by decide +kernel
theorem dX9_init_106 : decode cX9_init 106 = .ok (.dup, 1) := by decide +kernel
theorem dX9_init_107 : decode cX9_init 107 = .ok (.invokespecial 68, 3) := by decide +kernel
theorem wd_111 : Cond.code yX0_init cX0_init 1 none ∈ BG := BG_in (by decide +kernel) rfl
theorem wd_112 : Cond.instanceMethod yX0_init ∈ BG := BG_in (by decide +kernel) rfl
theorem okI_X0_init : okI yX0_init cX0_init 1 0 := ⟨⟨wd_111, wd_110, by decide +kernel⟩, wd_112, rfl⟩
theorem wd_113 : Cond.fieldLink RX9 69 "QuarrelBridges" "book" "LQuarrelBridges$Book;" ∈ BG := BG_in (by decide +kernel) rfl
theorem dX9_init_110 : decode cX9_init 110 = .ok (.putfield 69, 3) := by decide +kernel
theorem dX9_init_113 : decode cX9_init 113 = .ok (.aload_n 0, 1) := by decide +kernel
theorem dX9_init_114 : decode cX9_init 114 = .ok (.iconst 0, 1) := by decide +kernel
theorem wd_114 : Cond.fieldLink RX9 73 "QuarrelBridges" "seed" "I" ∈ BG := BG_in (by decide +kernel) rfl
theorem dX9_init_115 : decode cX9_init 115 = .ok (.putfield 73, 3) := by decide +kernel
theorem dX9_init_118 : decode cX9_init 118 = .ok (.aload_n 0, 1) := by decide +kernel
theorem wd_115 : Cond.classLink RX9 76 RX4 ∈ BG := BG_in (by decide +kernel) rfl
theorem wd_116 : Cond.instantiable RX4 5 ∈ BG := BG_in (by decide +kernel) rfl
theorem wd_117 : Cond.initialized RX4 ∈ BG := BG_in (by decide +kernel) rfl
theorem dX9_init_119 : decode cX9_init 119 = .ok (.new 76, 3) := by decide +kernel
theorem dX9_init_122 : decode cX9_init 122 = .ok (.dup, 1) := by decide +kernel
theorem dX9_init_123 : decode cX9_init 123 = .ok (.invokespecial 78, 3) := by decide +kernel
theorem wd_118 : Cond.code yX4_init cX4_init 1 none ∈ BG := BG_in (by decide +kernel) rfl
theorem wd_119 : Cond.instanceMethod yX4_init ∈ BG := BG_in (by decide +kernel) rfl
theorem okI_X4_init : okI yX4_init cX4_init 1 0 := ⟨⟨wd_118, wd_117, by decide +kernel⟩, wd_119, rfl⟩
theorem wd_120 : Cond.fieldLink RX9 79 "QuarrelBridges" "quarrel" "LQuarrelBridges$Quarrel;" ∈ BG := BG_in (by decide +kernel) rfl
theorem dX9_init_126 : decode cX9_init 126 = .ok (.putfield 79, 3) := by decide +kernel
theorem dX9_init_129 : decode cX9_init 129 = .ok (.aload_n 0, 1) := by decide +kernel
theorem wd_121 : Cond.classLink RX9 83 RX3 ∈ BG := BG_in (by decide +kernel) rfl
theorem wd_122 : Cond.instantiable RX3 3 ∈ BG := BG_in (by decide +kernel) rfl
theorem wd_123 : Cond.initialized RX3 ∈ BG := BG_in (by decide +kernel) rfl
theorem dX9_init_130 : decode cX9_init 130 = .ok (.new 83, 3) := by decide +kernel
theorem dX9_init_133 : decode cX9_init 133 = .ok (.dup, 1) := by decide +kernel
theorem dX9_init_134 : decode cX9_init 134 = .ok (.invokespecial 85, 3) := by decide +kernel
theorem wd_124 : Cond.code yX3_init cX3_init 1 none ∈ BG := BG_in (by decide +kernel) rfl
theorem wd_125 : Cond.instanceMethod yX3_init ∈ BG := BG_in (by decide +kernel) rfl
theorem okI_X3_init : okI yX3_init cX3_init 1 0 := ⟨⟨wd_124, wd_123, by decide +kernel⟩, wd_125, rfl⟩
theorem wd_126 : Cond.fieldLink RX9 86 "QuarrelBridges" "pairing" "LQuarrelBridges$Pairing;" ∈ BG := BG_in (by decide +kernel) rfl
theorem dX9_init_137 : decode cX9_init 137 = .ok (.putfield 86, 3) := by decide +kernel
theorem dX9_init_140 : decode cX9_init 140 = .ok (.aload_n 0, 1) := by decide +kernel
theorem wd_127 : Cond.classLink RX9 90 RX1 ∈ BG := BG_in (by decide +kernel) rfl
theorem wd_128 : Cond.instantiable RX1 10 ∈ BG := BG_in (by decide +kernel) rfl
theorem wd_129 : Cond.initialized RX1 ∈ BG := BG_in (by decide +kernel) rfl
theorem dX9_init_141 : decode cX9_init 141 = .ok (.new 90, 3) := by decide +kernel
theorem dX9_init_144 : decode cX9_init 144 = .ok (.dup, 1) := by decide +kernel
theorem dX9_init_145 : decode cX9_init 145 = .ok (.invokespecial 92, 3) := by decide +kernel
theorem wd_130 : Cond.code yX1_init cX1_init 1 none ∈ BG := BG_in (by decide +kernel) rfl
theorem wd_131 : Cond.instanceMethod yX1_init ∈ BG := BG_in (by decide +kernel) rfl
theorem okI_X1_init : okI yX1_init cX1_init 1 0 := ⟨⟨wd_130, wd_129, by decide +kernel⟩, wd_131, rfl⟩
theorem wd_132 : Cond.fieldLink RX9 93 "QuarrelBridges" "convoy" "LQuarrelBridges$Convoy;" ∈ BG := BG_in (by decide +kernel) rfl
theorem dX9_init_148 : decode cX9_init 148 = .ok (.putfield 93, 3) := by decide +kernel
theorem dX9_init_151 : decode cX9_init 151 = .ok (.aload_n 0, 1) := by decide +kernel
theorem dX9_init_152 : decode cX9_init 152 = .ok (.bipush 30, 2) := by decide +kernel
theorem dX9_init_154 : decode cX9_init 154 = .ok (.newarray .int, 2) := by decide +kernel
theorem wd_133 : Cond.fieldLink RX9 97 "QuarrelBridges" "fitting" "[I" ∈ BG := BG_in (by decide +kernel) rfl
theorem dX9_init_156 : decode cX9_init 156 = .ok (.putfield 97, 3) := by decide +kernel
theorem dX9_init_159 : decode cX9_init 159 = .ok (.aload_n 0, 1) := by decide +kernel
theorem dX9_init_160 : decode cX9_init 160 = .ok (.getfield 40, 3) := by decide +kernel
theorem dX9_init_163 : decode cX9_init 163 = .ok (.aload_n 0, 1) := by decide +kernel
theorem dX9_init_164 : decode cX9_init 164 = .ok (.getfield 30, 3) := by decide +kernel
theorem dX9_init_167 : decode cX9_init 167 = .ok (.invokevirtual 100, 3) := by decide +kernel
theorem wd_134 : Cond.methodLink RX9 100 yX7_begin ∈ BG := BG_in (by decide +kernel) rfl
theorem wd_135 : Cond.code yX7_begin cX7_begin 3 none ∈ BG := BG_in (by decide +kernel) rfl
theorem wd_136 : Cond.instanceMethod yX7_begin ∈ BG := BG_in (by decide +kernel) rfl
theorem wd_137 : Cond.selects RX7 yX7_begin yX7_begin ∈ BG := BG_in (by decide +kernel) rfl
theorem okV_X7_begin : okV yX7_begin cX7_begin 3 none 1 := ⟨⟨wd_135, wd_93, by decide +kernel⟩, wd_136, wd_137⟩
theorem dX9_init_170 : decode cX9_init 170 = .ok (.return_, 1) := by decide +kernel
def rm_k_QB_init : Room := { frames := 3, cells := 39, slots := 2022, locals := 71 }
set_option maxHeartbeats 4000000 in
set_option maxRecDepth 100000 in
theorem k_QB_init {l : Launch} {D : va_G} {cI cZ : ClassId} {sz : Nat} (h : Nat) : KV l yX9_init cX9_init 1 rm_k_QB_init D cI cZ [.ref h] sz [(h, .inr (9, [.null, .int 0, .int 0, .null, .null, .null, .null, .null, .null, .null, .int 0, .null, .int 0, .null, .null, .null, .null]))] (fun (_ : Nat × Nat × Nat × Nat × Nat × Nat × Nat × Nat × Nat × Nat × Nat × Nat × Nat × Nat × Nat × Nat × Nat × Nat × Nat × Nat × Nat × Nat × Nat × Nat × Nat × Nat × Nat × Nat × Nat × Nat × Nat × Nat × Nat × Nat × Nat × Nat × Nat × Nat × Nat) => True) (fun (u : Nat × Nat × Nat × Nat × Nat × Nat × Nat × Nat × Nat × Nat × Nat × Nat × Nat × Nat × Nat × Nat × Nat × Nat × Nat × Nat × Nat × Nat × Nat × Nat × Nat × Nat × Nat × Nat × Nat × Nat × Nat × Nat × Nat × Nat × Nat × Nat × Nat × Nat × Nat) => [(h, .inr (9, [.ref u.1, .int 0, .int (-1), .ref u.2.1, .ref u.2.2.2.1, .ref u.2.2.2.2.2.2.2.2.2.1, .ref u.2.2.2.2.2.2.2.2.2.2.2.2.2.2.2.1, .ref u.2.2.2.2.2.2.2.2.2.2.2.2.2.2.2.2.2.1, .ref u.2.2.2.2.2.2.2.2.2.2.2.2.2.2.2.2.2.2.2.2.1, .ref u.2.2.2.2.2.2.2.2.2.2.2.2.2.2.2.2.2.2.2.2.2.2.1, .int 0, .ref u.2.2.2.2.2.2.2.2.2.2.2.2.2.2.2.2.2.2.2.2.2.2.2.1, .int 0, .ref u.2.2.2.2.2.2.2.2.2.2.2.2.2.2.2.2.2.2.2.2.2.2.2.2.2.2.1, .ref u.2.2.2.2.2.2.2.2.2.2.2.2.2.2.2.2.2.2.2.2.2.2.2.2.2.2.2.1, .ref u.2.2.2.2.2.2.2.2.2.2.2.2.2.2.2.2.2.2.2.2.2.2.2.2.2.2.2.2.2.2.2.1, .ref u.2.2.2.2.2.2.2.2.2.2.2.2.2.2.2.2.2.2.2.2.2.2.2.2.2.2.2.2.2.2.2.2.2.2.2.2.2.2])), (u.1, .inl (cI, 240, .inl z0)), (u.2.1, .inr (5, [.int 0, .int (-1), .ref u.2.2.1, .int 0, .int 0, .int 0, .int 0])), (u.2.2.1, .inl (cI, 0, .inl z0)), (u.2.2.2.2.1, .inl (cI, 6, .inl z0)), (u.2.2.2.2.2.1, .inl (cI, 6, .inl z0)), (u.2.2.2.2.2.2.1, .inl (cI, 30, .inl z0)), (u.2.2.2.2.2.2.2.1, .inl (cI, 7, .inl z0)), (u.2.2.2.2.2.2.2.2.1, .inl (cI, 7, .inl z0)), (u.2.2.2.2.2.2.2.2.2.1, .inr (8, [.int 0, .int 1, .int 0, .int 0, .int 0, .ref u.2.2.2.2.2.2.2.2.2.2.1, .ref u.2.2.2.2.2.2.2.2.2.2.2.1, .ref u.2.2.2.2.2.2.2.2.2.2.2.2.1, .ref u.2.2.2.2.2.2.2.2.2.2.2.2.2.1, .ref u.2.2.2.2.2.2.2.2.2.2.2.2.2.2.1])), (u.2.2.2.2.2.2.2.2.2.2.1, .inl (cI, 6, .inl z0)), (u.2.2.2.2.2.2.2.2.2.2.2.1, .inl (cI, 6, .inl z0)), (u.2.2.2.2.2.2.2.2.2.2.2.2.1, .inl (cI, 30, .inl z0)), (u.2.2.2.2.2.2.2.2.2.2.2.2.2.1, .inl (cI, 7, .inl z0)), (u.2.2.2.2.2.2.2.2.2.2.2.2.2.2.1, .inl (cI, 7, .inl z0)), (u.2.2.2.2.2.2.2.2.2.2.2.2.2.2.2.2.2.1, .inr (2, [.ref u.2.2.2.2.2.2.2.2.2.2.2.2.2.2.2.2.2.2.1, .int 0, .int 0])), (u.2.2.2.2.2.2.2.2.2.2.2.2.2.2.2.2.2.2.1, .inr (6, [.int 20, .ref u.2.2.2.2.2.2.2.2.2.2.2.2.2.2.2.2.2.2.2.1])), (u.2.2.2.2.2.2.2.2.2.2.2.2.2.2.2.2.2.2.2.1, .inl (cI, 820, .inl z0)), (u.2.2.2.2.2.2.2.2.2.2.2.2.2.2.2.2.2.2.2.2.1, .inr (6, [.int 2, .ref u.2.2.2.2.2.2.2.2.2.2.2.2.2.2.2.2.2.2.2.2.2.1])), (u.2.2.2.2.2.2.2.2.2.2.2.2.2.2.2.2.2.2.2.2.2.1, .inl (cI, 82, .inl z0)), (u.2.2.2.2.2.2.2.2.2.2.2.2.2.2.2.2.2.2.2.2.2.2.1, .inl (cI, 2, .inl z0)), (u.2.2.2.2.2.2.2.2.2.2.2.2.2.2.2.2.2.2.2.2.2.2.2.1, .inr (0, [.int 0, .ref u.2.2.2.2.2.2.2.2.2.2.2.2.2.2.2.2.2.2.2.2.2.2.2.2.1, .ref u.2.2.2.2.2.2.2.2.2.2.2.2.2.2.2.2.2.2.2.2.2.2.2.2.2.1])), (u.2.2.2.2.2.2.2.2.2.2.2.2.2.2.2.2.2.2.2.2.2.2.2.2.1, .inl (cI, 15, .inl z0)), (u.2.2.2.2.2.2.2.2.2.2.2.2.2.2.2.2.2.2.2.2.2.2.2.2.2.1, .inl (cI, 15, .inl z0)), (u.2.2.2.2.2.2.2.2.2.2.2.2.2.2.2.2.2.2.2.2.2.2.2.2.2.2.1, .inr (4, [.int 0, .int 0, .int 0, .int 0, .int 0])), (u.2.2.2.2.2.2.2.2.2.2.2.2.2.2.2.2.2.2.2.2.2.2.2.2.2.2.2.1, .inr (3, [.ref u.2.2.2.2.2.2.2.2.2.2.2.2.2.2.2.2.2.2.2.2.2.2.2.2.2.2.2.2.1, .ref u.2.2.2.2.2.2.2.2.2.2.2.2.2.2.2.2.2.2.2.2.2.2.2.2.2.2.2.2.2.1, .ref u.2.2.2.2.2.2.2.2.2.2.2.2.2.2.2.2.2.2.2.2.2.2.2.2.2.2.2.2.2.2.1])), (u.2.2.2.2.2.2.2.2.2.2.2.2.2.2.2.2.2.2.2.2.2.2.2.2.2.2.2.2.1, .inl (cI, 36, .inl z0)), (u.2.2.2.2.2.2.2.2.2.2.2.2.2.2.2.2.2.2.2.2.2.2.2.2.2.2.2.2.2.1, .inl (cI, 64, .inl z0)), (u.2.2.2.2.2.2.2.2.2.2.2.2.2.2.2.2.2.2.2.2.2.2.2.2.2.2.2.2.2.2.1, .inl (cI, 64, .inl z0)), (u.2.2.2.2.2.2.2.2.2.2.2.2.2.2.2.2.2.2.2.2.2.2.2.2.2.2.2.2.2.2.2.1, .inr (1, [.int 0, .ref u.2.2.2.2.2.2.2.2.2.2.2.2.2.2.2.2.2.2.2.2.2.2.2.2.2.2.2.2.2.2.2.2.1, .ref u.2.2.2.2.2.2.2.2.2.2.2.2.2.2.2.2.2.2.2.2.2.2.2.2.2.2.2.2.2.2.2.2.2.1, .ref u.2.2.2.2.2.2.2.2.2.2.2.2.2.2.2.2.2.2.2.2.2.2.2.2.2.2.2.2.2.2.2.2.2.2.1, .ref u.2.2.2.2.2.2.2.2.2.2.2.2.2.2.2.2.2.2.2.2.2.2.2.2.2.2.2.2.2.2.2.2.2.2.2.1, .ref u.2.2.2.2.2.2.2.2.2.2.2.2.2.2.2.2.2.2.2.2.2.2.2.2.2.2.2.2.2.2.2.2.2.2.2.2.1, .ref u.2.2.2.2.2.2.2.2.2.2.2.2.2.2.2.2.2.2.2.2.2.2.2.2.2.2.2.2.2.2.2.2.2.2.2.2.2.1, .int 0, .int 0, .null])), (u.2.2.2.2.2.2.2.2.2.2.2.2.2.2.2.2.2.2.2.2.2.2.2.2.2.2.2.2.2.2.2.2.1, .inl (cI, 7, .inl z0)), (u.2.2.2.2.2.2.2.2.2.2.2.2.2.2.2.2.2.2.2.2.2.2.2.2.2.2.2.2.2.2.2.2.2.1, .inl (cI, 6, .inl z0)), (u.2.2.2.2.2.2.2.2.2.2.2.2.2.2.2.2.2.2.2.2.2.2.2.2.2.2.2.2.2.2.2.2.2.2.1, .inl (cI, 48, .inl z0)), (u.2.2.2.2.2.2.2.2.2.2.2.2.2.2.2.2.2.2.2.2.2.2.2.2.2.2.2.2.2.2.2.2.2.2.2.1, .inl (cI, 128, .inl z0)), (u.2.2.2.2.2.2.2.2.2.2.2.2.2.2.2.2.2.2.2.2.2.2.2.2.2.2.2.2.2.2.2.2.2.2.2.2.1, .inl (cI, 128, .inl z0)), (u.2.2.2.2.2.2.2.2.2.2.2.2.2.2.2.2.2.2.2.2.2.2.2.2.2.2.2.2.2.2.2.2.2.2.2.2.2.1, .inl (cI, 128, .inl z0)), (u.2.2.2.2.2.2.2.2.2.2.2.2.2.2.2.2.2.2.2.2.2.2.2.2.2.2.2.2.2.2.2.2.2.2.2.2.2.2, .inl (cI, 30, .inl z0)), (u.2.2.2.2.2.2.2.2.2.2.2.2.2.2.2.1, .inr (7, [.ref u.2.2.2.2.2.2.2.2.2.2.2.2.2.2.2.2.1])), (u.2.2.2.2.2.2.2.2.2.2.2.2.2.2.2.2.1, .inl (cI, 41, .inl (cB2 z0 7))), (u.2.2.2.1, .inr (8, [.int 0, .int 1, .int 0, .int 0, .int 0, .ref u.2.2.2.2.1, .ref u.2.2.2.2.2.1, .ref u.2.2.2.2.2.2.1, .ref u.2.2.2.2.2.2.2.1, .ref u.2.2.2.2.2.2.2.2.1]))]) := by
  refine KV.go rfl (Nat.le_of_ble_eq_true rfl) ?_
  intro p e s m args below meth c ls A Q hx hb hml hts hown hin hP hK hD hS hA hN hl hret
  have hl : lv_has ls 1 [(0, .ref h)] := hl
  refine lv_aload_n hx hb dX9_init_0 rfl (lv_at hl 0 rfl) ?_
  refine W.objInit hx hb hown (hts _ wd_74) (hts _ wd_1) (hts _ wd_2) rfl (by rw [hml]; exact hl.1) rfl dX9_init_1 (Nat.le_of_ble_eq_true rfl) (Nat.le_of_ble_eq_true rfl) ?_
  refine W.eq (g2 := F0 m 4 ls []) rfl ?_
  refine lv_aload_n hx hb dX9_init_4 rfl (lv_at hl 0 rfl) ?_
  refine lv_sipush (v := 240) hx hb dX9_init_5 (by decide) ?_
  refine va_newa (atype := .int) (a0 := (240, .inl z0)) (N' := 240) (ty := .int) hx hb (hts _ wd_8) rfl hK hP hD hS hA (fun cA => z0_int 240 cA) (by decide +kernel) (by decide +kernel) (by decide +kernel) (Nat.le_of_ble_eq_true rfl) (Nat.le_of_ble_eq_true rfl) dX9_init_8 (fun q_1 cA_q_1 H hKn hP hD hS => ?_)
  obtain rfl := (K_int hKn).symm
  have hP : va_P D classes [(h, .inr (9, [.null, .int 0, .int 0, .null, .null, .null, .null, .null, .null, .null, .int 0, .null, .int 0, .null, .null, .null, .null])), (q_1, .inl (cI, 240, .inl z0))] H := hP
  have hD : va_D A [(h, .inr (9, [.null, .int 0, .int 0, .null, .null, .null, .null, .null, .null, .null, .int 0, .null, .int 0, .null, .null, .null, .null])), (q_1, .inl (cI, 240, .inl z0))] := hD
  refine W.widen (k := 1) (n := 240) (Nat.le_of_ble_eq_true rfl) (Nat.le_of_ble_eq_true rfl) ?_
  refine va_putF (D := D) (ci := 9) (v := .ref q_1) (ty := (.array .int)) (C := RX9) (T := TX9) (N := 17) hx hb hts iX9 tyX9 tyX9_ok nmX9 hown hK hP hD hS 0 rfl rfl 0 (by decide) (hts _ wd_75) (fun _ h9 => h9) rfl hin rfl (by decide +kernel) rfl rfl (Nat.le_of_ble_eq_true rfl) dX9_init_10 (fun H locs hP hD hS => ?_)
  have hP : va_P D classes [(h, .inr (9, [.ref q_1, .int 0, .int 0, .null, .null, .null, .null, .null, .null, .null, .int 0, .null, .int 0, .null, .null, .null, .null])), (q_1, .inl (cI, 240, .inl z0))] H := hP
  have hD : va_D A [(h, .inr (9, [.ref q_1, .int 0, .int 0, .null, .null, .null, .null, .null, .null, .null, .int 0, .null, .int 0, .null, .null, .null, .null])), (q_1, .inl (cI, 240, .inl z0))] := hD
  refine lv_aload_n hx hb dX9_init_13 rfl (lv_at hl 0 rfl) ?_
  refine lv_iconst (v := 0) hx hb dX9_init_14 (by decide) ?_
  refine va_put (D := D) (ci := 9) (v := .int 0) (ty := .int) (C := RX9) (T := TX9) (N := 17) hx hb hts iX9 tyX9 tyX9_ok nmX9 hown hK hP hD hS 0 rfl rfl 1 (by decide) (hts _ wd_76) (fun _ h9 => h9) rfl (by decide +kernel) rfl rfl (Nat.le_of_ble_eq_true rfl) dX9_init_15 (fun H locs hP hD hS => ?_)
  have hP : va_P D classes [(h, .inr (9, [.ref q_1, .int 0, .int 0, .null, .null, .null, .null, .null, .null, .null, .int 0, .null, .int 0, .null, .null, .null, .null])), (q_1, .inl (cI, 240, .inl z0))] H := hP
  have hD : va_D A [(h, .inr (9, [.ref q_1, .int 0, .int 0, .null, .null, .null, .null, .null, .null, .null, .int 0, .null, .int 0, .null, .null, .null, .null])), (q_1, .inl (cI, 240, .inl z0))] := hD
  refine lv_aload_n hx hb dX9_init_18 rfl (lv_at hl 0 rfl) ?_
  refine lv_iconst (v := (-1)) hx hb dX9_init_19 (by decide) ?_
  refine va_put (D := D) (ci := 9) (v := .int (-1)) (ty := .int) (C := RX9) (T := TX9) (N := 17) hx hb hts iX9 tyX9 tyX9_ok nmX9 hown hK hP hD hS 0 rfl rfl 2 (by decide) (hts _ wd_77) (fun _ h9 => h9) rfl (by decide +kernel) rfl rfl (Nat.le_of_ble_eq_true rfl) dX9_init_20 (fun H locs hP hD hS => ?_)
  have hP : va_P D classes [(h, .inr (9, [.ref q_1, .int 0, .int (-1), .null, .null, .null, .null, .null, .null, .null, .int 0, .null, .int 0, .null, .null, .null, .null])), (q_1, .inl (cI, 240, .inl z0))] H := hP
  have hD : va_D A [(h, .inr (9, [.ref q_1, .int 0, .int (-1), .null, .null, .null, .null, .null, .null, .null, .int 0, .null, .int 0, .null, .null, .null, .null])), (q_1, .inl (cI, 240, .inl z0))] := hD
  refine lv_aload_n hx hb dX9_init_23 rfl (lv_at hl 0 rfl) ?_
  refine va_new (ci := 5) (fs := [.int 0, .int 0, .null, .int 0, .int 0, .int 0, .int 0]) (C := RX5) (T := TX5) (N := 7) hx hb hts iX5 tyX5 tyX5_ok hown (hts _ wd_78) (hts _ wd_79) (hts _ wd_80) hK hP hD hS hA rfl (by decide +kernel) (Nat.le_of_ble_eq_true rfl) (Nat.le_of_ble_eq_true rfl) dX9_init_24 (fun q_2 H hP hD hS => ?_)
  have hP : va_P D classes [(h, .inr (9, [.ref q_1, .int 0, .int (-1), .null, .null, .null, .null, .null, .null, .null, .int 0, .null, .int 0, .null, .null, .null, .null])), (q_1, .inl (cI, 240, .inl z0)), (q_2, .inr (5, [.int 0, .int 0, .null, .int 0, .int 0, .int 0, .int 0]))] H := hP
  have hD : va_D A [(h, .inr (9, [.ref q_1, .int 0, .int (-1), .null, .null, .null, .null, .null, .null, .null, .int 0, .null, .int 0, .null, .null, .null, .null])), (q_1, .inl (cI, 240, .inl z0)), (q_2, .inr (5, [.int 0, .int 0, .null, .int 0, .int 0, .int 0, .int 0]))] := hD
  refine W.widen (k := 2) (n := 247) (Nat.le_of_ble_eq_true rfl) (Nat.le_of_ble_eq_true rfl) ?_
  refine lv_dup hx hb dX9_init_27 rfl ?_
  refine cMv (wr := [(h, .inr (9, [.ref q_1, .int 0, .int (-1), .null, .null, .null, .null, .null, .null, .null, .int 0, .null, .int 0, .null, .null, .null, .null])), (q_1, .inl (cI, 240, .inl z0))]) (rest := [.ref q_2, .ref h]) (k_reader_init q_2) okI_X5_init 0 rfl hx hb hml hown hts hK hP hD hS hA hN hl.1 [2] [0, 1] rfl rfl rfl rfl (by decide) rfl (Nat.le_of_ble_eq_true rfl) (Nat.le_of_ble_eq_true rfl) (Nat.le_of_ble_eq_true rfl) (Nat.le_of_ble_eq_true rfl) (Nat.le_of_ble_eq_true rfl) dX9_init_28 (fun u_3 H locs hw_u_3 hP hD hS => ?_)
  refine W.widen (k := 3) (n := 247) (Nat.le_of_ble_eq_true rfl) (Nat.le_of_ble_eq_true rfl) ?_
  have hP : va_P D classes [(h, .inr (9, [.ref q_1, .int 0, .int (-1), .null, .null, .null, .null, .null, .null, .null, .int 0, .null, .int 0, .null, .null, .null, .null])), (q_1, .inl (cI, 240, .inl z0)), (q_2, .inr (5, [.int 0, .int (-1), .ref u_3, .int 0, .int 0, .int 0, .int 0])), (u_3, .inl (cI, 0, .inl z0))] H := hP
  have hD : va_D A [(h, .inr (9, [.ref q_1, .int 0, .int (-1), .null, .null, .null, .null, .null, .null, .null, .int 0, .null, .int 0, .null, .null, .null, .null])), (q_1, .inl (cI, 240, .inl z0)), (q_2, .inr (5, [.int 0, .int (-1), .ref u_3, .int 0, .int 0, .int 0, .int 0])), (u_3, .inl (cI, 0, .inl z0))] := hD
  refine va_putF (D := D) (ci := 9) (v := .ref q_2) (ty := (.object "QuarrelBridges$Reader")) (C := RX9) (T := TX9) (N := 17) hx hb hts iX9 tyX9 tyX9_ok nmX9 hown hK hP hD hS 0 rfl rfl 3 (by decide) (hts _ wd_83) (fun _ h9 => h9) rfl hin rfl (by decide +kernel) rfl rfl (Nat.le_of_ble_eq_true rfl) dX9_init_31 (fun H locs hP hD hS => ?_)
  have hP : va_P D classes [(h, .inr (9, [.ref q_1, .int 0, .int (-1), .ref q_2, .null, .null, .null, .null, .null, .null, .int 0, .null, .int 0, .null, .null, .null, .null])), (q_1, .inl (cI, 240, .inl z0)), (q_2, .inr (5, [.int 0, .int (-1), .ref u_3, .int 0, .int 0, .int 0, .int 0])), (u_3, .inl (cI, 0, .inl z0))] H := hP
  have hD : va_D A [(h, .inr (9, [.ref q_1, .int 0, .int (-1), .ref q_2, .null, .null, .null, .null, .null, .null, .int 0, .null, .int 0, .null, .null, .null, .null])), (q_1, .inl (cI, 240, .inl z0)), (q_2, .inr (5, [.int 0, .int (-1), .ref u_3, .int 0, .int 0, .int 0, .int 0])), (u_3, .inl (cI, 0, .inl z0))] := hD
  refine lv_aload_n hx hb dX9_init_34 rfl (lv_at hl 0 rfl) ?_
  refine va_new (ci := 8) (fs := [.int 0, .int 0, .int 0, .int 0, .int 0, .null, .null, .null, .null, .null]) (C := RX8) (T := TX8) (N := 10) hx hb hts iX8 tyX8 tyX8_ok hown (hts _ wd_84) (hts _ wd_85) (hts _ wd_86) hK hP hD hS hA rfl (by decide +kernel) (Nat.le_of_ble_eq_true rfl) (Nat.le_of_ble_eq_true rfl) dX9_init_35 (fun q_6 H hP hD hS => ?_)
  have hP : va_P D classes [(h, .inr (9, [.ref q_1, .int 0, .int (-1), .ref q_2, .null, .null, .null, .null, .null, .null, .int 0, .null, .int 0, .null, .null, .null, .null])), (q_1, .inl (cI, 240, .inl z0)), (q_2, .inr (5, [.int 0, .int (-1), .ref u_3, .int 0, .int 0, .int 0, .int 0])), (u_3, .inl (cI, 0, .inl z0)), (q_6, .inr (8, [.int 0, .int 0, .int 0, .int 0, .int 0, .null, .null, .null, .null, .null]))] H := hP
  have hD : va_D A [(h, .inr (9, [.ref q_1, .int 0, .int (-1), .ref q_2, .null, .null, .null, .null, .null, .null, .int 0, .null, .int 0, .null, .null, .null, .null])), (q_1, .inl (cI, 240, .inl z0)), (q_2, .inr (5, [.int 0, .int (-1), .ref u_3, .int 0, .int 0, .int 0, .int 0])), (u_3, .inl (cI, 0, .inl z0)), (q_6, .inr (8, [.int 0, .int 0, .int 0, .int 0, .int 0, .null, .null, .null, .null, .null]))] := hD
  refine W.widen (k := 4) (n := 257) (Nat.le_of_ble_eq_true rfl) (Nat.le_of_ble_eq_true rfl) ?_
  refine lv_dup hx hb dX9_init_38 rfl ?_
  refine cMv (wr := [(h, .inr (9, [.ref q_1, .int 0, .int (-1), .ref q_2, .null, .null, .null, .null, .null, .null, .int 0, .null, .int 0, .null, .null, .null, .null])), (q_1, .inl (cI, 240, .inl z0)), (q_2, .inr (5, [.int 0, .int (-1), .ref u_3, .int 0, .int 0, .int 0, .int 0])), (u_3, .inl (cI, 0, .inl z0))]) (rest := [.ref q_6, .ref h]) (k_town_init q_6) okI_X8_init 1 rfl hx hb hml hown hts hK hP hD hS hA hN hl.1 [4] [0, 1, 2, 3] rfl rfl rfl rfl (by decide) rfl (Nat.le_of_ble_eq_true rfl) (Nat.le_of_ble_eq_true rfl) (Nat.le_of_ble_eq_true rfl) (Nat.le_of_ble_eq_true rfl) (Nat.le_of_ble_eq_true rfl) dX9_init_39 (fun u_7 H locs hw_u_7 hP hD hS => ?_)
  obtain ⟨q_9, q_10, q_11, q_12, q_13⟩ := u_7
  refine W.widen (k := 9) (n := 313) (Nat.le_of_ble_eq_true rfl) (Nat.le_of_ble_eq_true rfl) ?_
  have hP : va_P D classes [(h, .inr (9, [.ref q_1, .int 0, .int (-1), .ref q_2, .null, .null, .null, .null, .null, .null, .int 0, .null, .int 0, .null, .null, .null, .null])), (q_1, .inl (cI, 240, .inl z0)), (q_2, .inr (5, [.int 0, .int (-1), .ref u_3, .int 0, .int 0, .int 0, .int 0])), (u_3, .inl (cI, 0, .inl z0)), (q_6, .inr (8, [.int 0, .int 1, .int 0, .int 0, .int 0, .ref q_9, .ref q_10, .ref q_11, .ref q_12, .ref q_13])), (q_9, .inl (cI, 6, .inl z0)), (q_10, .inl (cI, 6, .inl z0)), (q_11, .inl (cI, 30, .inl z0)), (q_12, .inl (cI, 7, .inl z0)), (q_13, .inl (cI, 7, .inl z0))] H := hP
  have hD : va_D A [(h, .inr (9, [.ref q_1, .int 0, .int (-1), .ref q_2, .null, .null, .null, .null, .null, .null, .int 0, .null, .int 0, .null, .null, .null, .null])), (q_1, .inl (cI, 240, .inl z0)), (q_2, .inr (5, [.int 0, .int (-1), .ref u_3, .int 0, .int 0, .int 0, .int 0])), (u_3, .inl (cI, 0, .inl z0)), (q_6, .inr (8, [.int 0, .int 1, .int 0, .int 0, .int 0, .ref q_9, .ref q_10, .ref q_11, .ref q_12, .ref q_13])), (q_9, .inl (cI, 6, .inl z0)), (q_10, .inl (cI, 6, .inl z0)), (q_11, .inl (cI, 30, .inl z0)), (q_12, .inl (cI, 7, .inl z0)), (q_13, .inl (cI, 7, .inl z0))] := hD
  refine va_put (D := D) (ci := 9) (v := .ref q_6) (ty := (.object "QuarrelBridges$Town")) (C := RX9) (T := TX9) (N := 17) hx hb hts iX9 tyX9 tyX9_ok nmX9 hown hK hP hD hS 0 rfl rfl 4 (by decide) (hts _ wd_89) (fun _ h9 => h9) rfl (by decide +kernel) rfl rfl (Nat.le_of_ble_eq_true rfl) dX9_init_42 (fun H locs hP hD hS => ?_)
  have hP : va_P D classes [(h, .inr (9, [.ref q_1, .int 0, .int (-1), .ref q_2, .ref q_6, .null, .null, .null, .null, .null, .int 0, .null, .int 0, .null, .null, .null, .null])), (q_1, .inl (cI, 240, .inl z0)), (q_2, .inr (5, [.int 0, .int (-1), .ref u_3, .int 0, .int 0, .int 0, .int 0])), (u_3, .inl (cI, 0, .inl z0)), (q_6, .inr (8, [.int 0, .int 1, .int 0, .int 0, .int 0, .ref q_9, .ref q_10, .ref q_11, .ref q_12, .ref q_13])), (q_9, .inl (cI, 6, .inl z0)), (q_10, .inl (cI, 6, .inl z0)), (q_11, .inl (cI, 30, .inl z0)), (q_12, .inl (cI, 7, .inl z0)), (q_13, .inl (cI, 7, .inl z0))] H := hP
  have hD : va_D A [(h, .inr (9, [.ref q_1, .int 0, .int (-1), .ref q_2, .ref q_6, .null, .null, .null, .null, .null, .int 0, .null, .int 0, .null, .null, .null, .null])), (q_1, .inl (cI, 240, .inl z0)), (q_2, .inr (5, [.int 0, .int (-1), .ref u_3, .int 0, .int 0, .int 0, .int 0])), (u_3, .inl (cI, 0, .inl z0)), (q_6, .inr (8, [.int 0, .int 1, .int 0, .int 0, .int 0, .ref q_9, .ref q_10, .ref q_11, .ref q_12, .ref q_13])), (q_9, .inl (cI, 6, .inl z0)), (q_10, .inl (cI, 6, .inl z0)), (q_11, .inl (cI, 30, .inl z0)), (q_12, .inl (cI, 7, .inl z0)), (q_13, .inl (cI, 7, .inl z0))] := hD
  refine lv_aload_n hx hb dX9_init_45 rfl (lv_at hl 0 rfl) ?_
  refine va_new (ci := 8) (fs := [.int 0, .int 0, .int 0, .int 0, .int 0, .null, .null, .null, .null, .null]) (C := RX8) (T := TX8) (N := 10) hx hb hts iX8 tyX8 tyX8_ok hown (hts _ wd_84) (hts _ wd_85) (hts _ wd_86) hK hP hD hS hA rfl (by decide +kernel) (Nat.le_of_ble_eq_true rfl) (Nat.le_of_ble_eq_true rfl) dX9_init_46 (fun q_14 H hP hD hS => ?_)
  have hP : va_P D classes [(h, .inr (9, [.ref q_1, .int 0, .int (-1), .ref q_2, .ref q_6, .null, .null, .null, .null, .null, .int 0, .null, .int 0, .null, .null, .null, .null])), (q_1, .inl (cI, 240, .inl z0)), (q_2, .inr (5, [.int 0, .int (-1), .ref u_3, .int 0, .int 0, .int 0, .int 0])), (u_3, .inl (cI, 0, .inl z0)), (q_6, .inr (8, [.int 0, .int 1, .int 0, .int 0, .int 0, .ref q_9, .ref q_10, .ref q_11, .ref q_12, .ref q_13])), (q_9, .inl (cI, 6, .inl z0)), (q_10, .inl (cI, 6, .inl z0)), (q_11, .inl (cI, 30, .inl z0)), (q_12, .inl (cI, 7, .inl z0)), (q_13, .inl (cI, 7, .inl z0)), (q_14, .inr (8, [.int 0, .int 0, .int 0, .int 0, .int 0, .null, .null, .null, .null, .null]))] H := hP
  have hD : va_D A [(h, .inr (9, [.ref q_1, .int 0, .int (-1), .ref q_2, .ref q_6, .null, .null, .null, .null, .null, .int 0, .null, .int 0, .null, .null, .null, .null])), (q_1, .inl (cI, 240, .inl z0)), (q_2, .inr (5, [.int 0, .int (-1), .ref u_3, .int 0, .int 0, .int 0, .int 0])), (u_3, .inl (cI, 0, .inl z0)), (q_6, .inr (8, [.int 0, .int 1, .int 0, .int 0, .int 0, .ref q_9, .ref q_10, .ref q_11, .ref q_12, .ref q_13])), (q_9, .inl (cI, 6, .inl z0)), (q_10, .inl (cI, 6, .inl z0)), (q_11, .inl (cI, 30, .inl z0)), (q_12, .inl (cI, 7, .inl z0)), (q_13, .inl (cI, 7, .inl z0)), (q_14, .inr (8, [.int 0, .int 0, .int 0, .int 0, .int 0, .null, .null, .null, .null, .null]))] := hD
  refine W.widen (k := 10) (n := 323) (Nat.le_of_ble_eq_true rfl) (Nat.le_of_ble_eq_true rfl) ?_
  refine lv_dup hx hb dX9_init_49 rfl ?_
  refine cMv (wr := [(h, .inr (9, [.ref q_1, .int 0, .int (-1), .ref q_2, .ref q_6, .null, .null, .null, .null, .null, .int 0, .null, .int 0, .null, .null, .null, .null])), (q_1, .inl (cI, 240, .inl z0)), (q_2, .inr (5, [.int 0, .int (-1), .ref u_3, .int 0, .int 0, .int 0, .int 0])), (u_3, .inl (cI, 0, .inl z0)), (q_6, .inr (8, [.int 0, .int 1, .int 0, .int 0, .int 0, .ref q_9, .ref q_10, .ref q_11, .ref q_12, .ref q_13])), (q_9, .inl (cI, 6, .inl z0)), (q_10, .inl (cI, 6, .inl z0)), (q_11, .inl (cI, 30, .inl z0)), (q_12, .inl (cI, 7, .inl z0)), (q_13, .inl (cI, 7, .inl z0))]) (rest := [.ref q_14, .ref h]) (k_town_init q_14) okI_X8_init 1 rfl hx hb hml hown hts hK hP hD hS hA hN hl.1 [10] [0, 1, 2, 3, 4, 5, 6, 7, 8, 9] rfl rfl rfl rfl (by decide) rfl (Nat.le_of_ble_eq_true rfl) (Nat.le_of_ble_eq_true rfl) (Nat.le_of_ble_eq_true rfl) (Nat.le_of_ble_eq_true rfl) (Nat.le_of_ble_eq_true rfl) dX9_init_50 (fun u_15 H locs hw_u_15 hP hD hS => ?_)
  obtain ⟨q_17, q_18, q_19, q_20, q_21⟩ := u_15
  refine W.widen (k := 15) (n := 379) (Nat.le_of_ble_eq_true rfl) (Nat.le_of_ble_eq_true rfl) ?_
  have hP : va_P D classes [(h, .inr (9, [.ref q_1, .int 0, .int (-1), .ref q_2, .ref q_6, .null, .null, .null, .null, .null, .int 0, .null, .int 0, .null, .null, .null, .null])), (q_1, .inl (cI, 240, .inl z0)), (q_2, .inr (5, [.int 0, .int (-1), .ref u_3, .int 0, .int 0, .int 0, .int 0])), (u_3, .inl (cI, 0, .inl z0)), (q_6, .inr (8, [.int 0, .int 1, .int 0, .int 0, .int 0, .ref q_9, .ref q_10, .ref q_11, .ref q_12, .ref q_13])), (q_9, .inl (cI, 6, .inl z0)), (q_10, .inl (cI, 6, .inl z0)), (q_11, .inl (cI, 30, .inl z0)), (q_12, .inl (cI, 7, .inl z0)), (q_13, .inl (cI, 7, .inl z0)), (q_14, .inr (8, [.int 0, .int 1, .int 0, .int 0, .int 0, .ref q_17, .ref q_18, .ref q_19, .ref q_20, .ref q_21])), (q_17, .inl (cI, 6, .inl z0)), (q_18, .inl (cI, 6, .inl z0)), (q_19, .inl (cI, 30, .inl z0)), (q_20, .inl (cI, 7, .inl z0)), (q_21, .inl (cI, 7, .inl z0))] H := hP
  have hD : va_D A [(h, .inr (9, [.ref q_1, .int 0, .int (-1), .ref q_2, .ref q_6, .null, .null, .null, .null, .null, .int 0, .null, .int 0, .null, .null, .null, .null])), (q_1, .inl (cI, 240, .inl z0)), (q_2, .inr (5, [.int 0, .int (-1), .ref u_3, .int 0, .int 0, .int 0, .int 0])), (u_3, .inl (cI, 0, .inl z0)), (q_6, .inr (8, [.int 0, .int 1, .int 0, .int 0, .int 0, .ref q_9, .ref q_10, .ref q_11, .ref q_12, .ref q_13])), (q_9, .inl (cI, 6, .inl z0)), (q_10, .inl (cI, 6, .inl z0)), (q_11, .inl (cI, 30, .inl z0)), (q_12, .inl (cI, 7, .inl z0)), (q_13, .inl (cI, 7, .inl z0)), (q_14, .inr (8, [.int 0, .int 1, .int 0, .int 0, .int 0, .ref q_17, .ref q_18, .ref q_19, .ref q_20, .ref q_21])), (q_17, .inl (cI, 6, .inl z0)), (q_18, .inl (cI, 6, .inl z0)), (q_19, .inl (cI, 30, .inl z0)), (q_20, .inl (cI, 7, .inl z0)), (q_21, .inl (cI, 7, .inl z0))] := hD
  refine va_put (D := D) (ci := 9) (v := .ref q_14) (ty := (.object "QuarrelBridges$Town")) (C := RX9) (T := TX9) (N := 17) hx hb hts iX9 tyX9 tyX9_ok nmX9 hown hK hP hD hS 0 rfl rfl 5 (by decide) (hts _ wd_90) (fun _ h9 => h9) rfl (by decide +kernel) rfl rfl (Nat.le_of_ble_eq_true rfl) dX9_init_53 (fun H locs hP hD hS => ?_)
  have hP : va_P D classes [(h, .inr (9, [.ref q_1, .int 0, .int (-1), .ref q_2, .ref q_6, .ref q_14, .null, .null, .null, .null, .int 0, .null, .int 0, .null, .null, .null, .null])), (q_1, .inl (cI, 240, .inl z0)), (q_2, .inr (5, [.int 0, .int (-1), .ref u_3, .int 0, .int 0, .int 0, .int 0])), (u_3, .inl (cI, 0, .inl z0)), (q_6, .inr (8, [.int 0, .int 1, .int 0, .int 0, .int 0, .ref q_9, .ref q_10, .ref q_11, .ref q_12, .ref q_13])), (q_9, .inl (cI, 6, .inl z0)), (q_10, .inl (cI, 6, .inl z0)), (q_11, .inl (cI, 30, .inl z0)), (q_12, .inl (cI, 7, .inl z0)), (q_13, .inl (cI, 7, .inl z0)), (q_14, .inr (8, [.int 0, .int 1, .int 0, .int 0, .int 0, .ref q_17, .ref q_18, .ref q_19, .ref q_20, .ref q_21])), (q_17, .inl (cI, 6, .inl z0)), (q_18, .inl (cI, 6, .inl z0)), (q_19, .inl (cI, 30, .inl z0)), (q_20, .inl (cI, 7, .inl z0)), (q_21, .inl (cI, 7, .inl z0))] H := hP
  have hD : va_D A [(h, .inr (9, [.ref q_1, .int 0, .int (-1), .ref q_2, .ref q_6, .ref q_14, .null, .null, .null, .null, .int 0, .null, .int 0, .null, .null, .null, .null])), (q_1, .inl (cI, 240, .inl z0)), (q_2, .inr (5, [.int 0, .int (-1), .ref u_3, .int 0, .int 0, .int 0, .int 0])), (u_3, .inl (cI, 0, .inl z0)), (q_6, .inr (8, [.int 0, .int 1, .int 0, .int 0, .int 0, .ref q_9, .ref q_10, .ref q_11, .ref q_12, .ref q_13])), (q_9, .inl (cI, 6, .inl z0)), (q_10, .inl (cI, 6, .inl z0)), (q_11, .inl (cI, 30, .inl z0)), (q_12, .inl (cI, 7, .inl z0)), (q_13, .inl (cI, 7, .inl z0)), (q_14, .inr (8, [.int 0, .int 1, .int 0, .int 0, .int 0, .ref q_17, .ref q_18, .ref q_19, .ref q_20, .ref q_21])), (q_17, .inl (cI, 6, .inl z0)), (q_18, .inl (cI, 6, .inl z0)), (q_19, .inl (cI, 30, .inl z0)), (q_20, .inl (cI, 7, .inl z0)), (q_21, .inl (cI, 7, .inl z0))] := hD
  refine lv_aload_n hx hb dX9_init_56 rfl (lv_at hl 0 rfl) ?_
  refine va_new (ci := 7) (fs := [.null]) (C := RX7) (T := TX7) (N := 1) hx hb hts iX7 tyX7 tyX7_ok hown (hts _ wd_91) (hts _ wd_92) (hts _ wd_93) hK hP hD hS hA rfl (by decide +kernel) (Nat.le_of_ble_eq_true rfl) (Nat.le_of_ble_eq_true rfl) dX9_init_57 (fun q_22 H hP hD hS => ?_)
  have hP : va_P D classes [(h, .inr (9, [.ref q_1, .int 0, .int (-1), .ref q_2, .ref q_6, .ref q_14, .null, .null, .null, .null, .int 0, .null, .int 0, .null, .null, .null, .null])), (q_1, .inl (cI, 240, .inl z0)), (q_2, .inr (5, [.int 0, .int (-1), .ref u_3, .int 0, .int 0, .int 0, .int 0])), (u_3, .inl (cI, 0, .inl z0)), (q_6, .inr (8, [.int 0, .int 1, .int 0, .int 0, .int 0, .ref q_9, .ref q_10, .ref q_11, .ref q_12, .ref q_13])), (q_9, .inl (cI, 6, .inl z0)), (q_10, .inl (cI, 6, .inl z0)), (q_11, .inl (cI, 30, .inl z0)), (q_12, .inl (cI, 7, .inl z0)), (q_13, .inl (cI, 7, .inl z0)), (q_14, .inr (8, [.int 0, .int 1, .int 0, .int 0, .int 0, .ref q_17, .ref q_18, .ref q_19, .ref q_20, .ref q_21])), (q_17, .inl (cI, 6, .inl z0)), (q_18, .inl (cI, 6, .inl z0)), (q_19, .inl (cI, 30, .inl z0)), (q_20, .inl (cI, 7, .inl z0)), (q_21, .inl (cI, 7, .inl z0)), (q_22, .inr (7, [.null]))] H := hP
  have hD : va_D A [(h, .inr (9, [.ref q_1, .int 0, .int (-1), .ref q_2, .ref q_6, .ref q_14, .null, .null, .null, .null, .int 0, .null, .int 0, .null, .null, .null, .null])), (q_1, .inl (cI, 240, .inl z0)), (q_2, .inr (5, [.int 0, .int (-1), .ref u_3, .int 0, .int 0, .int 0, .int 0])), (u_3, .inl (cI, 0, .inl z0)), (q_6, .inr (8, [.int 0, .int 1, .int 0, .int 0, .int 0, .ref q_9, .ref q_10, .ref q_11, .ref q_12, .ref q_13])), (q_9, .inl (cI, 6, .inl z0)), (q_10, .inl (cI, 6, .inl z0)), (q_11, .inl (cI, 30, .inl z0)), (q_12, .inl (cI, 7, .inl z0)), (q_13, .inl (cI, 7, .inl z0)), (q_14, .inr (8, [.int 0, .int 1, .int 0, .int 0, .int 0, .ref q_17, .ref q_18, .ref q_19, .ref q_20, .ref q_21])), (q_17, .inl (cI, 6, .inl z0)), (q_18, .inl (cI, 6, .inl z0)), (q_19, .inl (cI, 30, .inl z0)), (q_20, .inl (cI, 7, .inl z0)), (q_21, .inl (cI, 7, .inl z0)), (q_22, .inr (7, [.null]))] := hD
  refine W.widen (k := 16) (n := 380) (Nat.le_of_ble_eq_true rfl) (Nat.le_of_ble_eq_true rfl) ?_
  refine lv_dup hx hb dX9_init_60 rfl ?_
  refine cMv (wr := [(h, .inr (9, [.ref q_1, .int 0, .int (-1), .ref q_2, .ref q_6, .ref q_14, .null, .null, .null, .null, .int 0, .null, .int 0, .null, .null, .null, .null])), (q_1, .inl (cI, 240, .inl z0)), (q_2, .inr (5, [.int 0, .int (-1), .ref u_3, .int 0, .int 0, .int 0, .int 0])), (u_3, .inl (cI, 0, .inl z0)), (q_6, .inr (8, [.int 0, .int 1, .int 0, .int 0, .int 0, .ref q_9, .ref q_10, .ref q_11, .ref q_12, .ref q_13])), (q_9, .inl (cI, 6, .inl z0)), (q_10, .inl (cI, 6, .inl z0)), (q_11, .inl (cI, 30, .inl z0)), (q_12, .inl (cI, 7, .inl z0)), (q_13, .inl (cI, 7, .inl z0)), (q_14, .inr (8, [.int 0, .int 1, .int 0, .int 0, .int 0, .ref q_17, .ref q_18, .ref q_19, .ref q_20, .ref q_21])), (q_17, .inl (cI, 6, .inl z0)), (q_18, .inl (cI, 6, .inl z0)), (q_19, .inl (cI, 30, .inl z0)), (q_20, .inl (cI, 7, .inl z0)), (q_21, .inl (cI, 7, .inl z0))]) (rest := [.ref q_22, .ref h]) (k_state_init q_22) okI_X7_init 2 rfl hx hb hml hown hts hK hP hD hS hA hN hl.1 [16] [0, 1, 2, 3, 4, 5, 6, 7, 8, 9, 10, 11, 12, 13, 14, 15] rfl rfl rfl rfl (by decide) rfl (Nat.le_of_ble_eq_true rfl) (Nat.le_of_ble_eq_true rfl) (Nat.le_of_ble_eq_true rfl) (Nat.le_of_ble_eq_true rfl) (Nat.le_of_ble_eq_true rfl) dX9_init_61 (fun u_23 H locs hw_u_23 hP hD hS => ?_)
  refine W.widen (k := 17) (n := 421) (Nat.le_of_ble_eq_true rfl) (Nat.le_of_ble_eq_true rfl) ?_
  have hP : va_P D classes [(h, .inr (9, [.ref q_1, .int 0, .int (-1), .ref q_2, .ref q_6, .ref q_14, .null, .null, .null, .null, .int 0, .null, .int 0, .null, .null, .null, .null])), (q_1, .inl (cI, 240, .inl z0)), (q_2, .inr (5, [.int 0, .int (-1), .ref u_3, .int 0, .int 0, .int 0, .int 0])), (u_3, .inl (cI, 0, .inl z0)), (q_6, .inr (8, [.int 0, .int 1, .int 0, .int 0, .int 0, .ref q_9, .ref q_10, .ref q_11, .ref q_12, .ref q_13])), (q_9, .inl (cI, 6, .inl z0)), (q_10, .inl (cI, 6, .inl z0)), (q_11, .inl (cI, 30, .inl z0)), (q_12, .inl (cI, 7, .inl z0)), (q_13, .inl (cI, 7, .inl z0)), (q_14, .inr (8, [.int 0, .int 1, .int 0, .int 0, .int 0, .ref q_17, .ref q_18, .ref q_19, .ref q_20, .ref q_21])), (q_17, .inl (cI, 6, .inl z0)), (q_18, .inl (cI, 6, .inl z0)), (q_19, .inl (cI, 30, .inl z0)), (q_20, .inl (cI, 7, .inl z0)), (q_21, .inl (cI, 7, .inl z0)), (q_22, .inr (7, [.ref u_23])), (u_23, .inl (cI, 41, .inl z0))] H := hP
  have hD : va_D A [(h, .inr (9, [.ref q_1, .int 0, .int (-1), .ref q_2, .ref q_6, .ref q_14, .null, .null, .null, .null, .int 0, .null, .int 0, .null, .null, .null, .null])), (q_1, .inl (cI, 240, .inl z0)), (q_2, .inr (5, [.int 0, .int (-1), .ref u_3, .int 0, .int 0, .int 0, .int 0])), (u_3, .inl (cI, 0, .inl z0)), (q_6, .inr (8, [.int 0, .int 1, .int 0, .int 0, .int 0, .ref q_9, .ref q_10, .ref q_11, .ref q_12, .ref q_13])), (q_9, .inl (cI, 6, .inl z0)), (q_10, .inl (cI, 6, .inl z0)), (q_11, .inl (cI, 30, .inl z0)), (q_12, .inl (cI, 7, .inl z0)), (q_13, .inl (cI, 7, .inl z0)), (q_14, .inr (8, [.int 0, .int 1, .int 0, .int 0, .int 0, .ref q_17, .ref q_18, .ref q_19, .ref q_20, .ref q_21])), (q_17, .inl (cI, 6, .inl z0)), (q_18, .inl (cI, 6, .inl z0)), (q_19, .inl (cI, 30, .inl z0)), (q_20, .inl (cI, 7, .inl z0)), (q_21, .inl (cI, 7, .inl z0)), (q_22, .inr (7, [.ref u_23])), (u_23, .inl (cI, 41, .inl z0))] := hD
  refine va_putF (D := D) (ci := 9) (v := .ref q_22) (ty := (.object "QuarrelBridges$State")) (C := RX9) (T := TX9) (N := 17) hx hb hts iX9 tyX9 tyX9_ok nmX9 hown hK hP hD hS 0 rfl rfl 6 (by decide) (hts _ wd_96) (fun _ h9 => h9) rfl hin rfl (by decide +kernel) rfl rfl (Nat.le_of_ble_eq_true rfl) dX9_init_64 (fun H locs hP hD hS => ?_)
  have hP : va_P D classes [(h, .inr (9, [.ref q_1, .int 0, .int (-1), .ref q_2, .ref q_6, .ref q_14, .ref q_22, .null, .null, .null, .int 0, .null, .int 0, .null, .null, .null, .null])), (q_1, .inl (cI, 240, .inl z0)), (q_2, .inr (5, [.int 0, .int (-1), .ref u_3, .int 0, .int 0, .int 0, .int 0])), (u_3, .inl (cI, 0, .inl z0)), (q_6, .inr (8, [.int 0, .int 1, .int 0, .int 0, .int 0, .ref q_9, .ref q_10, .ref q_11, .ref q_12, .ref q_13])), (q_9, .inl (cI, 6, .inl z0)), (q_10, .inl (cI, 6, .inl z0)), (q_11, .inl (cI, 30, .inl z0)), (q_12, .inl (cI, 7, .inl z0)), (q_13, .inl (cI, 7, .inl z0)), (q_14, .inr (8, [.int 0, .int 1, .int 0, .int 0, .int 0, .ref q_17, .ref q_18, .ref q_19, .ref q_20, .ref q_21])), (q_17, .inl (cI, 6, .inl z0)), (q_18, .inl (cI, 6, .inl z0)), (q_19, .inl (cI, 30, .inl z0)), (q_20, .inl (cI, 7, .inl z0)), (q_21, .inl (cI, 7, .inl z0)), (q_22, .inr (7, [.ref u_23])), (u_23, .inl (cI, 41, .inl z0))] H := hP
  have hD : va_D A [(h, .inr (9, [.ref q_1, .int 0, .int (-1), .ref q_2, .ref q_6, .ref q_14, .ref q_22, .null, .null, .null, .int 0, .null, .int 0, .null, .null, .null, .null])), (q_1, .inl (cI, 240, .inl z0)), (q_2, .inr (5, [.int 0, .int (-1), .ref u_3, .int 0, .int 0, .int 0, .int 0])), (u_3, .inl (cI, 0, .inl z0)), (q_6, .inr (8, [.int 0, .int 1, .int 0, .int 0, .int 0, .ref q_9, .ref q_10, .ref q_11, .ref q_12, .ref q_13])), (q_9, .inl (cI, 6, .inl z0)), (q_10, .inl (cI, 6, .inl z0)), (q_11, .inl (cI, 30, .inl z0)), (q_12, .inl (cI, 7, .inl z0)), (q_13, .inl (cI, 7, .inl z0)), (q_14, .inr (8, [.int 0, .int 1, .int 0, .int 0, .int 0, .ref q_17, .ref q_18, .ref q_19, .ref q_20, .ref q_21])), (q_17, .inl (cI, 6, .inl z0)), (q_18, .inl (cI, 6, .inl z0)), (q_19, .inl (cI, 30, .inl z0)), (q_20, .inl (cI, 7, .inl z0)), (q_21, .inl (cI, 7, .inl z0)), (q_22, .inr (7, [.ref u_23])), (u_23, .inl (cI, 41, .inl z0))] := hD
  refine lv_aload_n hx hb dX9_init_67 rfl (lv_at hl 0 rfl) ?_
  refine va_new (ci := 2) (fs := [.null, .int 0, .int 0]) (C := RX2) (T := TX2) (N := 3) hx hb hts iX2 tyX2 tyX2_ok hown (hts _ wd_97) (hts _ wd_98) (hts _ wd_99) hK hP hD hS hA rfl (by decide +kernel) (Nat.le_of_ble_eq_true rfl) (Nat.le_of_ble_eq_true rfl) dX9_init_68 (fun q_26 H hP hD hS => ?_)
  have hP : va_P D classes [(h, .inr (9, [.ref q_1, .int 0, .int (-1), .ref q_2, .ref q_6, .ref q_14, .ref q_22, .null, .null, .null, .int 0, .null, .int 0, .null, .null, .null, .null])), (q_1, .inl (cI, 240, .inl z0)), (q_2, .inr (5, [.int 0, .int (-1), .ref u_3, .int 0, .int 0, .int 0, .int 0])), (u_3, .inl (cI, 0, .inl z0)), (q_6, .inr (8, [.int 0, .int 1, .int 0, .int 0, .int 0, .ref q_9, .ref q_10, .ref q_11, .ref q_12, .ref q_13])), (q_9, .inl (cI, 6, .inl z0)), (q_10, .inl (cI, 6, .inl z0)), (q_11, .inl (cI, 30, .inl z0)), (q_12, .inl (cI, 7, .inl z0)), (q_13, .inl (cI, 7, .inl z0)), (q_14, .inr (8, [.int 0, .int 1, .int 0, .int 0, .int 0, .ref q_17, .ref q_18, .ref q_19, .ref q_20, .ref q_21])), (q_17, .inl (cI, 6, .inl z0)), (q_18, .inl (cI, 6, .inl z0)), (q_19, .inl (cI, 30, .inl z0)), (q_20, .inl (cI, 7, .inl z0)), (q_21, .inl (cI, 7, .inl z0)), (q_22, .inr (7, [.ref u_23])), (u_23, .inl (cI, 41, .inl z0)), (q_26, .inr (2, [.null, .int 0, .int 0]))] H := hP
  have hD : va_D A [(h, .inr (9, [.ref q_1, .int 0, .int (-1), .ref q_2, .ref q_6, .ref q_14, .ref q_22, .null, .null, .null, .int 0, .null, .int 0, .null, .null, .null, .null])), (q_1, .inl (cI, 240, .inl z0)), (q_2, .inr (5, [.int 0, .int (-1), .ref u_3, .int 0, .int 0, .int 0, .int 0])), (u_3, .inl (cI, 0, .inl z0)), (q_6, .inr (8, [.int 0, .int 1, .int 0, .int 0, .int 0, .ref q_9, .ref q_10, .ref q_11, .ref q_12, .ref q_13])), (q_9, .inl (cI, 6, .inl z0)), (q_10, .inl (cI, 6, .inl z0)), (q_11, .inl (cI, 30, .inl z0)), (q_12, .inl (cI, 7, .inl z0)), (q_13, .inl (cI, 7, .inl z0)), (q_14, .inr (8, [.int 0, .int 1, .int 0, .int 0, .int 0, .ref q_17, .ref q_18, .ref q_19, .ref q_20, .ref q_21])), (q_17, .inl (cI, 6, .inl z0)), (q_18, .inl (cI, 6, .inl z0)), (q_19, .inl (cI, 30, .inl z0)), (q_20, .inl (cI, 7, .inl z0)), (q_21, .inl (cI, 7, .inl z0)), (q_22, .inr (7, [.ref u_23])), (u_23, .inl (cI, 41, .inl z0)), (q_26, .inr (2, [.null, .int 0, .int 0]))] := hD
  refine W.widen (k := 18) (n := 424) (Nat.le_of_ble_eq_true rfl) (Nat.le_of_ble_eq_true rfl) ?_
  refine lv_dup hx hb dX9_init_71 rfl ?_
  refine cMv (wr := [(h, .inr (9, [.ref q_1, .int 0, .int (-1), .ref q_2, .ref q_6, .ref q_14, .ref q_22, .null, .null, .null, .int 0, .null, .int 0, .null, .null, .null, .null])), (q_1, .inl (cI, 240, .inl z0)), (q_2, .inr (5, [.int 0, .int (-1), .ref u_3, .int 0, .int 0, .int 0, .int 0])), (u_3, .inl (cI, 0, .inl z0)), (q_6, .inr (8, [.int 0, .int 1, .int 0, .int 0, .int 0, .ref q_9, .ref q_10, .ref q_11, .ref q_12, .ref q_13])), (q_9, .inl (cI, 6, .inl z0)), (q_10, .inl (cI, 6, .inl z0)), (q_11, .inl (cI, 30, .inl z0)), (q_12, .inl (cI, 7, .inl z0)), (q_13, .inl (cI, 7, .inl z0)), (q_14, .inr (8, [.int 0, .int 1, .int 0, .int 0, .int 0, .ref q_17, .ref q_18, .ref q_19, .ref q_20, .ref q_21])), (q_17, .inl (cI, 6, .inl z0)), (q_18, .inl (cI, 6, .inl z0)), (q_19, .inl (cI, 30, .inl z0)), (q_20, .inl (cI, 7, .inl z0)), (q_21, .inl (cI, 7, .inl z0)), (q_22, .inr (7, [.ref u_23])), (u_23, .inl (cI, 41, .inl z0))]) (rest := [.ref q_26, .ref h]) (k_history_init q_26) okI_X2_init 3 rfl hx hb hml hown hts hK hP hD hS hA hN hl.1 [18] [0, 1, 2, 3, 4, 5, 6, 7, 8, 9, 10, 11, 12, 13, 14, 15, 16, 17] rfl rfl rfl rfl (by decide) rfl (Nat.le_of_ble_eq_true rfl) (Nat.le_of_ble_eq_true rfl) (Nat.le_of_ble_eq_true rfl) (Nat.le_of_ble_eq_true rfl) (Nat.le_of_ble_eq_true rfl) dX9_init_72 (fun u_27 H locs hw_u_27 hP hD hS => ?_)
  obtain ⟨q_29, q_30⟩ := u_27
  refine W.widen (k := 20) (n := 1246) (Nat.le_of_ble_eq_true rfl) (Nat.le_of_ble_eq_true rfl) ?_
  have hP : va_P D classes [(h, .inr (9, [.ref q_1, .int 0, .int (-1), .ref q_2, .ref q_6, .ref q_14, .ref q_22, .null, .null, .null, .int 0, .null, .int 0, .null, .null, .null, .null])), (q_1, .inl (cI, 240, .inl z0)), (q_2, .inr (5, [.int 0, .int (-1), .ref u_3, .int 0, .int 0, .int 0, .int 0])), (u_3, .inl (cI, 0, .inl z0)), (q_6, .inr (8, [.int 0, .int 1, .int 0, .int 0, .int 0, .ref q_9, .ref q_10, .ref q_11, .ref q_12, .ref q_13])), (q_9, .inl (cI, 6, .inl z0)), (q_10, .inl (cI, 6, .inl z0)), (q_11, .inl (cI, 30, .inl z0)), (q_12, .inl (cI, 7, .inl z0)), (q_13, .inl (cI, 7, .inl z0)), (q_14, .inr (8, [.int 0, .int 1, .int 0, .int 0, .int 0, .ref q_17, .ref q_18, .ref q_19, .ref q_20, .ref q_21])), (q_17, .inl (cI, 6, .inl z0)), (q_18, .inl (cI, 6, .inl z0)), (q_19, .inl (cI, 30, .inl z0)), (q_20, .inl (cI, 7, .inl z0)), (q_21, .inl (cI, 7, .inl z0)), (q_22, .inr (7, [.ref u_23])), (u_23, .inl (cI, 41, .inl z0)), (q_26, .inr (2, [.ref q_29, .int 0, .int 0])), (q_29, .inr (6, [.int 20, .ref q_30])), (q_30, .inl (cI, 820, .inl z0))] H := hP
  have hD : va_D A [(h, .inr (9, [.ref q_1, .int 0, .int (-1), .ref q_2, .ref q_6, .ref q_14, .ref q_22, .null, .null, .null, .int 0, .null, .int 0, .null, .null, .null, .null])), (q_1, .inl (cI, 240, .inl z0)), (q_2, .inr (5, [.int 0, .int (-1), .ref u_3, .int 0, .int 0, .int 0, .int 0])), (u_3, .inl (cI, 0, .inl z0)), (q_6, .inr (8, [.int 0, .int 1, .int 0, .int 0, .int 0, .ref q_9, .ref q_10, .ref q_11, .ref q_12, .ref q_13])), (q_9, .inl (cI, 6, .inl z0)), (q_10, .inl (cI, 6, .inl z0)), (q_11, .inl (cI, 30, .inl z0)), (q_12, .inl (cI, 7, .inl z0)), (q_13, .inl (cI, 7, .inl z0)), (q_14, .inr (8, [.int 0, .int 1, .int 0, .int 0, .int 0, .ref q_17, .ref q_18, .ref q_19, .ref q_20, .ref q_21])), (q_17, .inl (cI, 6, .inl z0)), (q_18, .inl (cI, 6, .inl z0)), (q_19, .inl (cI, 30, .inl z0)), (q_20, .inl (cI, 7, .inl z0)), (q_21, .inl (cI, 7, .inl z0)), (q_22, .inr (7, [.ref u_23])), (u_23, .inl (cI, 41, .inl z0)), (q_26, .inr (2, [.ref q_29, .int 0, .int 0])), (q_29, .inr (6, [.int 20, .ref q_30])), (q_30, .inl (cI, 820, .inl z0))] := hD
  refine va_putF (D := D) (ci := 9) (v := .ref q_26) (ty := (.object "QuarrelBridges$History")) (C := RX9) (T := TX9) (N := 17) hx hb hts iX9 tyX9 tyX9_ok nmX9 hown hK hP hD hS 0 rfl rfl 7 (by decide) (hts _ wd_102) (fun _ h9 => h9) rfl hin rfl (by decide +kernel) rfl rfl (Nat.le_of_ble_eq_true rfl) dX9_init_75 (fun H locs hP hD hS => ?_)
  have hP : va_P D classes [(h, .inr (9, [.ref q_1, .int 0, .int (-1), .ref q_2, .ref q_6, .ref q_14, .ref q_22, .ref q_26, .null, .null, .int 0, .null, .int 0, .null, .null, .null, .null])), (q_1, .inl (cI, 240, .inl z0)), (q_2, .inr (5, [.int 0, .int (-1), .ref u_3, .int 0, .int 0, .int 0, .int 0])), (u_3, .inl (cI, 0, .inl z0)), (q_6, .inr (8, [.int 0, .int 1, .int 0, .int 0, .int 0, .ref q_9, .ref q_10, .ref q_11, .ref q_12, .ref q_13])), (q_9, .inl (cI, 6, .inl z0)), (q_10, .inl (cI, 6, .inl z0)), (q_11, .inl (cI, 30, .inl z0)), (q_12, .inl (cI, 7, .inl z0)), (q_13, .inl (cI, 7, .inl z0)), (q_14, .inr (8, [.int 0, .int 1, .int 0, .int 0, .int 0, .ref q_17, .ref q_18, .ref q_19, .ref q_20, .ref q_21])), (q_17, .inl (cI, 6, .inl z0)), (q_18, .inl (cI, 6, .inl z0)), (q_19, .inl (cI, 30, .inl z0)), (q_20, .inl (cI, 7, .inl z0)), (q_21, .inl (cI, 7, .inl z0)), (q_22, .inr (7, [.ref u_23])), (u_23, .inl (cI, 41, .inl z0)), (q_26, .inr (2, [.ref q_29, .int 0, .int 0])), (q_29, .inr (6, [.int 20, .ref q_30])), (q_30, .inl (cI, 820, .inl z0))] H := hP
  have hD : va_D A [(h, .inr (9, [.ref q_1, .int 0, .int (-1), .ref q_2, .ref q_6, .ref q_14, .ref q_22, .ref q_26, .null, .null, .int 0, .null, .int 0, .null, .null, .null, .null])), (q_1, .inl (cI, 240, .inl z0)), (q_2, .inr (5, [.int 0, .int (-1), .ref u_3, .int 0, .int 0, .int 0, .int 0])), (u_3, .inl (cI, 0, .inl z0)), (q_6, .inr (8, [.int 0, .int 1, .int 0, .int 0, .int 0, .ref q_9, .ref q_10, .ref q_11, .ref q_12, .ref q_13])), (q_9, .inl (cI, 6, .inl z0)), (q_10, .inl (cI, 6, .inl z0)), (q_11, .inl (cI, 30, .inl z0)), (q_12, .inl (cI, 7, .inl z0)), (q_13, .inl (cI, 7, .inl z0)), (q_14, .inr (8, [.int 0, .int 1, .int 0, .int 0, .int 0, .ref q_17, .ref q_18, .ref q_19, .ref q_20, .ref q_21])), (q_17, .inl (cI, 6, .inl z0)), (q_18, .inl (cI, 6, .inl z0)), (q_19, .inl (cI, 30, .inl z0)), (q_20, .inl (cI, 7, .inl z0)), (q_21, .inl (cI, 7, .inl z0)), (q_22, .inr (7, [.ref u_23])), (u_23, .inl (cI, 41, .inl z0)), (q_26, .inr (2, [.ref q_29, .int 0, .int 0])), (q_29, .inr (6, [.int 20, .ref q_30])), (q_30, .inl (cI, 820, .inl z0))] := hD
  refine lv_aload_n hx hb dX9_init_78 rfl (lv_at hl 0 rfl) ?_
  refine va_new (ci := 6) (fs := [.int 0, .null]) (C := RX6) (T := TX6) (N := 2) hx hb hts iX6 tyX6 tyX6_ok hown (hts _ wd_103) (hts _ wd_58) (hts _ wd_59) hK hP hD hS hA rfl (by decide +kernel) (Nat.le_of_ble_eq_true rfl) (Nat.le_of_ble_eq_true rfl) dX9_init_79 (fun q_31 H hP hD hS => ?_)
  have hP : va_P D classes [(h, .inr (9, [.ref q_1, .int 0, .int (-1), .ref q_2, .ref q_6, .ref q_14, .ref q_22, .ref q_26, .null, .null, .int 0, .null, .int 0, .null, .null, .null, .null])), (q_1, .inl (cI, 240, .inl z0)), (q_2, .inr (5, [.int 0, .int (-1), .ref u_3, .int 0, .int 0, .int 0, .int 0])), (u_3, .inl (cI, 0, .inl z0)), (q_6, .inr (8, [.int 0, .int 1, .int 0, .int 0, .int 0, .ref q_9, .ref q_10, .ref q_11, .ref q_12, .ref q_13])), (q_9, .inl (cI, 6, .inl z0)), (q_10, .inl (cI, 6, .inl z0)), (q_11, .inl (cI, 30, .inl z0)), (q_12, .inl (cI, 7, .inl z0)), (q_13, .inl (cI, 7, .inl z0)), (q_14, .inr (8, [.int 0, .int 1, .int 0, .int 0, .int 0, .ref q_17, .ref q_18, .ref q_19, .ref q_20, .ref q_21])), (q_17, .inl (cI, 6, .inl z0)), (q_18, .inl (cI, 6, .inl z0)), (q_19, .inl (cI, 30, .inl z0)), (q_20, .inl (cI, 7, .inl z0)), (q_21, .inl (cI, 7, .inl z0)), (q_22, .inr (7, [.ref u_23])), (u_23, .inl (cI, 41, .inl z0)), (q_26, .inr (2, [.ref q_29, .int 0, .int 0])), (q_29, .inr (6, [.int 20, .ref q_30])), (q_30, .inl (cI, 820, .inl z0)), (q_31, .inr (6, [.int 0, .null]))] H := hP
  have hD : va_D A [(h, .inr (9, [.ref q_1, .int 0, .int (-1), .ref q_2, .ref q_6, .ref q_14, .ref q_22, .ref q_26, .null, .null, .int 0, .null, .int 0, .null, .null, .null, .null])), (q_1, .inl (cI, 240, .inl z0)), (q_2, .inr (5, [.int 0, .int (-1), .ref u_3, .int 0, .int 0, .int 0, .int 0])), (u_3, .inl (cI, 0, .inl z0)), (q_6, .inr (8, [.int 0, .int 1, .int 0, .int 0, .int 0, .ref q_9, .ref q_10, .ref q_11, .ref q_12, .ref q_13])), (q_9, .inl (cI, 6, .inl z0)), (q_10, .inl (cI, 6, .inl z0)), (q_11, .inl (cI, 30, .inl z0)), (q_12, .inl (cI, 7, .inl z0)), (q_13, .inl (cI, 7, .inl z0)), (q_14, .inr (8, [.int 0, .int 1, .int 0, .int 0, .int 0, .ref q_17, .ref q_18, .ref q_19, .ref q_20, .ref q_21])), (q_17, .inl (cI, 6, .inl z0)), (q_18, .inl (cI, 6, .inl z0)), (q_19, .inl (cI, 30, .inl z0)), (q_20, .inl (cI, 7, .inl z0)), (q_21, .inl (cI, 7, .inl z0)), (q_22, .inr (7, [.ref u_23])), (u_23, .inl (cI, 41, .inl z0)), (q_26, .inr (2, [.ref q_29, .int 0, .int 0])), (q_29, .inr (6, [.int 20, .ref q_30])), (q_30, .inl (cI, 820, .inl z0)), (q_31, .inr (6, [.int 0, .null]))] := hD
  refine W.widen (k := 21) (n := 1248) (Nat.le_of_ble_eq_true rfl) (Nat.le_of_ble_eq_true rfl) ?_
  refine lv_dup hx hb dX9_init_82 rfl ?_
  refine lv_iconst (v := 2) hx hb dX9_init_83 (by decide) ?_
  refine cIv (wr := [(h, .inr (9, [.ref q_1, .int 0, .int (-1), .ref q_2, .ref q_6, .ref q_14, .ref q_22, .ref q_26, .null, .null, .int 0, .null, .int 0, .null, .null, .null, .null])), (q_1, .inl (cI, 240, .inl z0)), (q_2, .inr (5, [.int 0, .int (-1), .ref u_3, .int 0, .int 0, .int 0, .int 0])), (u_3, .inl (cI, 0, .inl z0)), (q_6, .inr (8, [.int 0, .int 1, .int 0, .int 0, .int 0, .ref q_9, .ref q_10, .ref q_11, .ref q_12, .ref q_13])), (q_9, .inl (cI, 6, .inl z0)), (q_10, .inl (cI, 6, .inl z0)), (q_11, .inl (cI, 30, .inl z0)), (q_12, .inl (cI, 7, .inl z0)), (q_13, .inl (cI, 7, .inl z0)), (q_14, .inr (8, [.int 0, .int 1, .int 0, .int 0, .int 0, .ref q_17, .ref q_18, .ref q_19, .ref q_20, .ref q_21])), (q_17, .inl (cI, 6, .inl z0)), (q_18, .inl (cI, 6, .inl z0)), (q_19, .inl (cI, 30, .inl z0)), (q_20, .inl (cI, 7, .inl z0)), (q_21, .inl (cI, 7, .inl z0)), (q_22, .inr (7, [.ref u_23])), (u_23, .inl (cI, 41, .inl z0)), (q_26, .inr (2, [.ref q_29, .int 0, .int 0])), (q_29, .inr (6, [.int 20, .ref q_30])), (q_30, .inl (cI, 820, .inl z0))]) (rest := [.ref q_31, .ref h]) (k_shelf_init2 q_31) okI_X6_init wd_104 hx hb hml hown hts hK hP hD hS hA hN hl.1 [21] [0, 1, 2, 3, 4, 5, 6, 7, 8, 9, 10, 11, 12, 13, 14, 15, 16, 17, 18, 19, 20] rfl rfl rfl rfl (by decide) rfl (Nat.le_of_ble_eq_true rfl) (Nat.le_of_ble_eq_true rfl) (Nat.le_of_ble_eq_true rfl) (Nat.le_of_ble_eq_true rfl) (Nat.le_of_ble_eq_true rfl) dX9_init_84 (fun u_32 H locs hw_u_32 hP hD hS => ?_)
  refine W.widen (k := 22) (n := 1330) (Nat.le_of_ble_eq_true rfl) (Nat.le_of_ble_eq_true rfl) ?_
  have hP : va_P D classes [(h, .inr (9, [.ref q_1, .int 0, .int (-1), .ref q_2, .ref q_6, .ref q_14, .ref q_22, .ref q_26, .null, .null, .int 0, .null, .int 0, .null, .null, .null, .null])), (q_1, .inl (cI, 240, .inl z0)), (q_2, .inr (5, [.int 0, .int (-1), .ref u_3, .int 0, .int 0, .int 0, .int 0])), (u_3, .inl (cI, 0, .inl z0)), (q_6, .inr (8, [.int 0, .int 1, .int 0, .int 0, .int 0, .ref q_9, .ref q_10, .ref q_11, .ref q_12, .ref q_13])), (q_9, .inl (cI, 6, .inl z0)), (q_10, .inl (cI, 6, .inl z0)), (q_11, .inl (cI, 30, .inl z0)), (q_12, .inl (cI, 7, .inl z0)), (q_13, .inl (cI, 7, .inl z0)), (q_14, .inr (8, [.int 0, .int 1, .int 0, .int 0, .int 0, .ref q_17, .ref q_18, .ref q_19, .ref q_20, .ref q_21])), (q_17, .inl (cI, 6, .inl z0)), (q_18, .inl (cI, 6, .inl z0)), (q_19, .inl (cI, 30, .inl z0)), (q_20, .inl (cI, 7, .inl z0)), (q_21, .inl (cI, 7, .inl z0)), (q_22, .inr (7, [.ref u_23])), (u_23, .inl (cI, 41, .inl z0)), (q_26, .inr (2, [.ref q_29, .int 0, .int 0])), (q_29, .inr (6, [.int 20, .ref q_30])), (q_30, .inl (cI, 820, .inl z0)), (q_31, .inr (6, [.int 2, .ref u_32])), (u_32, .inl (cI, 82, .inl z0))] H := hP
  have hD : va_D A [(h, .inr (9, [.ref q_1, .int 0, .int (-1), .ref q_2, .ref q_6, .ref q_14, .ref q_22, .ref q_26, .null, .null, .int 0, .null, .int 0, .null, .null, .null, .null])), (q_1, .inl (cI, 240, .inl z0)), (q_2, .inr (5, [.int 0, .int (-1), .ref u_3, .int 0, .int 0, .int 0, .int 0])), (u_3, .inl (cI, 0, .inl z0)), (q_6, .inr (8, [.int 0, .int 1, .int 0, .int 0, .int 0, .ref q_9, .ref q_10, .ref q_11, .ref q_12, .ref q_13])), (q_9, .inl (cI, 6, .inl z0)), (q_10, .inl (cI, 6, .inl z0)), (q_11, .inl (cI, 30, .inl z0)), (q_12, .inl (cI, 7, .inl z0)), (q_13, .inl (cI, 7, .inl z0)), (q_14, .inr (8, [.int 0, .int 1, .int 0, .int 0, .int 0, .ref q_17, .ref q_18, .ref q_19, .ref q_20, .ref q_21])), (q_17, .inl (cI, 6, .inl z0)), (q_18, .inl (cI, 6, .inl z0)), (q_19, .inl (cI, 30, .inl z0)), (q_20, .inl (cI, 7, .inl z0)), (q_21, .inl (cI, 7, .inl z0)), (q_22, .inr (7, [.ref u_23])), (u_23, .inl (cI, 41, .inl z0)), (q_26, .inr (2, [.ref q_29, .int 0, .int 0])), (q_29, .inr (6, [.int 20, .ref q_30])), (q_30, .inl (cI, 820, .inl z0)), (q_31, .inr (6, [.int 2, .ref u_32])), (u_32, .inl (cI, 82, .inl z0))] := hD
  refine va_putF (D := D) (ci := 9) (v := .ref q_31) (ty := (.object "QuarrelBridges$Shelf")) (C := RX9) (T := TX9) (N := 17) hx hb hts iX9 tyX9 tyX9_ok nmX9 hown hK hP hD hS 0 rfl rfl 8 (by decide) (hts _ wd_105) (fun _ h9 => h9) rfl hin rfl (by decide +kernel) rfl rfl (Nat.le_of_ble_eq_true rfl) dX9_init_87 (fun H locs hP hD hS => ?_)
  have hP : va_P D classes [(h, .inr (9, [.ref q_1, .int 0, .int (-1), .ref q_2, .ref q_6, .ref q_14, .ref q_22, .ref q_26, .ref q_31, .null, .int 0, .null, .int 0, .null, .null, .null, .null])), (q_1, .inl (cI, 240, .inl z0)), (q_2, .inr (5, [.int 0, .int (-1), .ref u_3, .int 0, .int 0, .int 0, .int 0])), (u_3, .inl (cI, 0, .inl z0)), (q_6, .inr (8, [.int 0, .int 1, .int 0, .int 0, .int 0, .ref q_9, .ref q_10, .ref q_11, .ref q_12, .ref q_13])), (q_9, .inl (cI, 6, .inl z0)), (q_10, .inl (cI, 6, .inl z0)), (q_11, .inl (cI, 30, .inl z0)), (q_12, .inl (cI, 7, .inl z0)), (q_13, .inl (cI, 7, .inl z0)), (q_14, .inr (8, [.int 0, .int 1, .int 0, .int 0, .int 0, .ref q_17, .ref q_18, .ref q_19, .ref q_20, .ref q_21])), (q_17, .inl (cI, 6, .inl z0)), (q_18, .inl (cI, 6, .inl z0)), (q_19, .inl (cI, 30, .inl z0)), (q_20, .inl (cI, 7, .inl z0)), (q_21, .inl (cI, 7, .inl z0)), (q_22, .inr (7, [.ref u_23])), (u_23, .inl (cI, 41, .inl z0)), (q_26, .inr (2, [.ref q_29, .int 0, .int 0])), (q_29, .inr (6, [.int 20, .ref q_30])), (q_30, .inl (cI, 820, .inl z0)), (q_31, .inr (6, [.int 2, .ref u_32])), (u_32, .inl (cI, 82, .inl z0))] H := hP
  have hD : va_D A [(h, .inr (9, [.ref q_1, .int 0, .int (-1), .ref q_2, .ref q_6, .ref q_14, .ref q_22, .ref q_26, .ref q_31, .null, .int 0, .null, .int 0, .null, .null, .null, .null])), (q_1, .inl (cI, 240, .inl z0)), (q_2, .inr (5, [.int 0, .int (-1), .ref u_3, .int 0, .int 0, .int 0, .int 0])), (u_3, .inl (cI, 0, .inl z0)), (q_6, .inr (8, [.int 0, .int 1, .int 0, .int 0, .int 0, .ref q_9, .ref q_10, .ref q_11, .ref q_12, .ref q_13])), (q_9, .inl (cI, 6, .inl z0)), (q_10, .inl (cI, 6, .inl z0)), (q_11, .inl (cI, 30, .inl z0)), (q_12, .inl (cI, 7, .inl z0)), (q_13, .inl (cI, 7, .inl z0)), (q_14, .inr (8, [.int 0, .int 1, .int 0, .int 0, .int 0, .ref q_17, .ref q_18, .ref q_19, .ref q_20, .ref q_21])), (q_17, .inl (cI, 6, .inl z0)), (q_18, .inl (cI, 6, .inl z0)), (q_19, .inl (cI, 30, .inl z0)), (q_20, .inl (cI, 7, .inl z0)), (q_21, .inl (cI, 7, .inl z0)), (q_22, .inr (7, [.ref u_23])), (u_23, .inl (cI, 41, .inl z0)), (q_26, .inr (2, [.ref q_29, .int 0, .int 0])), (q_29, .inr (6, [.int 20, .ref q_30])), (q_30, .inl (cI, 820, .inl z0)), (q_31, .inr (6, [.int 2, .ref u_32])), (u_32, .inl (cI, 82, .inl z0))] := hD
  refine lv_aload_n hx hb dX9_init_90 rfl (lv_at hl 0 rfl) ?_
  refine lv_iconst (v := 2) hx hb dX9_init_91 (by decide) ?_
  refine va_newa (atype := .int) (a0 := (2, .inl z0)) (N' := 2) (ty := .int) hx hb (hts _ wd_8) rfl hK hP hD hS hA (fun cA => z0_int 2 cA) (by decide +kernel) (by decide +kernel) (by decide +kernel) (Nat.le_of_ble_eq_true rfl) (Nat.le_of_ble_eq_true rfl) dX9_init_92 (fun q_35 cA_q_35 H hKn hP hD hS => ?_)
  obtain rfl := (K_int hKn).symm
  have hP : va_P D classes [(h, .inr (9, [.ref q_1, .int 0, .int (-1), .ref q_2, .ref q_6, .ref q_14, .ref q_22, .ref q_26, .ref q_31, .null, .int 0, .null, .int 0, .null, .null, .null, .null])), (q_1, .inl (cI, 240, .inl z0)), (q_2, .inr (5, [.int 0, .int (-1), .ref u_3, .int 0, .int 0, .int 0, .int 0])), (u_3, .inl (cI, 0, .inl z0)), (q_6, .inr (8, [.int 0, .int 1, .int 0, .int 0, .int 0, .ref q_9, .ref q_10, .ref q_11, .ref q_12, .ref q_13])), (q_9, .inl (cI, 6, .inl z0)), (q_10, .inl (cI, 6, .inl z0)), (q_11, .inl (cI, 30, .inl z0)), (q_12, .inl (cI, 7, .inl z0)), (q_13, .inl (cI, 7, .inl z0)), (q_14, .inr (8, [.int 0, .int 1, .int 0, .int 0, .int 0, .ref q_17, .ref q_18, .ref q_19, .ref q_20, .ref q_21])), (q_17, .inl (cI, 6, .inl z0)), (q_18, .inl (cI, 6, .inl z0)), (q_19, .inl (cI, 30, .inl z0)), (q_20, .inl (cI, 7, .inl z0)), (q_21, .inl (cI, 7, .inl z0)), (q_22, .inr (7, [.ref u_23])), (u_23, .inl (cI, 41, .inl z0)), (q_26, .inr (2, [.ref q_29, .int 0, .int 0])), (q_29, .inr (6, [.int 20, .ref q_30])), (q_30, .inl (cI, 820, .inl z0)), (q_31, .inr (6, [.int 2, .ref u_32])), (u_32, .inl (cI, 82, .inl z0)), (q_35, .inl (cI, 2, .inl z0))] H := hP
  have hD : va_D A [(h, .inr (9, [.ref q_1, .int 0, .int (-1), .ref q_2, .ref q_6, .ref q_14, .ref q_22, .ref q_26, .ref q_31, .null, .int 0, .null, .int 0, .null, .null, .null, .null])), (q_1, .inl (cI, 240, .inl z0)), (q_2, .inr (5, [.int 0, .int (-1), .ref u_3, .int 0, .int 0, .int 0, .int 0])), (u_3, .inl (cI, 0, .inl z0)), (q_6, .inr (8, [.int 0, .int 1, .int 0, .int 0, .int 0, .ref q_9, .ref q_10, .ref q_11, .ref q_12, .ref q_13])), (q_9, .inl (cI, 6, .inl z0)), (q_10, .inl (cI, 6, .inl z0)), (q_11, .inl (cI, 30, .inl z0)), (q_12, .inl (cI, 7, .inl z0)), (q_13, .inl (cI, 7, .inl z0)), (q_14, .inr (8, [.int 0, .int 1, .int 0, .int 0, .int 0, .ref q_17, .ref q_18, .ref q_19, .ref q_20, .ref q_21])), (q_17, .inl (cI, 6, .inl z0)), (q_18, .inl (cI, 6, .inl z0)), (q_19, .inl (cI, 30, .inl z0)), (q_20, .inl (cI, 7, .inl z0)), (q_21, .inl (cI, 7, .inl z0)), (q_22, .inr (7, [.ref u_23])), (u_23, .inl (cI, 41, .inl z0)), (q_26, .inr (2, [.ref q_29, .int 0, .int 0])), (q_29, .inr (6, [.int 20, .ref q_30])), (q_30, .inl (cI, 820, .inl z0)), (q_31, .inr (6, [.int 2, .ref u_32])), (u_32, .inl (cI, 82, .inl z0)), (q_35, .inl (cI, 2, .inl z0))] := hD
  refine W.widen (k := 23) (n := 1332) (Nat.le_of_ble_eq_true rfl) (Nat.le_of_ble_eq_true rfl) ?_
  refine va_putF (D := D) (ci := 9) (v := .ref q_35) (ty := (.array .int)) (C := RX9) (T := TX9) (N := 17) hx hb hts iX9 tyX9 tyX9_ok nmX9 hown hK hP hD hS 0 rfl rfl 9 (by decide) (hts _ wd_106) (fun _ h9 => h9) rfl hin rfl (by decide +kernel) rfl rfl (Nat.le_of_ble_eq_true rfl) dX9_init_94 (fun H locs hP hD hS => ?_)
  have hP : va_P D classes [(h, .inr (9, [.ref q_1, .int 0, .int (-1), .ref q_2, .ref q_6, .ref q_14, .ref q_22, .ref q_26, .ref q_31, .ref q_35, .int 0, .null, .int 0, .null, .null, .null, .null])), (q_1, .inl (cI, 240, .inl z0)), (q_2, .inr (5, [.int 0, .int (-1), .ref u_3, .int 0, .int 0, .int 0, .int 0])), (u_3, .inl (cI, 0, .inl z0)), (q_6, .inr (8, [.int 0, .int 1, .int 0, .int 0, .int 0, .ref q_9, .ref q_10, .ref q_11, .ref q_12, .ref q_13])), (q_9, .inl (cI, 6, .inl z0)), (q_10, .inl (cI, 6, .inl z0)), (q_11, .inl (cI, 30, .inl z0)), (q_12, .inl (cI, 7, .inl z0)), (q_13, .inl (cI, 7, .inl z0)), (q_14, .inr (8, [.int 0, .int 1, .int 0, .int 0, .int 0, .ref q_17, .ref q_18, .ref q_19, .ref q_20, .ref q_21])), (q_17, .inl (cI, 6, .inl z0)), (q_18, .inl (cI, 6, .inl z0)), (q_19, .inl (cI, 30, .inl z0)), (q_20, .inl (cI, 7, .inl z0)), (q_21, .inl (cI, 7, .inl z0)), (q_22, .inr (7, [.ref u_23])), (u_23, .inl (cI, 41, .inl z0)), (q_26, .inr (2, [.ref q_29, .int 0, .int 0])), (q_29, .inr (6, [.int 20, .ref q_30])), (q_30, .inl (cI, 820, .inl z0)), (q_31, .inr (6, [.int 2, .ref u_32])), (u_32, .inl (cI, 82, .inl z0)), (q_35, .inl (cI, 2, .inl z0))] H := hP
  have hD : va_D A [(h, .inr (9, [.ref q_1, .int 0, .int (-1), .ref q_2, .ref q_6, .ref q_14, .ref q_22, .ref q_26, .ref q_31, .ref q_35, .int 0, .null, .int 0, .null, .null, .null, .null])), (q_1, .inl (cI, 240, .inl z0)), (q_2, .inr (5, [.int 0, .int (-1), .ref u_3, .int 0, .int 0, .int 0, .int 0])), (u_3, .inl (cI, 0, .inl z0)), (q_6, .inr (8, [.int 0, .int 1, .int 0, .int 0, .int 0, .ref q_9, .ref q_10, .ref q_11, .ref q_12, .ref q_13])), (q_9, .inl (cI, 6, .inl z0)), (q_10, .inl (cI, 6, .inl z0)), (q_11, .inl (cI, 30, .inl z0)), (q_12, .inl (cI, 7, .inl z0)), (q_13, .inl (cI, 7, .inl z0)), (q_14, .inr (8, [.int 0, .int 1, .int 0, .int 0, .int 0, .ref q_17, .ref q_18, .ref q_19, .ref q_20, .ref q_21])), (q_17, .inl (cI, 6, .inl z0)), (q_18, .inl (cI, 6, .inl z0)), (q_19, .inl (cI, 30, .inl z0)), (q_20, .inl (cI, 7, .inl z0)), (q_21, .inl (cI, 7, .inl z0)), (q_22, .inr (7, [.ref u_23])), (u_23, .inl (cI, 41, .inl z0)), (q_26, .inr (2, [.ref q_29, .int 0, .int 0])), (q_29, .inr (6, [.int 20, .ref q_30])), (q_30, .inl (cI, 820, .inl z0)), (q_31, .inr (6, [.int 2, .ref u_32])), (u_32, .inl (cI, 82, .inl z0)), (q_35, .inl (cI, 2, .inl z0))] := hD
  refine lv_aload_n hx hb dX9_init_97 rfl (lv_at hl 0 rfl) ?_
  refine lv_iconst (v := 0) hx hb dX9_init_98 (by decide) ?_
  refine va_put (D := D) (ci := 9) (v := .int 0) (ty := .int) (C := RX9) (T := TX9) (N := 17) hx hb hts iX9 tyX9 tyX9_ok nmX9 hown hK hP hD hS 0 rfl rfl 10 (by decide) (hts _ wd_107) (fun _ h9 => h9) rfl (by decide +kernel) rfl rfl (Nat.le_of_ble_eq_true rfl) dX9_init_99 (fun H locs hP hD hS => ?_)
  have hP : va_P D classes [(h, .inr (9, [.ref q_1, .int 0, .int (-1), .ref q_2, .ref q_6, .ref q_14, .ref q_22, .ref q_26, .ref q_31, .ref q_35, .int 0, .null, .int 0, .null, .null, .null, .null])), (q_1, .inl (cI, 240, .inl z0)), (q_2, .inr (5, [.int 0, .int (-1), .ref u_3, .int 0, .int 0, .int 0, .int 0])), (u_3, .inl (cI, 0, .inl z0)), (q_6, .inr (8, [.int 0, .int 1, .int 0, .int 0, .int 0, .ref q_9, .ref q_10, .ref q_11, .ref q_12, .ref q_13])), (q_9, .inl (cI, 6, .inl z0)), (q_10, .inl (cI, 6, .inl z0)), (q_11, .inl (cI, 30, .inl z0)), (q_12, .inl (cI, 7, .inl z0)), (q_13, .inl (cI, 7, .inl z0)), (q_14, .inr (8, [.int 0, .int 1, .int 0, .int 0, .int 0, .ref q_17, .ref q_18, .ref q_19, .ref q_20, .ref q_21])), (q_17, .inl (cI, 6, .inl z0)), (q_18, .inl (cI, 6, .inl z0)), (q_19, .inl (cI, 30, .inl z0)), (q_20, .inl (cI, 7, .inl z0)), (q_21, .inl (cI, 7, .inl z0)), (q_22, .inr (7, [.ref u_23])), (u_23, .inl (cI, 41, .inl z0)), (q_26, .inr (2, [.ref q_29, .int 0, .int 0])), (q_29, .inr (6, [.int 20, .ref q_30])), (q_30, .inl (cI, 820, .inl z0)), (q_31, .inr (6, [.int 2, .ref u_32])), (u_32, .inl (cI, 82, .inl z0)), (q_35, .inl (cI, 2, .inl z0))] H := hP
  have hD : va_D A [(h, .inr (9, [.ref q_1, .int 0, .int (-1), .ref q_2, .ref q_6, .ref q_14, .ref q_22, .ref q_26, .ref q_31, .ref q_35, .int 0, .null, .int 0, .null, .null, .null, .null])), (q_1, .inl (cI, 240, .inl z0)), (q_2, .inr (5, [.int 0, .int (-1), .ref u_3, .int 0, .int 0, .int 0, .int 0])), (u_3, .inl (cI, 0, .inl z0)), (q_6, .inr (8, [.int 0, .int 1, .int 0, .int 0, .int 0, .ref q_9, .ref q_10, .ref q_11, .ref q_12, .ref q_13])), (q_9, .inl (cI, 6, .inl z0)), (q_10, .inl (cI, 6, .inl z0)), (q_11, .inl (cI, 30, .inl z0)), (q_12, .inl (cI, 7, .inl z0)), (q_13, .inl (cI, 7, .inl z0)), (q_14, .inr (8, [.int 0, .int 1, .int 0, .int 0, .int 0, .ref q_17, .ref q_18, .ref q_19, .ref q_20, .ref q_21])), (q_17, .inl (cI, 6, .inl z0)), (q_18, .inl (cI, 6, .inl z0)), (q_19, .inl (cI, 30, .inl z0)), (q_20, .inl (cI, 7, .inl z0)), (q_21, .inl (cI, 7, .inl z0)), (q_22, .inr (7, [.ref u_23])), (u_23, .inl (cI, 41, .inl z0)), (q_26, .inr (2, [.ref q_29, .int 0, .int 0])), (q_29, .inr (6, [.int 20, .ref q_30])), (q_30, .inl (cI, 820, .inl z0)), (q_31, .inr (6, [.int 2, .ref u_32])), (u_32, .inl (cI, 82, .inl z0)), (q_35, .inl (cI, 2, .inl z0))] := hD
  refine lv_aload_n hx hb dX9_init_102 rfl (lv_at hl 0 rfl) ?_
  refine va_new (ci := 0) (fs := [.int 0, .null, .null]) (C := RX0) (T := TX0) (N := 3) hx hb hts iX0 tyX0 tyX0_ok hown (hts _ wd_108) (hts _ wd_109) (hts _ wd_110) hK hP hD hS hA rfl (by decide +kernel) (Nat.le_of_ble_eq_true rfl) (Nat.le_of_ble_eq_true rfl) dX9_init_103 (fun q_36 H hP hD hS => ?_)
  have hP : va_P D classes [(h, .inr (9, [.ref q_1, .int 0, .int (-1), .ref q_2, .ref q_6, .ref q_14, .ref q_22, .ref q_26, .ref q_31, .ref q_35, .int 0, .null, .int 0, .null, .null, .null, .null])), (q_1, .inl (cI, 240, .inl z0)), (q_2, .inr (5, [.int 0, .int (-1), .ref u_3, .int 0, .int 0, .int 0, .int 0])), (u_3, .inl (cI, 0, .inl z0)), (q_6, .inr (8, [.int 0, .int 1, .int 0, .int 0, .int 0, .ref q_9, .ref q_10, .ref q_11, .ref q_12, .ref q_13])), (q_9, .inl (cI, 6, .inl z0)), (q_10, .inl (cI, 6, .inl z0)), (q_11, .inl (cI, 30, .inl z0)), (q_12, .inl (cI, 7, .inl z0)), (q_13, .inl (cI, 7, .inl z0)), (q_14, .inr (8, [.int 0, .int 1, .int 0, .int 0, .int 0, .ref q_17, .ref q_18, .ref q_19, .ref q_20, .ref q_21])), (q_17, .inl (cI, 6, .inl z0)), (q_18, .inl (cI, 6, .inl z0)), (q_19, .inl (cI, 30, .inl z0)), (q_20, .inl (cI, 7, .inl z0)), (q_21, .inl (cI, 7, .inl z0)), (q_22, .inr (7, [.ref u_23])), (u_23, .inl (cI, 41, .inl z0)), (q_26, .inr (2, [.ref q_29, .int 0, .int 0])), (q_29, .inr (6, [.int 20, .ref q_30])), (q_30, .inl (cI, 820, .inl z0)), (q_31, .inr (6, [.int 2, .ref u_32])), (u_32, .inl (cI, 82, .inl z0)), (q_35, .inl (cI, 2, .inl z0)), (q_36, .inr (0, [.int 0, .null, .null]))] H := hP
  have hD : va_D A [(h, .inr (9, [.ref q_1, .int 0, .int (-1), .ref q_2, .ref q_6, .ref q_14, .ref q_22, .ref q_26, .ref q_31, .ref q_35, .int 0, .null, .int 0, .null, .null, .null, .null])), (q_1, .inl (cI, 240, .inl z0)), (q_2, .inr (5, [.int 0, .int (-1), .ref u_3, .int 0, .int 0, .int 0, .int 0])), (u_3, .inl (cI, 0, .inl z0)), (q_6, .inr (8, [.int 0, .int 1, .int 0, .int 0, .int 0, .ref q_9, .ref q_10, .ref q_11, .ref q_12, .ref q_13])), (q_9, .inl (cI, 6, .inl z0)), (q_10, .inl (cI, 6, .inl z0)), (q_11, .inl (cI, 30, .inl z0)), (q_12, .inl (cI, 7, .inl z0)), (q_13, .inl (cI, 7, .inl z0)), (q_14, .inr (8, [.int 0, .int 1, .int 0, .int 0, .int 0, .ref q_17, .ref q_18, .ref q_19, .ref q_20, .ref q_21])), (q_17, .inl (cI, 6, .inl z0)), (q_18, .inl (cI, 6, .inl z0)), (q_19, .inl (cI, 30, .inl z0)), (q_20, .inl (cI, 7, .inl z0)), (q_21, .inl (cI, 7, .inl z0)), (q_22, .inr (7, [.ref u_23])), (u_23, .inl (cI, 41, .inl z0)), (q_26, .inr (2, [.ref q_29, .int 0, .int 0])), (q_29, .inr (6, [.int 20, .ref q_30])), (q_30, .inl (cI, 820, .inl z0)), (q_31, .inr (6, [.int 2, .ref u_32])), (u_32, .inl (cI, 82, .inl z0)), (q_35, .inl (cI, 2, .inl z0)), (q_36, .inr (0, [.int 0, .null, .null]))] := hD
  refine W.widen (k := 24) (n := 1335) (Nat.le_of_ble_eq_true rfl) (Nat.le_of_ble_eq_true rfl) ?_
  refine lv_dup hx hb dX9_init_106 rfl ?_
  refine cMv (wr := [(h, .inr (9, [.ref q_1, .int 0, .int (-1), .ref q_2, .ref q_6, .ref q_14, .ref q_22, .ref q_26, .ref q_31, .ref q_35, .int 0, .null, .int 0, .null, .null, .null, .null])), (q_1, .inl (cI, 240, .inl z0)), (q_2, .inr (5, [.int 0, .int (-1), .ref u_3, .int 0, .int 0, .int 0, .int 0])), (u_3, .inl (cI, 0, .inl z0)), (q_6, .inr (8, [.int 0, .int 1, .int 0, .int 0, .int 0, .ref q_9, .ref q_10, .ref q_11, .ref q_12, .ref q_13])), (q_9, .inl (cI, 6, .inl z0)), (q_10, .inl (cI, 6, .inl z0)), (q_11, .inl (cI, 30, .inl z0)), (q_12, .inl (cI, 7, .inl z0)), (q_13, .inl (cI, 7, .inl z0)), (q_14, .inr (8, [.int 0, .int 1, .int 0, .int 0, .int 0, .ref q_17, .ref q_18, .ref q_19, .ref q_20, .ref q_21])), (q_17, .inl (cI, 6, .inl z0)), (q_18, .inl (cI, 6, .inl z0)), (q_19, .inl (cI, 30, .inl z0)), (q_20, .inl (cI, 7, .inl z0)), (q_21, .inl (cI, 7, .inl z0)), (q_22, .inr (7, [.ref u_23])), (u_23, .inl (cI, 41, .inl z0)), (q_26, .inr (2, [.ref q_29, .int 0, .int 0])), (q_29, .inr (6, [.int 20, .ref q_30])), (q_30, .inl (cI, 820, .inl z0)), (q_31, .inr (6, [.int 2, .ref u_32])), (u_32, .inl (cI, 82, .inl z0)), (q_35, .inl (cI, 2, .inl z0))]) (rest := [.ref q_36, .ref h]) (k_book_init q_36) okI_X0_init 4 rfl hx hb hml hown hts hK hP hD hS hA hN hl.1 [24] [0, 1, 2, 3, 4, 5, 6, 7, 8, 9, 10, 11, 12, 13, 14, 15, 16, 17, 18, 19, 20, 21, 22, 23] rfl rfl rfl rfl (by decide) rfl (Nat.le_of_ble_eq_true rfl) (Nat.le_of_ble_eq_true rfl) (Nat.le_of_ble_eq_true rfl) (Nat.le_of_ble_eq_true rfl) (Nat.le_of_ble_eq_true rfl) dX9_init_107 (fun u_37 H locs hw_u_37 hP hD hS => ?_)
  obtain ⟨q_39, q_40⟩ := u_37
  refine W.widen (k := 26) (n := 1365) (Nat.le_of_ble_eq_true rfl) (Nat.le_of_ble_eq_true rfl) ?_
  have hP : va_P D classes [(h, .inr (9, [.ref q_1, .int 0, .int (-1), .ref q_2, .ref q_6, .ref q_14, .ref q_22, .ref q_26, .ref q_31, .ref q_35, .int 0, .null, .int 0, .null, .null, .null, .null])), (q_1, .inl (cI, 240, .inl z0)), (q_2, .inr (5, [.int 0, .int (-1), .ref u_3, .int 0, .int 0, .int 0, .int 0])), (u_3, .inl (cI, 0, .inl z0)), (q_6, .inr (8, [.int 0, .int 1, .int 0, .int 0, .int 0, .ref q_9, .ref q_10, .ref q_11, .ref q_12, .ref q_13])), (q_9, .inl (cI, 6, .inl z0)), (q_10, .inl (cI, 6, .inl z0)), (q_11, .inl (cI, 30, .inl z0)), (q_12, .inl (cI, 7, .inl z0)), (q_13, .inl (cI, 7, .inl z0)), (q_14, .inr (8, [.int 0, .int 1, .int 0, .int 0, .int 0, .ref q_17, .ref q_18, .ref q_19, .ref q_20, .ref q_21])), (q_17, .inl (cI, 6, .inl z0)), (q_18, .inl (cI, 6, .inl z0)), (q_19, .inl (cI, 30, .inl z0)), (q_20, .inl (cI, 7, .inl z0)), (q_21, .inl (cI, 7, .inl z0)), (q_22, .inr (7, [.ref u_23])), (u_23, .inl (cI, 41, .inl z0)), (q_26, .inr (2, [.ref q_29, .int 0, .int 0])), (q_29, .inr (6, [.int 20, .ref q_30])), (q_30, .inl (cI, 820, .inl z0)), (q_31, .inr (6, [.int 2, .ref u_32])), (u_32, .inl (cI, 82, .inl z0)), (q_35, .inl (cI, 2, .inl z0)), (q_36, .inr (0, [.int 0, .ref q_39, .ref q_40])), (q_39, .inl (cI, 15, .inl z0)), (q_40, .inl (cI, 15, .inl z0))] H := hP
  have hD : va_D A [(h, .inr (9, [.ref q_1, .int 0, .int (-1), .ref q_2, .ref q_6, .ref q_14, .ref q_22, .ref q_26, .ref q_31, .ref q_35, .int 0, .null, .int 0, .null, .null, .null, .null])), (q_1, .inl (cI, 240, .inl z0)), (q_2, .inr (5, [.int 0, .int (-1), .ref u_3, .int 0, .int 0, .int 0, .int 0])), (u_3, .inl (cI, 0, .inl z0)), (q_6, .inr (8, [.int 0, .int 1, .int 0, .int 0, .int 0, .ref q_9, .ref q_10, .ref q_11, .ref q_12, .ref q_13])), (q_9, .inl (cI, 6, .inl z0)), (q_10, .inl (cI, 6, .inl z0)), (q_11, .inl (cI, 30, .inl z0)), (q_12, .inl (cI, 7, .inl z0)), (q_13, .inl (cI, 7, .inl z0)), (q_14, .inr (8, [.int 0, .int 1, .int 0, .int 0, .int 0, .ref q_17, .ref q_18, .ref q_19, .ref q_20, .ref q_21])), (q_17, .inl (cI, 6, .inl z0)), (q_18, .inl (cI, 6, .inl z0)), (q_19, .inl (cI, 30, .inl z0)), (q_20, .inl (cI, 7, .inl z0)), (q_21, .inl (cI, 7, .inl z0)), (q_22, .inr (7, [.ref u_23])), (u_23, .inl (cI, 41, .inl z0)), (q_26, .inr (2, [.ref q_29, .int 0, .int 0])), (q_29, .inr (6, [.int 20, .ref q_30])), (q_30, .inl (cI, 820, .inl z0)), (q_31, .inr (6, [.int 2, .ref u_32])), (u_32, .inl (cI, 82, .inl z0)), (q_35, .inl (cI, 2, .inl z0)), (q_36, .inr (0, [.int 0, .ref q_39, .ref q_40])), (q_39, .inl (cI, 15, .inl z0)), (q_40, .inl (cI, 15, .inl z0))] := hD
  refine va_putF (D := D) (ci := 9) (v := .ref q_36) (ty := (.object "QuarrelBridges$Book")) (C := RX9) (T := TX9) (N := 17) hx hb hts iX9 tyX9 tyX9_ok nmX9 hown hK hP hD hS 0 rfl rfl 11 (by decide) (hts _ wd_113) (fun _ h9 => h9) rfl hin rfl (by decide +kernel) rfl rfl (Nat.le_of_ble_eq_true rfl) dX9_init_110 (fun H locs hP hD hS => ?_)
  have hP : va_P D classes [(h, .inr (9, [.ref q_1, .int 0, .int (-1), .ref q_2, .ref q_6, .ref q_14, .ref q_22, .ref q_26, .ref q_31, .ref q_35, .int 0, .ref q_36, .int 0, .null, .null, .null, .null])), (q_1, .inl (cI, 240, .inl z0)), (q_2, .inr (5, [.int 0, .int (-1), .ref u_3, .int 0, .int 0, .int 0, .int 0])), (u_3, .inl (cI, 0, .inl z0)), (q_6, .inr (8, [.int 0, .int 1, .int 0, .int 0, .int 0, .ref q_9, .ref q_10, .ref q_11, .ref q_12, .ref q_13])), (q_9, .inl (cI, 6, .inl z0)), (q_10, .inl (cI, 6, .inl z0)), (q_11, .inl (cI, 30, .inl z0)), (q_12, .inl (cI, 7, .inl z0)), (q_13, .inl (cI, 7, .inl z0)), (q_14, .inr (8, [.int 0, .int 1, .int 0, .int 0, .int 0, .ref q_17, .ref q_18, .ref q_19, .ref q_20, .ref q_21])), (q_17, .inl (cI, 6, .inl z0)), (q_18, .inl (cI, 6, .inl z0)), (q_19, .inl (cI, 30, .inl z0)), (q_20, .inl (cI, 7, .inl z0)), (q_21, .inl (cI, 7, .inl z0)), (q_22, .inr (7, [.ref u_23])), (u_23, .inl (cI, 41, .inl z0)), (q_26, .inr (2, [.ref q_29, .int 0, .int 0])), (q_29, .inr (6, [.int 20, .ref q_30])), (q_30, .inl (cI, 820, .inl z0)), (q_31, .inr (6, [.int 2, .ref u_32])), (u_32, .inl (cI, 82, .inl z0)), (q_35, .inl (cI, 2, .inl z0)), (q_36, .inr (0, [.int 0, .ref q_39, .ref q_40])), (q_39, .inl (cI, 15, .inl z0)), (q_40, .inl (cI, 15, .inl z0))] H := hP
  have hD : va_D A [(h, .inr (9, [.ref q_1, .int 0, .int (-1), .ref q_2, .ref q_6, .ref q_14, .ref q_22, .ref q_26, .ref q_31, .ref q_35, .int 0, .ref q_36, .int 0, .null, .null, .null, .null])), (q_1, .inl (cI, 240, .inl z0)), (q_2, .inr (5, [.int 0, .int (-1), .ref u_3, .int 0, .int 0, .int 0, .int 0])), (u_3, .inl (cI, 0, .inl z0)), (q_6, .inr (8, [.int 0, .int 1, .int 0, .int 0, .int 0, .ref q_9, .ref q_10, .ref q_11, .ref q_12, .ref q_13])), (q_9, .inl (cI, 6, .inl z0)), (q_10, .inl (cI, 6, .inl z0)), (q_11, .inl (cI, 30, .inl z0)), (q_12, .inl (cI, 7, .inl z0)), (q_13, .inl (cI, 7, .inl z0)), (q_14, .inr (8, [.int 0, .int 1, .int 0, .int 0, .int 0, .ref q_17, .ref q_18, .ref q_19, .ref q_20, .ref q_21])), (q_17, .inl (cI, 6, .inl z0)), (q_18, .inl (cI, 6, .inl z0)), (q_19, .inl (cI, 30, .inl z0)), (q_20, .inl (cI, 7, .inl z0)), (q_21, .inl (cI, 7, .inl z0)), (q_22, .inr (7, [.ref u_23])), (u_23, .inl (cI, 41, .inl z0)), (q_26, .inr (2, [.ref q_29, .int 0, .int 0])), (q_29, .inr (6, [.int 20, .ref q_30])), (q_30, .inl (cI, 820, .inl z0)), (q_31, .inr (6, [.int 2, .ref u_32])), (u_32, .inl (cI, 82, .inl z0)), (q_35, .inl (cI, 2, .inl z0)), (q_36, .inr (0, [.int 0, .ref q_39, .ref q_40])), (q_39, .inl (cI, 15, .inl z0)), (q_40, .inl (cI, 15, .inl z0))] := hD
  refine lv_aload_n hx hb dX9_init_113 rfl (lv_at hl 0 rfl) ?_
  refine lv_iconst (v := 0) hx hb dX9_init_114 (by decide) ?_
  refine va_put (D := D) (ci := 9) (v := .int 0) (ty := .int) (C := RX9) (T := TX9) (N := 17) hx hb hts iX9 tyX9 tyX9_ok nmX9 hown hK hP hD hS 0 rfl rfl 12 (by decide) (hts _ wd_114) (fun _ h9 => h9) rfl (by decide +kernel) rfl rfl (Nat.le_of_ble_eq_true rfl) dX9_init_115 (fun H locs hP hD hS => ?_)
  have hP : va_P D classes [(h, .inr (9, [.ref q_1, .int 0, .int (-1), .ref q_2, .ref q_6, .ref q_14, .ref q_22, .ref q_26, .ref q_31, .ref q_35, .int 0, .ref q_36, .int 0, .null, .null, .null, .null])), (q_1, .inl (cI, 240, .inl z0)), (q_2, .inr (5, [.int 0, .int (-1), .ref u_3, .int 0, .int 0, .int 0, .int 0])), (u_3, .inl (cI, 0, .inl z0)), (q_6, .inr (8, [.int 0, .int 1, .int 0, .int 0, .int 0, .ref q_9, .ref q_10, .ref q_11, .ref q_12, .ref q_13])), (q_9, .inl (cI, 6, .inl z0)), (q_10, .inl (cI, 6, .inl z0)), (q_11, .inl (cI, 30, .inl z0)), (q_12, .inl (cI, 7, .inl z0)), (q_13, .inl (cI, 7, .inl z0)), (q_14, .inr (8, [.int 0, .int 1, .int 0, .int 0, .int 0, .ref q_17, .ref q_18, .ref q_19, .ref q_20, .ref q_21])), (q_17, .inl (cI, 6, .inl z0)), (q_18, .inl (cI, 6, .inl z0)), (q_19, .inl (cI, 30, .inl z0)), (q_20, .inl (cI, 7, .inl z0)), (q_21, .inl (cI, 7, .inl z0)), (q_22, .inr (7, [.ref u_23])), (u_23, .inl (cI, 41, .inl z0)), (q_26, .inr (2, [.ref q_29, .int 0, .int 0])), (q_29, .inr (6, [.int 20, .ref q_30])), (q_30, .inl (cI, 820, .inl z0)), (q_31, .inr (6, [.int 2, .ref u_32])), (u_32, .inl (cI, 82, .inl z0)), (q_35, .inl (cI, 2, .inl z0)), (q_36, .inr (0, [.int 0, .ref q_39, .ref q_40])), (q_39, .inl (cI, 15, .inl z0)), (q_40, .inl (cI, 15, .inl z0))] H := hP
  have hD : va_D A [(h, .inr (9, [.ref q_1, .int 0, .int (-1), .ref q_2, .ref q_6, .ref q_14, .ref q_22, .ref q_26, .ref q_31, .ref q_35, .int 0, .ref q_36, .int 0, .null, .null, .null, .null])), (q_1, .inl (cI, 240, .inl z0)), (q_2, .inr (5, [.int 0, .int (-1), .ref u_3, .int 0, .int 0, .int 0, .int 0])), (u_3, .inl (cI, 0, .inl z0)), (q_6, .inr (8, [.int 0, .int 1, .int 0, .int 0, .int 0, .ref q_9, .ref q_10, .ref q_11, .ref q_12, .ref q_13])), (q_9, .inl (cI, 6, .inl z0)), (q_10, .inl (cI, 6, .inl z0)), (q_11, .inl (cI, 30, .inl z0)), (q_12, .inl (cI, 7, .inl z0)), (q_13, .inl (cI, 7, .inl z0)), (q_14, .inr (8, [.int 0, .int 1, .int 0, .int 0, .int 0, .ref q_17, .ref q_18, .ref q_19, .ref q_20, .ref q_21])), (q_17, .inl (cI, 6, .inl z0)), (q_18, .inl (cI, 6, .inl z0)), (q_19, .inl (cI, 30, .inl z0)), (q_20, .inl (cI, 7, .inl z0)), (q_21, .inl (cI, 7, .inl z0)), (q_22, .inr (7, [.ref u_23])), (u_23, .inl (cI, 41, .inl z0)), (q_26, .inr (2, [.ref q_29, .int 0, .int 0])), (q_29, .inr (6, [.int 20, .ref q_30])), (q_30, .inl (cI, 820, .inl z0)), (q_31, .inr (6, [.int 2, .ref u_32])), (u_32, .inl (cI, 82, .inl z0)), (q_35, .inl (cI, 2, .inl z0)), (q_36, .inr (0, [.int 0, .ref q_39, .ref q_40])), (q_39, .inl (cI, 15, .inl z0)), (q_40, .inl (cI, 15, .inl z0))] := hD
  refine lv_aload_n hx hb dX9_init_118 rfl (lv_at hl 0 rfl) ?_
  refine va_new (ci := 4) (fs := [.int 0, .int 0, .int 0, .int 0, .int 0]) (C := RX4) (T := TX4) (N := 5) hx hb hts iX4 tyX4 tyX4_ok hown (hts _ wd_115) (hts _ wd_116) (hts _ wd_117) hK hP hD hS hA rfl (by decide +kernel) (Nat.le_of_ble_eq_true rfl) (Nat.le_of_ble_eq_true rfl) dX9_init_119 (fun q_41 H hP hD hS => ?_)
  have hP : va_P D classes [(h, .inr (9, [.ref q_1, .int 0, .int (-1), .ref q_2, .ref q_6, .ref q_14, .ref q_22, .ref q_26, .ref q_31, .ref q_35, .int 0, .ref q_36, .int 0, .null, .null, .null, .null])), (q_1, .inl (cI, 240, .inl z0)), (q_2, .inr (5, [.int 0, .int (-1), .ref u_3, .int 0, .int 0, .int 0, .int 0])), (u_3, .inl (cI, 0, .inl z0)), (q_6, .inr (8, [.int 0, .int 1, .int 0, .int 0, .int 0, .ref q_9, .ref q_10, .ref q_11, .ref q_12, .ref q_13])), (q_9, .inl (cI, 6, .inl z0)), (q_10, .inl (cI, 6, .inl z0)), (q_11, .inl (cI, 30, .inl z0)), (q_12, .inl (cI, 7, .inl z0)), (q_13, .inl (cI, 7, .inl z0)), (q_14, .inr (8, [.int 0, .int 1, .int 0, .int 0, .int 0, .ref q_17, .ref q_18, .ref q_19, .ref q_20, .ref q_21])), (q_17, .inl (cI, 6, .inl z0)), (q_18, .inl (cI, 6, .inl z0)), (q_19, .inl (cI, 30, .inl z0)), (q_20, .inl (cI, 7, .inl z0)), (q_21, .inl (cI, 7, .inl z0)), (q_22, .inr (7, [.ref u_23])), (u_23, .inl (cI, 41, .inl z0)), (q_26, .inr (2, [.ref q_29, .int 0, .int 0])), (q_29, .inr (6, [.int 20, .ref q_30])), (q_30, .inl (cI, 820, .inl z0)), (q_31, .inr (6, [.int 2, .ref u_32])), (u_32, .inl (cI, 82, .inl z0)), (q_35, .inl (cI, 2, .inl z0)), (q_36, .inr (0, [.int 0, .ref q_39, .ref q_40])), (q_39, .inl (cI, 15, .inl z0)), (q_40, .inl (cI, 15, .inl z0)), (q_41, .inr (4, [.int 0, .int 0, .int 0, .int 0, .int 0]))] H := hP
  have hD : va_D A [(h, .inr (9, [.ref q_1, .int 0, .int (-1), .ref q_2, .ref q_6, .ref q_14, .ref q_22, .ref q_26, .ref q_31, .ref q_35, .int 0, .ref q_36, .int 0, .null, .null, .null, .null])), (q_1, .inl (cI, 240, .inl z0)), (q_2, .inr (5, [.int 0, .int (-1), .ref u_3, .int 0, .int 0, .int 0, .int 0])), (u_3, .inl (cI, 0, .inl z0)), (q_6, .inr (8, [.int 0, .int 1, .int 0, .int 0, .int 0, .ref q_9, .ref q_10, .ref q_11, .ref q_12, .ref q_13])), (q_9, .inl (cI, 6, .inl z0)), (q_10, .inl (cI, 6, .inl z0)), (q_11, .inl (cI, 30, .inl z0)), (q_12, .inl (cI, 7, .inl z0)), (q_13, .inl (cI, 7, .inl z0)), (q_14, .inr (8, [.int 0, .int 1, .int 0, .int 0, .int 0, .ref q_17, .ref q_18, .ref q_19, .ref q_20, .ref q_21])), (q_17, .inl (cI, 6, .inl z0)), (q_18, .inl (cI, 6, .inl z0)), (q_19, .inl (cI, 30, .inl z0)), (q_20, .inl (cI, 7, .inl z0)), (q_21, .inl (cI, 7, .inl z0)), (q_22, .inr (7, [.ref u_23])), (u_23, .inl (cI, 41, .inl z0)), (q_26, .inr (2, [.ref q_29, .int 0, .int 0])), (q_29, .inr (6, [.int 20, .ref q_30])), (q_30, .inl (cI, 820, .inl z0)), (q_31, .inr (6, [.int 2, .ref u_32])), (u_32, .inl (cI, 82, .inl z0)), (q_35, .inl (cI, 2, .inl z0)), (q_36, .inr (0, [.int 0, .ref q_39, .ref q_40])), (q_39, .inl (cI, 15, .inl z0)), (q_40, .inl (cI, 15, .inl z0)), (q_41, .inr (4, [.int 0, .int 0, .int 0, .int 0, .int 0]))] := hD
  refine W.widen (k := 27) (n := 1370) (Nat.le_of_ble_eq_true rfl) (Nat.le_of_ble_eq_true rfl) ?_
  refine lv_dup hx hb dX9_init_122 rfl ?_
  refine cMv (wr := [(h, .inr (9, [.ref q_1, .int 0, .int (-1), .ref q_2, .ref q_6, .ref q_14, .ref q_22, .ref q_26, .ref q_31, .ref q_35, .int 0, .ref q_36, .int 0, .null, .null, .null, .null])), (q_1, .inl (cI, 240, .inl z0)), (q_2, .inr (5, [.int 0, .int (-1), .ref u_3, .int 0, .int 0, .int 0, .int 0])), (u_3, .inl (cI, 0, .inl z0)), (q_6, .inr (8, [.int 0, .int 1, .int 0, .int 0, .int 0, .ref q_9, .ref q_10, .ref q_11, .ref q_12, .ref q_13])), (q_9, .inl (cI, 6, .inl z0)), (q_10, .inl (cI, 6, .inl z0)), (q_11, .inl (cI, 30, .inl z0)), (q_12, .inl (cI, 7, .inl z0)), (q_13, .inl (cI, 7, .inl z0)), (q_14, .inr (8, [.int 0, .int 1, .int 0, .int 0, .int 0, .ref q_17, .ref q_18, .ref q_19, .ref q_20, .ref q_21])), (q_17, .inl (cI, 6, .inl z0)), (q_18, .inl (cI, 6, .inl z0)), (q_19, .inl (cI, 30, .inl z0)), (q_20, .inl (cI, 7, .inl z0)), (q_21, .inl (cI, 7, .inl z0)), (q_22, .inr (7, [.ref u_23])), (u_23, .inl (cI, 41, .inl z0)), (q_26, .inr (2, [.ref q_29, .int 0, .int 0])), (q_29, .inr (6, [.int 20, .ref q_30])), (q_30, .inl (cI, 820, .inl z0)), (q_31, .inr (6, [.int 2, .ref u_32])), (u_32, .inl (cI, 82, .inl z0)), (q_35, .inl (cI, 2, .inl z0)), (q_36, .inr (0, [.int 0, .ref q_39, .ref q_40])), (q_39, .inl (cI, 15, .inl z0)), (q_40, .inl (cI, 15, .inl z0))]) (rest := [.ref q_41, .ref h]) (k_quarrel_init q_41) okI_X4_init 5 rfl hx hb hml hown hts hK hP hD hS hA hN hl.1 [27] [0, 1, 2, 3, 4, 5, 6, 7, 8, 9, 10, 11, 12, 13, 14, 15, 16, 17, 18, 19, 20, 21, 22, 23, 24, 25, 26] rfl rfl rfl rfl (by decide) rfl (Nat.le_of_ble_eq_true rfl) (Nat.le_of_ble_eq_true rfl) (Nat.le_of_ble_eq_true rfl) (Nat.le_of_ble_eq_true rfl) (Nat.le_of_ble_eq_true rfl) dX9_init_123 (fun u_42 H locs hw_u_42 hP hD hS => ?_)
  have hP : va_P D classes [(h, .inr (9, [.ref q_1, .int 0, .int (-1), .ref q_2, .ref q_6, .ref q_14, .ref q_22, .ref q_26, .ref q_31, .ref q_35, .int 0, .ref q_36, .int 0, .null, .null, .null, .null])), (q_1, .inl (cI, 240, .inl z0)), (q_2, .inr (5, [.int 0, .int (-1), .ref u_3, .int 0, .int 0, .int 0, .int 0])), (u_3, .inl (cI, 0, .inl z0)), (q_6, .inr (8, [.int 0, .int 1, .int 0, .int 0, .int 0, .ref q_9, .ref q_10, .ref q_11, .ref q_12, .ref q_13])), (q_9, .inl (cI, 6, .inl z0)), (q_10, .inl (cI, 6, .inl z0)), (q_11, .inl (cI, 30, .inl z0)), (q_12, .inl (cI, 7, .inl z0)), (q_13, .inl (cI, 7, .inl z0)), (q_14, .inr (8, [.int 0, .int 1, .int 0, .int 0, .int 0, .ref q_17, .ref q_18, .ref q_19, .ref q_20, .ref q_21])), (q_17, .inl (cI, 6, .inl z0)), (q_18, .inl (cI, 6, .inl z0)), (q_19, .inl (cI, 30, .inl z0)), (q_20, .inl (cI, 7, .inl z0)), (q_21, .inl (cI, 7, .inl z0)), (q_22, .inr (7, [.ref u_23])), (u_23, .inl (cI, 41, .inl z0)), (q_26, .inr (2, [.ref q_29, .int 0, .int 0])), (q_29, .inr (6, [.int 20, .ref q_30])), (q_30, .inl (cI, 820, .inl z0)), (q_31, .inr (6, [.int 2, .ref u_32])), (u_32, .inl (cI, 82, .inl z0)), (q_35, .inl (cI, 2, .inl z0)), (q_36, .inr (0, [.int 0, .ref q_39, .ref q_40])), (q_39, .inl (cI, 15, .inl z0)), (q_40, .inl (cI, 15, .inl z0)), (q_41, .inr (4, [.int 0, .int 0, .int 0, .int 0, .int 0]))] H := hP
  have hD : va_D A [(h, .inr (9, [.ref q_1, .int 0, .int (-1), .ref q_2, .ref q_6, .ref q_14, .ref q_22, .ref q_26, .ref q_31, .ref q_35, .int 0, .ref q_36, .int 0, .null, .null, .null, .null])), (q_1, .inl (cI, 240, .inl z0)), (q_2, .inr (5, [.int 0, .int (-1), .ref u_3, .int 0, .int 0, .int 0, .int 0])), (u_3, .inl (cI, 0, .inl z0)), (q_6, .inr (8, [.int 0, .int 1, .int 0, .int 0, .int 0, .ref q_9, .ref q_10, .ref q_11, .ref q_12, .ref q_13])), (q_9, .inl (cI, 6, .inl z0)), (q_10, .inl (cI, 6, .inl z0)), (q_11, .inl (cI, 30, .inl z0)), (q_12, .inl (cI, 7, .inl z0)), (q_13, .inl (cI, 7, .inl z0)), (q_14, .inr (8, [.int 0, .int 1, .int 0, .int 0, .int 0, .ref q_17, .ref q_18, .ref q_19, .ref q_20, .ref q_21])), (q_17, .inl (cI, 6, .inl z0)), (q_18, .inl (cI, 6, .inl z0)), (q_19, .inl (cI, 30, .inl z0)), (q_20, .inl (cI, 7, .inl z0)), (q_21, .inl (cI, 7, .inl z0)), (q_22, .inr (7, [.ref u_23])), (u_23, .inl (cI, 41, .inl z0)), (q_26, .inr (2, [.ref q_29, .int 0, .int 0])), (q_29, .inr (6, [.int 20, .ref q_30])), (q_30, .inl (cI, 820, .inl z0)), (q_31, .inr (6, [.int 2, .ref u_32])), (u_32, .inl (cI, 82, .inl z0)), (q_35, .inl (cI, 2, .inl z0)), (q_36, .inr (0, [.int 0, .ref q_39, .ref q_40])), (q_39, .inl (cI, 15, .inl z0)), (q_40, .inl (cI, 15, .inl z0)), (q_41, .inr (4, [.int 0, .int 0, .int 0, .int 0, .int 0]))] := hD
  refine va_putF (D := D) (ci := 9) (v := .ref q_41) (ty := (.object "QuarrelBridges$Quarrel")) (C := RX9) (T := TX9) (N := 17) hx hb hts iX9 tyX9 tyX9_ok nmX9 hown hK hP hD hS 0 rfl rfl 13 (by decide) (hts _ wd_120) (fun _ h9 => h9) rfl hin rfl (by decide +kernel) rfl rfl (Nat.le_of_ble_eq_true rfl) dX9_init_126 (fun H locs hP hD hS => ?_)
  have hP : va_P D classes [(h, .inr (9, [.ref q_1, .int 0, .int (-1), .ref q_2, .ref q_6, .ref q_14, .ref q_22, .ref q_26, .ref q_31, .ref q_35, .int 0, .ref q_36, .int 0, .ref q_41, .null, .null, .null])), (q_1, .inl (cI, 240, .inl z0)), (q_2, .inr (5, [.int 0, .int (-1), .ref u_3, .int 0, .int 0, .int 0, .int 0])), (u_3, .inl (cI, 0, .inl z0)), (q_6, .inr (8, [.int 0, .int 1, .int 0, .int 0, .int 0, .ref q_9, .ref q_10, .ref q_11, .ref q_12, .ref q_13])), (q_9, .inl (cI, 6, .inl z0)), (q_10, .inl (cI, 6, .inl z0)), (q_11, .inl (cI, 30, .inl z0)), (q_12, .inl (cI, 7, .inl z0)), (q_13, .inl (cI, 7, .inl z0)), (q_14, .inr (8, [.int 0, .int 1, .int 0, .int 0, .int 0, .ref q_17, .ref q_18, .ref q_19, .ref q_20, .ref q_21])), (q_17, .inl (cI, 6, .inl z0)), (q_18, .inl (cI, 6, .inl z0)), (q_19, .inl (cI, 30, .inl z0)), (q_20, .inl (cI, 7, .inl z0)), (q_21, .inl (cI, 7, .inl z0)), (q_22, .inr (7, [.ref u_23])), (u_23, .inl (cI, 41, .inl z0)), (q_26, .inr (2, [.ref q_29, .int 0, .int 0])), (q_29, .inr (6, [.int 20, .ref q_30])), (q_30, .inl (cI, 820, .inl z0)), (q_31, .inr (6, [.int 2, .ref u_32])), (u_32, .inl (cI, 82, .inl z0)), (q_35, .inl (cI, 2, .inl z0)), (q_36, .inr (0, [.int 0, .ref q_39, .ref q_40])), (q_39, .inl (cI, 15, .inl z0)), (q_40, .inl (cI, 15, .inl z0)), (q_41, .inr (4, [.int 0, .int 0, .int 0, .int 0, .int 0]))] H := hP
  have hD : va_D A [(h, .inr (9, [.ref q_1, .int 0, .int (-1), .ref q_2, .ref q_6, .ref q_14, .ref q_22, .ref q_26, .ref q_31, .ref q_35, .int 0, .ref q_36, .int 0, .ref q_41, .null, .null, .null])), (q_1, .inl (cI, 240, .inl z0)), (q_2, .inr (5, [.int 0, .int (-1), .ref u_3, .int 0, .int 0, .int 0, .int 0])), (u_3, .inl (cI, 0, .inl z0)), (q_6, .inr (8, [.int 0, .int 1, .int 0, .int 0, .int 0, .ref q_9, .ref q_10, .ref q_11, .ref q_12, .ref q_13])), (q_9, .inl (cI, 6, .inl z0)), (q_10, .inl (cI, 6, .inl z0)), (q_11, .inl (cI, 30, .inl z0)), (q_12, .inl (cI, 7, .inl z0)), (q_13, .inl (cI, 7, .inl z0)), (q_14, .inr (8, [.int 0, .int 1, .int 0, .int 0, .int 0, .ref q_17, .ref q_18, .ref q_19, .ref q_20, .ref q_21])), (q_17, .inl (cI, 6, .inl z0)), (q_18, .inl (cI, 6, .inl z0)), (q_19, .inl (cI, 30, .inl z0)), (q_20, .inl (cI, 7, .inl z0)), (q_21, .inl (cI, 7, .inl z0)), (q_22, .inr (7, [.ref u_23])), (u_23, .inl (cI, 41, .inl z0)), (q_26, .inr (2, [.ref q_29, .int 0, .int 0])), (q_29, .inr (6, [.int 20, .ref q_30])), (q_30, .inl (cI, 820, .inl z0)), (q_31, .inr (6, [.int 2, .ref u_32])), (u_32, .inl (cI, 82, .inl z0)), (q_35, .inl (cI, 2, .inl z0)), (q_36, .inr (0, [.int 0, .ref q_39, .ref q_40])), (q_39, .inl (cI, 15, .inl z0)), (q_40, .inl (cI, 15, .inl z0)), (q_41, .inr (4, [.int 0, .int 0, .int 0, .int 0, .int 0]))] := hD
  refine lv_aload_n hx hb dX9_init_129 rfl (lv_at hl 0 rfl) ?_
  refine va_new (ci := 3) (fs := [.null, .null, .null]) (C := RX3) (T := TX3) (N := 3) hx hb hts iX3 tyX3 tyX3_ok hown (hts _ wd_121) (hts _ wd_122) (hts _ wd_123) hK hP hD hS hA rfl (by decide +kernel) (Nat.le_of_ble_eq_true rfl) (Nat.le_of_ble_eq_true rfl) dX9_init_130 (fun q_44 H hP hD hS => ?_)
  have hP : va_P D classes [(h, .inr (9, [.ref q_1, .int 0, .int (-1), .ref q_2, .ref q_6, .ref q_14, .ref q_22, .ref q_26, .ref q_31, .ref q_35, .int 0, .ref q_36, .int 0, .ref q_41, .null, .null, .null])), (q_1, .inl (cI, 240, .inl z0)), (q_2, .inr (5, [.int 0, .int (-1), .ref u_3, .int 0, .int 0, .int 0, .int 0])), (u_3, .inl (cI, 0, .inl z0)), (q_6, .inr (8, [.int 0, .int 1, .int 0, .int 0, .int 0, .ref q_9, .ref q_10, .ref q_11, .ref q_12, .ref q_13])), (q_9, .inl (cI, 6, .inl z0)), (q_10, .inl (cI, 6, .inl z0)), (q_11, .inl (cI, 30, .inl z0)), (q_12, .inl (cI, 7, .inl z0)), (q_13, .inl (cI, 7, .inl z0)), (q_14, .inr (8, [.int 0, .int 1, .int 0, .int 0, .int 0, .ref q_17, .ref q_18, .ref q_19, .ref q_20, .ref q_21])), (q_17, .inl (cI, 6, .inl z0)), (q_18, .inl (cI, 6, .inl z0)), (q_19, .inl (cI, 30, .inl z0)), (q_20, .inl (cI, 7, .inl z0)), (q_21, .inl (cI, 7, .inl z0)), (q_22, .inr (7, [.ref u_23])), (u_23, .inl (cI, 41, .inl z0)), (q_26, .inr (2, [.ref q_29, .int 0, .int 0])), (q_29, .inr (6, [.int 20, .ref q_30])), (q_30, .inl (cI, 820, .inl z0)), (q_31, .inr (6, [.int 2, .ref u_32])), (u_32, .inl (cI, 82, .inl z0)), (q_35, .inl (cI, 2, .inl z0)), (q_36, .inr (0, [.int 0, .ref q_39, .ref q_40])), (q_39, .inl (cI, 15, .inl z0)), (q_40, .inl (cI, 15, .inl z0)), (q_41, .inr (4, [.int 0, .int 0, .int 0, .int 0, .int 0])), (q_44, .inr (3, [.null, .null, .null]))] H := hP
  have hD : va_D A [(h, .inr (9, [.ref q_1, .int 0, .int (-1), .ref q_2, .ref q_6, .ref q_14, .ref q_22, .ref q_26, .ref q_31, .ref q_35, .int 0, .ref q_36, .int 0, .ref q_41, .null, .null, .null])), (q_1, .inl (cI, 240, .inl z0)), (q_2, .inr (5, [.int 0, .int (-1), .ref u_3, .int 0, .int 0, .int 0, .int 0])), (u_3, .inl (cI, 0, .inl z0)), (q_6, .inr (8, [.int 0, .int 1, .int 0, .int 0, .int 0, .ref q_9, .ref q_10, .ref q_11, .ref q_12, .ref q_13])), (q_9, .inl (cI, 6, .inl z0)), (q_10, .inl (cI, 6, .inl z0)), (q_11, .inl (cI, 30, .inl z0)), (q_12, .inl (cI, 7, .inl z0)), (q_13, .inl (cI, 7, .inl z0)), (q_14, .inr (8, [.int 0, .int 1, .int 0, .int 0, .int 0, .ref q_17, .ref q_18, .ref q_19, .ref q_20, .ref q_21])), (q_17, .inl (cI, 6, .inl z0)), (q_18, .inl (cI, 6, .inl z0)), (q_19, .inl (cI, 30, .inl z0)), (q_20, .inl (cI, 7, .inl z0)), (q_21, .inl (cI, 7, .inl z0)), (q_22, .inr (7, [.ref u_23])), (u_23, .inl (cI, 41, .inl z0)), (q_26, .inr (2, [.ref q_29, .int 0, .int 0])), (q_29, .inr (6, [.int 20, .ref q_30])), (q_30, .inl (cI, 820, .inl z0)), (q_31, .inr (6, [.int 2, .ref u_32])), (u_32, .inl (cI, 82, .inl z0)), (q_35, .inl (cI, 2, .inl z0)), (q_36, .inr (0, [.int 0, .ref q_39, .ref q_40])), (q_39, .inl (cI, 15, .inl z0)), (q_40, .inl (cI, 15, .inl z0)), (q_41, .inr (4, [.int 0, .int 0, .int 0, .int 0, .int 0])), (q_44, .inr (3, [.null, .null, .null]))] := hD
  refine W.widen (k := 28) (n := 1373) (Nat.le_of_ble_eq_true rfl) (Nat.le_of_ble_eq_true rfl) ?_
  refine lv_dup hx hb dX9_init_133 rfl ?_
  refine cMv (wr := [(h, .inr (9, [.ref q_1, .int 0, .int (-1), .ref q_2, .ref q_6, .ref q_14, .ref q_22, .ref q_26, .ref q_31, .ref q_35, .int 0, .ref q_36, .int 0, .ref q_41, .null, .null, .null])), (q_1, .inl (cI, 240, .inl z0)), (q_2, .inr (5, [.int 0, .int (-1), .ref u_3, .int 0, .int 0, .int 0, .int 0])), (u_3, .inl (cI, 0, .inl z0)), (q_6, .inr (8, [.int 0, .int 1, .int 0, .int 0, .int 0, .ref q_9, .ref q_10, .ref q_11, .ref q_12, .ref q_13])), (q_9, .inl (cI, 6, .inl z0)), (q_10, .inl (cI, 6, .inl z0)), (q_11, .inl (cI, 30, .inl z0)), (q_12, .inl (cI, 7, .inl z0)), (q_13, .inl (cI, 7, .inl z0)), (q_14, .inr (8, [.int 0, .int 1, .int 0, .int 0, .int 0, .ref q_17, .ref q_18, .ref q_19, .ref q_20, .ref q_21])), (q_17, .inl (cI, 6, .inl z0)), (q_18, .inl (cI, 6, .inl z0)), (q_19, .inl (cI, 30, .inl z0)), (q_20, .inl (cI, 7, .inl z0)), (q_21, .inl (cI, 7, .inl z0)), (q_22, .inr (7, [.ref u_23])), (u_23, .inl (cI, 41, .inl z0)), (q_26, .inr (2, [.ref q_29, .int 0, .int 0])), (q_29, .inr (6, [.int 20, .ref q_30])), (q_30, .inl (cI, 820, .inl z0)), (q_31, .inr (6, [.int 2, .ref u_32])), (u_32, .inl (cI, 82, .inl z0)), (q_35, .inl (cI, 2, .inl z0)), (q_36, .inr (0, [.int 0, .ref q_39, .ref q_40])), (q_39, .inl (cI, 15, .inl z0)), (q_40, .inl (cI, 15, .inl z0)), (q_41, .inr (4, [.int 0, .int 0, .int 0, .int 0, .int 0]))]) (rest := [.ref q_44, .ref h]) (k_pairing_init q_44) okI_X3_init 6 rfl hx hb hml hown hts hK hP hD hS hA hN hl.1 [28] [0, 1, 2, 3, 4, 5, 6, 7, 8, 9, 10, 11, 12, 13, 14, 15, 16, 17, 18, 19, 20, 21, 22, 23, 24, 25, 26, 27] rfl rfl rfl rfl (by decide) rfl (Nat.le_of_ble_eq_true rfl) (Nat.le_of_ble_eq_true rfl) (Nat.le_of_ble_eq_true rfl) (Nat.le_of_ble_eq_true rfl) (Nat.le_of_ble_eq_true rfl) dX9_init_134 (fun u_45 H locs hw_u_45 hP hD hS => ?_)
  obtain ⟨q_47, q_48, q_49⟩ := u_45
  refine W.widen (k := 31) (n := 1537) (Nat.le_of_ble_eq_true rfl) (Nat.le_of_ble_eq_true rfl) ?_
  have hP : va_P D classes [(h, .inr (9, [.ref q_1, .int 0, .int (-1), .ref q_2, .ref q_6, .ref q_14, .ref q_22, .ref q_26, .ref q_31, .ref q_35, .int 0, .ref q_36, .int 0, .ref q_41, .null, .null, .null])), (q_1, .inl (cI, 240, .inl z0)), (q_2, .inr (5, [.int 0, .int (-1), .ref u_3, .int 0, .int 0, .int 0, .int 0])), (u_3, .inl (cI, 0, .inl z0)), (q_6, .inr (8, [.int 0, .int 1, .int 0, .int 0, .int 0, .ref q_9, .ref q_10, .ref q_11, .ref q_12, .ref q_13])), (q_9, .inl (cI, 6, .inl z0)), (q_10, .inl (cI, 6, .inl z0)), (q_11, .inl (cI, 30, .inl z0)), (q_12, .inl (cI, 7, .inl z0)), (q_13, .inl (cI, 7, .inl z0)), (q_14, .inr (8, [.int 0, .int 1, .int 0, .int 0, .int 0, .ref q_17, .ref q_18, .ref q_19, .ref q_20, .ref q_21])), (q_17, .inl (cI, 6, .inl z0)), (q_18, .inl (cI, 6, .inl z0)), (q_19, .inl (cI, 30, .inl z0)), (q_20, .inl (cI, 7, .inl z0)), (q_21, .inl (cI, 7, .inl z0)), (q_22, .inr (7, [.ref u_23])), (u_23, .inl (cI, 41, .inl z0)), (q_26, .inr (2, [.ref q_29, .int 0, .int 0])), (q_29, .inr (6, [.int 20, .ref q_30])), (q_30, .inl (cI, 820, .inl z0)), (q_31, .inr (6, [.int 2, .ref u_32])), (u_32, .inl (cI, 82, .inl z0)), (q_35, .inl (cI, 2, .inl z0)), (q_36, .inr (0, [.int 0, .ref q_39, .ref q_40])), (q_39, .inl (cI, 15, .inl z0)), (q_40, .inl (cI, 15, .inl z0)), (q_41, .inr (4, [.int 0, .int 0, .int 0, .int 0, .int 0])), (q_44, .inr (3, [.ref q_47, .ref q_48, .ref q_49])), (q_47, .inl (cI, 36, .inl z0)), (q_48, .inl (cI, 64, .inl z0)), (q_49, .inl (cI, 64, .inl z0))] H := hP
  have hD : va_D A [(h, .inr (9, [.ref q_1, .int 0, .int (-1), .ref q_2, .ref q_6, .ref q_14, .ref q_22, .ref q_26, .ref q_31, .ref q_35, .int 0, .ref q_36, .int 0, .ref q_41, .null, .null, .null])), (q_1, .inl (cI, 240, .inl z0)), (q_2, .inr (5, [.int 0, .int (-1), .ref u_3, .int 0, .int 0, .int 0, .int 0])), (u_3, .inl (cI, 0, .inl z0)), (q_6, .inr (8, [.int 0, .int 1, .int 0, .int 0, .int 0, .ref q_9, .ref q_10, .ref q_11, .ref q_12, .ref q_13])), (q_9, .inl (cI, 6, .inl z0)), (q_10, .inl (cI, 6, .inl z0)), (q_11, .inl (cI, 30, .inl z0)), (q_12, .inl (cI, 7, .inl z0)), (q_13, .inl (cI, 7, .inl z0)), (q_14, .inr (8, [.int 0, .int 1, .int 0, .int 0, .int 0, .ref q_17, .ref q_18, .ref q_19, .ref q_20, .ref q_21])), (q_17, .inl (cI, 6, .inl z0)), (q_18, .inl (cI, 6, .inl z0)), (q_19, .inl (cI, 30, .inl z0)), (q_20, .inl (cI, 7, .inl z0)), (q_21, .inl (cI, 7, .inl z0)), (q_22, .inr (7, [.ref u_23])), (u_23, .inl (cI, 41, .inl z0)), (q_26, .inr (2, [.ref q_29, .int 0, .int 0])), (q_29, .inr (6, [.int 20, .ref q_30])), (q_30, .inl (cI, 820, .inl z0)), (q_31, .inr (6, [.int 2, .ref u_32])), (u_32, .inl (cI, 82, .inl z0)), (q_35, .inl (cI, 2, .inl z0)), (q_36, .inr (0, [.int 0, .ref q_39, .ref q_40])), (q_39, .inl (cI, 15, .inl z0)), (q_40, .inl (cI, 15, .inl z0)), (q_41, .inr (4, [.int 0, .int 0, .int 0, .int 0, .int 0])), (q_44, .inr (3, [.ref q_47, .ref q_48, .ref q_49])), (q_47, .inl (cI, 36, .inl z0)), (q_48, .inl (cI, 64, .inl z0)), (q_49, .inl (cI, 64, .inl z0))] := hD
  refine va_putF (D := D) (ci := 9) (v := .ref q_44) (ty := (.object "QuarrelBridges$Pairing")) (C := RX9) (T := TX9) (N := 17) hx hb hts iX9 tyX9 tyX9_ok nmX9 hown hK hP hD hS 0 rfl rfl 14 (by decide) (hts _ wd_126) (fun _ h9 => h9) rfl hin rfl (by decide +kernel) rfl rfl (Nat.le_of_ble_eq_true rfl) dX9_init_137 (fun H locs hP hD hS => ?_)
  have hP : va_P D classes [(h, .inr (9, [.ref q_1, .int 0, .int (-1), .ref q_2, .ref q_6, .ref q_14, .ref q_22, .ref q_26, .ref q_31, .ref q_35, .int 0, .ref q_36, .int 0, .ref q_41, .ref q_44, .null, .null])), (q_1, .inl (cI, 240, .inl z0)), (q_2, .inr (5, [.int 0, .int (-1), .ref u_3, .int 0, .int 0, .int 0, .int 0])), (u_3, .inl (cI, 0, .inl z0)), (q_6, .inr (8, [.int 0, .int 1, .int 0, .int 0, .int 0, .ref q_9, .ref q_10, .ref q_11, .ref q_12, .ref q_13])), (q_9, .inl (cI, 6, .inl z0)), (q_10, .inl (cI, 6, .inl z0)), (q_11, .inl (cI, 30, .inl z0)), (q_12, .inl (cI, 7, .inl z0)), (q_13, .inl (cI, 7, .inl z0)), (q_14, .inr (8, [.int 0, .int 1, .int 0, .int 0, .int 0, .ref q_17, .ref q_18, .ref q_19, .ref q_20, .ref q_21])), (q_17, .inl (cI, 6, .inl z0)), (q_18, .inl (cI, 6, .inl z0)), (q_19, .inl (cI, 30, .inl z0)), (q_20, .inl (cI, 7, .inl z0)), (q_21, .inl (cI, 7, .inl z0)), (q_22, .inr (7, [.ref u_23])), (u_23, .inl (cI, 41, .inl z0)), (q_26, .inr (2, [.ref q_29, .int 0, .int 0])), (q_29, .inr (6, [.int 20, .ref q_30])), (q_30, .inl (cI, 820, .inl z0)), (q_31, .inr (6, [.int 2, .ref u_32])), (u_32, .inl (cI, 82, .inl z0)), (q_35, .inl (cI, 2, .inl z0)), (q_36, .inr (0, [.int 0, .ref q_39, .ref q_40])), (q_39, .inl (cI, 15, .inl z0)), (q_40, .inl (cI, 15, .inl z0)), (q_41, .inr (4, [.int 0, .int 0, .int 0, .int 0, .int 0])), (q_44, .inr (3, [.ref q_47, .ref q_48, .ref q_49])), (q_47, .inl (cI, 36, .inl z0)), (q_48, .inl (cI, 64, .inl z0)), (q_49, .inl (cI, 64, .inl z0))] H := hP
  have hD : va_D A [(h, .inr (9, [.ref q_1, .int 0, .int (-1), .ref q_2, .ref q_6, .ref q_14, .ref q_22, .ref q_26, .ref q_31, .ref q_35, .int 0, .ref q_36, .int 0, .ref q_41, .ref q_44, .null, .null])), (q_1, .inl (cI, 240, .inl z0)), (q_2, .inr (5, [.int 0, .int (-1), .ref u_3, .int 0, .int 0, .int 0, .int 0])), (u_3, .inl (cI, 0, .inl z0)), (q_6, .inr (8, [.int 0, .int 1, .int 0, .int 0, .int 0, .ref q_9, .ref q_10, .ref q_11, .ref q_12, .ref q_13])), (q_9, .inl (cI, 6, .inl z0)), (q_10, .inl (cI, 6, .inl z0)), (q_11, .inl (cI, 30, .inl z0)), (q_12, .inl (cI, 7, .inl z0)), (q_13, .inl (cI, 7, .inl z0)), (q_14, .inr (8, [.int 0, .int 1, .int 0, .int 0, .int 0, .ref q_17, .ref q_18, .ref q_19, .ref q_20, .ref q_21])), (q_17, .inl (cI, 6, .inl z0)), (q_18, .inl (cI, 6, .inl z0)), (q_19, .inl (cI, 30, .inl z0)), (q_20, .inl (cI, 7, .inl z0)), (q_21, .inl (cI, 7, .inl z0)), (q_22, .inr (7, [.ref u_23])), (u_23, .inl (cI, 41, .inl z0)), (q_26, .inr (2, [.ref q_29, .int 0, .int 0])), (q_29, .inr (6, [.int 20, .ref q_30])), (q_30, .inl (cI, 820, .inl z0)), (q_31, .inr (6, [.int 2, .ref u_32])), (u_32, .inl (cI, 82, .inl z0)), (q_35, .inl (cI, 2, .inl z0)), (q_36, .inr (0, [.int 0, .ref q_39, .ref q_40])), (q_39, .inl (cI, 15, .inl z0)), (q_40, .inl (cI, 15, .inl z0)), (q_41, .inr (4, [.int 0, .int 0, .int 0, .int 0, .int 0])), (q_44, .inr (3, [.ref q_47, .ref q_48, .ref q_49])), (q_47, .inl (cI, 36, .inl z0)), (q_48, .inl (cI, 64, .inl z0)), (q_49, .inl (cI, 64, .inl z0))] := hD
  refine lv_aload_n hx hb dX9_init_140 rfl (lv_at hl 0 rfl) ?_
  refine va_new (ci := 1) (fs := [.int 0, .null, .null, .null, .null, .null, .null, .int 0, .int 0, .null]) (C := RX1) (T := TX1) (N := 10) hx hb hts iX1 tyX1 tyX1_ok hown (hts _ wd_127) (hts _ wd_128) (hts _ wd_129) hK hP hD hS hA rfl (by decide +kernel) (Nat.le_of_ble_eq_true rfl) (Nat.le_of_ble_eq_true rfl) dX9_init_141 (fun q_50 H hP hD hS => ?_)
  have hP : va_P D classes [(h, .inr (9, [.ref q_1, .int 0, .int (-1), .ref q_2, .ref q_6, .ref q_14, .ref q_22, .ref q_26, .ref q_31, .ref q_35, .int 0, .ref q_36, .int 0, .ref q_41, .ref q_44, .null, .null])), (q_1, .inl (cI, 240, .inl z0)), (q_2, .inr (5, [.int 0, .int (-1), .ref u_3, .int 0, .int 0, .int 0, .int 0])), (u_3, .inl (cI, 0, .inl z0)), (q_6, .inr (8, [.int 0, .int 1, .int 0, .int 0, .int 0, .ref q_9, .ref q_10, .ref q_11, .ref q_12, .ref q_13])), (q_9, .inl (cI, 6, .inl z0)), (q_10, .inl (cI, 6, .inl z0)), (q_11, .inl (cI, 30, .inl z0)), (q_12, .inl (cI, 7, .inl z0)), (q_13, .inl (cI, 7, .inl z0)), (q_14, .inr (8, [.int 0, .int 1, .int 0, .int 0, .int 0, .ref q_17, .ref q_18, .ref q_19, .ref q_20, .ref q_21])), (q_17, .inl (cI, 6, .inl z0)), (q_18, .inl (cI, 6, .inl z0)), (q_19, .inl (cI, 30, .inl z0)), (q_20, .inl (cI, 7, .inl z0)), (q_21, .inl (cI, 7, .inl z0)), (q_22, .inr (7, [.ref u_23])), (u_23, .inl (cI, 41, .inl z0)), (q_26, .inr (2, [.ref q_29, .int 0, .int 0])), (q_29, .inr (6, [.int 20, .ref q_30])), (q_30, .inl (cI, 820, .inl z0)), (q_31, .inr (6, [.int 2, .ref u_32])), (u_32, .inl (cI, 82, .inl z0)), (q_35, .inl (cI, 2, .inl z0)), (q_36, .inr (0, [.int 0, .ref q_39, .ref q_40])), (q_39, .inl (cI, 15, .inl z0)), (q_40, .inl (cI, 15, .inl z0)), (q_41, .inr (4, [.int 0, .int 0, .int 0, .int 0, .int 0])), (q_44, .inr (3, [.ref q_47, .ref q_48, .ref q_49])), (q_47, .inl (cI, 36, .inl z0)), (q_48, .inl (cI, 64, .inl z0)), (q_49, .inl (cI, 64, .inl z0)), (q_50, .inr (1, [.int 0, .null, .null, .null, .null, .null, .null, .int 0, .int 0, .null]))] H := hP
  have hD : va_D A [(h, .inr (9, [.ref q_1, .int 0, .int (-1), .ref q_2, .ref q_6, .ref q_14, .ref q_22, .ref q_26, .ref q_31, .ref q_35, .int 0, .ref q_36, .int 0, .ref q_41, .ref q_44, .null, .null])), (q_1, .inl (cI, 240, .inl z0)), (q_2, .inr (5, [.int 0, .int (-1), .ref u_3, .int 0, .int 0, .int 0, .int 0])), (u_3, .inl (cI, 0, .inl z0)), (q_6, .inr (8, [.int 0, .int 1, .int 0, .int 0, .int 0, .ref q_9, .ref q_10, .ref q_11, .ref q_12, .ref q_13])), (q_9, .inl (cI, 6, .inl z0)), (q_10, .inl (cI, 6, .inl z0)), (q_11, .inl (cI, 30, .inl z0)), (q_12, .inl (cI, 7, .inl z0)), (q_13, .inl (cI, 7, .inl z0)), (q_14, .inr (8, [.int 0, .int 1, .int 0, .int 0, .int 0, .ref q_17, .ref q_18, .ref q_19, .ref q_20, .ref q_21])), (q_17, .inl (cI, 6, .inl z0)), (q_18, .inl (cI, 6, .inl z0)), (q_19, .inl (cI, 30, .inl z0)), (q_20, .inl (cI, 7, .inl z0)), (q_21, .inl (cI, 7, .inl z0)), (q_22, .inr (7, [.ref u_23])), (u_23, .inl (cI, 41, .inl z0)), (q_26, .inr (2, [.ref q_29, .int 0, .int 0])), (q_29, .inr (6, [.int 20, .ref q_30])), (q_30, .inl (cI, 820, .inl z0)), (q_31, .inr (6, [.int 2, .ref u_32])), (u_32, .inl (cI, 82, .inl z0)), (q_35, .inl (cI, 2, .inl z0)), (q_36, .inr (0, [.int 0, .ref q_39, .ref q_40])), (q_39, .inl (cI, 15, .inl z0)), (q_40, .inl (cI, 15, .inl z0)), (q_41, .inr (4, [.int 0, .int 0, .int 0, .int 0, .int 0])), (q_44, .inr (3, [.ref q_47, .ref q_48, .ref q_49])), (q_47, .inl (cI, 36, .inl z0)), (q_48, .inl (cI, 64, .inl z0)), (q_49, .inl (cI, 64, .inl z0)), (q_50, .inr (1, [.int 0, .null, .null, .null, .null, .null, .null, .int 0, .int 0, .null]))] := hD
  refine W.widen (k := 32) (n := 1547) (Nat.le_of_ble_eq_true rfl) (Nat.le_of_ble_eq_true rfl) ?_
  refine lv_dup hx hb dX9_init_144 rfl ?_
  refine cMv (wr := [(h, .inr (9, [.ref q_1, .int 0, .int (-1), .ref q_2, .ref q_6, .ref q_14, .ref q_22, .ref q_26, .ref q_31, .ref q_35, .int 0, .ref q_36, .int 0, .ref q_41, .ref q_44, .null, .null])), (q_1, .inl (cI, 240, .inl z0)), (q_2, .inr (5, [.int 0, .int (-1), .ref u_3, .int 0, .int 0, .int 0, .int 0])), (u_3, .inl (cI, 0, .inl z0)), (q_6, .inr (8, [.int 0, .int 1, .int 0, .int 0, .int 0, .ref q_9, .ref q_10, .ref q_11, .ref q_12, .ref q_13])), (q_9, .inl (cI, 6, .inl z0)), (q_10, .inl (cI, 6, .inl z0)), (q_11, .inl (cI, 30, .inl z0)), (q_12, .inl (cI, 7, .inl z0)), (q_13, .inl (cI, 7, .inl z0)), (q_14, .inr (8, [.int 0, .int 1, .int 0, .int 0, .int 0, .ref q_17, .ref q_18, .ref q_19, .ref q_20, .ref q_21])), (q_17, .inl (cI, 6, .inl z0)), (q_18, .inl (cI, 6, .inl z0)), (q_19, .inl (cI, 30, .inl z0)), (q_20, .inl (cI, 7, .inl z0)), (q_21, .inl (cI, 7, .inl z0)), (q_22, .inr (7, [.ref u_23])), (u_23, .inl (cI, 41, .inl z0)), (q_26, .inr (2, [.ref q_29, .int 0, .int 0])), (q_29, .inr (6, [.int 20, .ref q_30])), (q_30, .inl (cI, 820, .inl z0)), (q_31, .inr (6, [.int 2, .ref u_32])), (u_32, .inl (cI, 82, .inl z0)), (q_35, .inl (cI, 2, .inl z0)), (q_36, .inr (0, [.int 0, .ref q_39, .ref q_40])), (q_39, .inl (cI, 15, .inl z0)), (q_40, .inl (cI, 15, .inl z0)), (q_41, .inr (4, [.int 0, .int 0, .int 0, .int 0, .int 0])), (q_44, .inr (3, [.ref q_47, .ref q_48, .ref q_49])), (q_47, .inl (cI, 36, .inl z0)), (q_48, .inl (cI, 64, .inl z0)), (q_49, .inl (cI, 64, .inl z0))]) (rest := [.ref q_50, .ref h]) (k_convoy_init q_50) okI_X1_init 7 rfl hx hb hml hown hts hK hP hD hS hA hN hl.1 [32] [0, 1, 2, 3, 4, 5, 6, 7, 8, 9, 10, 11, 12, 13, 14, 15, 16, 17, 18, 19, 20, 21, 22, 23, 24, 25, 26, 27, 28, 29, 30, 31] rfl rfl rfl rfl (by decide) rfl (Nat.le_of_ble_eq_true rfl) (Nat.le_of_ble_eq_true rfl) (Nat.le_of_ble_eq_true rfl) (Nat.le_of_ble_eq_true rfl) (Nat.le_of_ble_eq_true rfl) dX9_init_145 (fun u_51 H locs hw_u_51 hP hD hS => ?_)
  obtain ⟨q_53, q_54, q_55, q_56, q_57, q_58⟩ := u_51
  refine W.widen (k := 38) (n := 1992) (Nat.le_of_ble_eq_true rfl) (Nat.le_of_ble_eq_true rfl) ?_
  have hP : va_P D classes [(h, .inr (9, [.ref q_1, .int 0, .int (-1), .ref q_2, .ref q_6, .ref q_14, .ref q_22, .ref q_26, .ref q_31, .ref q_35, .int 0, .ref q_36, .int 0, .ref q_41, .ref q_44, .null, .null])), (q_1, .inl (cI, 240, .inl z0)), (q_2, .inr (5, [.int 0, .int (-1), .ref u_3, .int 0, .int 0, .int 0, .int 0])), (u_3, .inl (cI, 0, .inl z0)), (q_6, .inr (8, [.int 0, .int 1, .int 0, .int 0, .int 0, .ref q_9, .ref q_10, .ref q_11, .ref q_12, .ref q_13])), (q_9, .inl (cI, 6, .inl z0)), (q_10, .inl (cI, 6, .inl z0)), (q_11, .inl (cI, 30, .inl z0)), (q_12, .inl (cI, 7, .inl z0)), (q_13, .inl (cI, 7, .inl z0)), (q_14, .inr (8, [.int 0, .int 1, .int 0, .int 0, .int 0, .ref q_17, .ref q_18, .ref q_19, .ref q_20, .ref q_21])), (q_17, .inl (cI, 6, .inl z0)), (q_18, .inl (cI, 6, .inl z0)), (q_19, .inl (cI, 30, .inl z0)), (q_20, .inl (cI, 7, .inl z0)), (q_21, .inl (cI, 7, .inl z0)), (q_22, .inr (7, [.ref u_23])), (u_23, .inl (cI, 41, .inl z0)), (q_26, .inr (2, [.ref q_29, .int 0, .int 0])), (q_29, .inr (6, [.int 20, .ref q_30])), (q_30, .inl (cI, 820, .inl z0)), (q_31, .inr (6, [.int 2, .ref u_32])), (u_32, .inl (cI, 82, .inl z0)), (q_35, .inl (cI, 2, .inl z0)), (q_36, .inr (0, [.int 0, .ref q_39, .ref q_40])), (q_39, .inl (cI, 15, .inl z0)), (q_40, .inl (cI, 15, .inl z0)), (q_41, .inr (4, [.int 0, .int 0, .int 0, .int 0, .int 0])), (q_44, .inr (3, [.ref q_47, .ref q_48, .ref q_49])), (q_47, .inl (cI, 36, .inl z0)), (q_48, .inl (cI, 64, .inl z0)), (q_49, .inl (cI, 64, .inl z0)), (q_50, .inr (1, [.int 0, .ref q_53, .ref q_54, .ref q_55, .ref q_56, .ref q_57, .ref q_58, .int 0, .int 0, .null])), (q_53, .inl (cI, 7, .inl z0)), (q_54, .inl (cI, 6, .inl z0)), (q_55, .inl (cI, 48, .inl z0)), (q_56, .inl (cI, 128, .inl z0)), (q_57, .inl (cI, 128, .inl z0)), (q_58, .inl (cI, 128, .inl z0))] H := hP
  have hD : va_D A [(h, .inr (9, [.ref q_1, .int 0, .int (-1), .ref q_2, .ref q_6, .ref q_14, .ref q_22, .ref q_26, .ref q_31, .ref q_35, .int 0, .ref q_36, .int 0, .ref q_41, .ref q_44, .null, .null])), (q_1, .inl (cI, 240, .inl z0)), (q_2, .inr (5, [.int 0, .int (-1), .ref u_3, .int 0, .int 0, .int 0, .int 0])), (u_3, .inl (cI, 0, .inl z0)), (q_6, .inr (8, [.int 0, .int 1, .int 0, .int 0, .int 0, .ref q_9, .ref q_10, .ref q_11, .ref q_12, .ref q_13])), (q_9, .inl (cI, 6, .inl z0)), (q_10, .inl (cI, 6, .inl z0)), (q_11, .inl (cI, 30, .inl z0)), (q_12, .inl (cI, 7, .inl z0)), (q_13, .inl (cI, 7, .inl z0)), (q_14, .inr (8, [.int 0, .int 1, .int 0, .int 0, .int 0, .ref q_17, .ref q_18, .ref q_19, .ref q_20, .ref q_21])), (q_17, .inl (cI, 6, .inl z0)), (q_18, .inl (cI, 6, .inl z0)), (q_19, .inl (cI, 30, .inl z0)), (q_20, .inl (cI, 7, .inl z0)), (q_21, .inl (cI, 7, .inl z0)), (q_22, .inr (7, [.ref u_23])), (u_23, .inl (cI, 41, .inl z0)), (q_26, .inr (2, [.ref q_29, .int 0, .int 0])), (q_29, .inr (6, [.int 20, .ref q_30])), (q_30, .inl (cI, 820, .inl z0)), (q_31, .inr (6, [.int 2, .ref u_32])), (u_32, .inl (cI, 82, .inl z0)), (q_35, .inl (cI, 2, .inl z0)), (q_36, .inr (0, [.int 0, .ref q_39, .ref q_40])), (q_39, .inl (cI, 15, .inl z0)), (q_40, .inl (cI, 15, .inl z0)), (q_41, .inr (4, [.int 0, .int 0, .int 0, .int 0, .int 0])), (q_44, .inr (3, [.ref q_47, .ref q_48, .ref q_49])), (q_47, .inl (cI, 36, .inl z0)), (q_48, .inl (cI, 64, .inl z0)), (q_49, .inl (cI, 64, .inl z0)), (q_50, .inr (1, [.int 0, .ref q_53, .ref q_54, .ref q_55, .ref q_56, .ref q_57, .ref q_58, .int 0, .int 0, .null])), (q_53, .inl (cI, 7, .inl z0)), (q_54, .inl (cI, 6, .inl z0)), (q_55, .inl (cI, 48, .inl z0)), (q_56, .inl (cI, 128, .inl z0)), (q_57, .inl (cI, 128, .inl z0)), (q_58, .inl (cI, 128, .inl z0))] := hD
  refine va_putF (D := D) (ci := 9) (v := .ref q_50) (ty := (.object "QuarrelBridges$Convoy")) (C := RX9) (T := TX9) (N := 17) hx hb hts iX9 tyX9 tyX9_ok nmX9 hown hK hP hD hS 0 rfl rfl 15 (by decide) (hts _ wd_132) (fun _ h9 => h9) rfl hin rfl (by decide +kernel) rfl rfl (Nat.le_of_ble_eq_true rfl) dX9_init_148 (fun H locs hP hD hS => ?_)
  have hP : va_P D classes [(h, .inr (9, [.ref q_1, .int 0, .int (-1), .ref q_2, .ref q_6, .ref q_14, .ref q_22, .ref q_26, .ref q_31, .ref q_35, .int 0, .ref q_36, .int 0, .ref q_41, .ref q_44, .ref q_50, .null])), (q_1, .inl (cI, 240, .inl z0)), (q_2, .inr (5, [.int 0, .int (-1), .ref u_3, .int 0, .int 0, .int 0, .int 0])), (u_3, .inl (cI, 0, .inl z0)), (q_6, .inr (8, [.int 0, .int 1, .int 0, .int 0, .int 0, .ref q_9, .ref q_10, .ref q_11, .ref q_12, .ref q_13])), (q_9, .inl (cI, 6, .inl z0)), (q_10, .inl (cI, 6, .inl z0)), (q_11, .inl (cI, 30, .inl z0)), (q_12, .inl (cI, 7, .inl z0)), (q_13, .inl (cI, 7, .inl z0)), (q_14, .inr (8, [.int 0, .int 1, .int 0, .int 0, .int 0, .ref q_17, .ref q_18, .ref q_19, .ref q_20, .ref q_21])), (q_17, .inl (cI, 6, .inl z0)), (q_18, .inl (cI, 6, .inl z0)), (q_19, .inl (cI, 30, .inl z0)), (q_20, .inl (cI, 7, .inl z0)), (q_21, .inl (cI, 7, .inl z0)), (q_22, .inr (7, [.ref u_23])), (u_23, .inl (cI, 41, .inl z0)), (q_26, .inr (2, [.ref q_29, .int 0, .int 0])), (q_29, .inr (6, [.int 20, .ref q_30])), (q_30, .inl (cI, 820, .inl z0)), (q_31, .inr (6, [.int 2, .ref u_32])), (u_32, .inl (cI, 82, .inl z0)), (q_35, .inl (cI, 2, .inl z0)), (q_36, .inr (0, [.int 0, .ref q_39, .ref q_40])), (q_39, .inl (cI, 15, .inl z0)), (q_40, .inl (cI, 15, .inl z0)), (q_41, .inr (4, [.int 0, .int 0, .int 0, .int 0, .int 0])), (q_44, .inr (3, [.ref q_47, .ref q_48, .ref q_49])), (q_47, .inl (cI, 36, .inl z0)), (q_48, .inl (cI, 64, .inl z0)), (q_49, .inl (cI, 64, .inl z0)), (q_50, .inr (1, [.int 0, .ref q_53, .ref q_54, .ref q_55, .ref q_56, .ref q_57, .ref q_58, .int 0, .int 0, .null])), (q_53, .inl (cI, 7, .inl z0)), (q_54, .inl (cI, 6, .inl z0)), (q_55, .inl (cI, 48, .inl z0)), (q_56, .inl (cI, 128, .inl z0)), (q_57, .inl (cI, 128, .inl z0)), (q_58, .inl (cI, 128, .inl z0))] H := hP
  have hD : va_D A [(h, .inr (9, [.ref q_1, .int 0, .int (-1), .ref q_2, .ref q_6, .ref q_14, .ref q_22, .ref q_26, .ref q_31, .ref q_35, .int 0, .ref q_36, .int 0, .ref q_41, .ref q_44, .ref q_50, .null])), (q_1, .inl (cI, 240, .inl z0)), (q_2, .inr (5, [.int 0, .int (-1), .ref u_3, .int 0, .int 0, .int 0, .int 0])), (u_3, .inl (cI, 0, .inl z0)), (q_6, .inr (8, [.int 0, .int 1, .int 0, .int 0, .int 0, .ref q_9, .ref q_10, .ref q_11, .ref q_12, .ref q_13])), (q_9, .inl (cI, 6, .inl z0)), (q_10, .inl (cI, 6, .inl z0)), (q_11, .inl (cI, 30, .inl z0)), (q_12, .inl (cI, 7, .inl z0)), (q_13, .inl (cI, 7, .inl z0)), (q_14, .inr (8, [.int 0, .int 1, .int 0, .int 0, .int 0, .ref q_17, .ref q_18, .ref q_19, .ref q_20, .ref q_21])), (q_17, .inl (cI, 6, .inl z0)), (q_18, .inl (cI, 6, .inl z0)), (q_19, .inl (cI, 30, .inl z0)), (q_20, .inl (cI, 7, .inl z0)), (q_21, .inl (cI, 7, .inl z0)), (q_22, .inr (7, [.ref u_23])), (u_23, .inl (cI, 41, .inl z0)), (q_26, .inr (2, [.ref q_29, .int 0, .int 0])), (q_29, .inr (6, [.int 20, .ref q_30])), (q_30, .inl (cI, 820, .inl z0)), (q_31, .inr (6, [.int 2, .ref u_32])), (u_32, .inl (cI, 82, .inl z0)), (q_35, .inl (cI, 2, .inl z0)), (q_36, .inr (0, [.int 0, .ref q_39, .ref q_40])), (q_39, .inl (cI, 15, .inl z0)), (q_40, .inl (cI, 15, .inl z0)), (q_41, .inr (4, [.int 0, .int 0, .int 0, .int 0, .int 0])), (q_44, .inr (3, [.ref q_47, .ref q_48, .ref q_49])), (q_47, .inl (cI, 36, .inl z0)), (q_48, .inl (cI, 64, .inl z0)), (q_49, .inl (cI, 64, .inl z0)), (q_50, .inr (1, [.int 0, .ref q_53, .ref q_54, .ref q_55, .ref q_56, .ref q_57, .ref q_58, .int 0, .int 0, .null])), (q_53, .inl (cI, 7, .inl z0)), (q_54, .inl (cI, 6, .inl z0)), (q_55, .inl (cI, 48, .inl z0)), (q_56, .inl (cI, 128, .inl z0)), (q_57, .inl (cI, 128, .inl z0)), (q_58, .inl (cI, 128, .inl z0))] := hD
  refine lv_aload_n hx hb dX9_init_151 rfl (lv_at hl 0 rfl) ?_
  refine lv_bipush (v := 30) hx hb dX9_init_152 (by decide) ?_
  refine va_newa (atype := .int) (a0 := (30, .inl z0)) (N' := 30) (ty := .int) hx hb (hts _ wd_8) rfl hK hP hD hS hA (fun cA => z0_int 30 cA) (by decide +kernel) (by decide +kernel) (by decide +kernel) (Nat.le_of_ble_eq_true rfl) (Nat.le_of_ble_eq_true rfl) dX9_init_154 (fun q_59 cA_q_59 H hKn hP hD hS => ?_)
  obtain rfl := (K_int hKn).symm
  have hP : va_P D classes [(h, .inr (9, [.ref q_1, .int 0, .int (-1), .ref q_2, .ref q_6, .ref q_14, .ref q_22, .ref q_26, .ref q_31, .ref q_35, .int 0, .ref q_36, .int 0, .ref q_41, .ref q_44, .ref q_50, .null])), (q_1, .inl (cI, 240, .inl z0)), (q_2, .inr (5, [.int 0, .int (-1), .ref u_3, .int 0, .int 0, .int 0, .int 0])), (u_3, .inl (cI, 0, .inl z0)), (q_6, .inr (8, [.int 0, .int 1, .int 0, .int 0, .int 0, .ref q_9, .ref q_10, .ref q_11, .ref q_12, .ref q_13])), (q_9, .inl (cI, 6, .inl z0)), (q_10, .inl (cI, 6, .inl z0)), (q_11, .inl (cI, 30, .inl z0)), (q_12, .inl (cI, 7, .inl z0)), (q_13, .inl (cI, 7, .inl z0)), (q_14, .inr (8, [.int 0, .int 1, .int 0, .int 0, .int 0, .ref q_17, .ref q_18, .ref q_19, .ref q_20, .ref q_21])), (q_17, .inl (cI, 6, .inl z0)), (q_18, .inl (cI, 6, .inl z0)), (q_19, .inl (cI, 30, .inl z0)), (q_20, .inl (cI, 7, .inl z0)), (q_21, .inl (cI, 7, .inl z0)), (q_22, .inr (7, [.ref u_23])), (u_23, .inl (cI, 41, .inl z0)), (q_26, .inr (2, [.ref q_29, .int 0, .int 0])), (q_29, .inr (6, [.int 20, .ref q_30])), (q_30, .inl (cI, 820, .inl z0)), (q_31, .inr (6, [.int 2, .ref u_32])), (u_32, .inl (cI, 82, .inl z0)), (q_35, .inl (cI, 2, .inl z0)), (q_36, .inr (0, [.int 0, .ref q_39, .ref q_40])), (q_39, .inl (cI, 15, .inl z0)), (q_40, .inl (cI, 15, .inl z0)), (q_41, .inr (4, [.int 0, .int 0, .int 0, .int 0, .int 0])), (q_44, .inr (3, [.ref q_47, .ref q_48, .ref q_49])), (q_47, .inl (cI, 36, .inl z0)), (q_48, .inl (cI, 64, .inl z0)), (q_49, .inl (cI, 64, .inl z0)), (q_50, .inr (1, [.int 0, .ref q_53, .ref q_54, .ref q_55, .ref q_56, .ref q_57, .ref q_58, .int 0, .int 0, .null])), (q_53, .inl (cI, 7, .inl z0)), (q_54, .inl (cI, 6, .inl z0)), (q_55, .inl (cI, 48, .inl z0)), (q_56, .inl (cI, 128, .inl z0)), (q_57, .inl (cI, 128, .inl z0)), (q_58, .inl (cI, 128, .inl z0)), (q_59, .inl (cI, 30, .inl z0))] H := hP
  have hD : va_D A [(h, .inr (9, [.ref q_1, .int 0, .int (-1), .ref q_2, .ref q_6, .ref q_14, .ref q_22, .ref q_26, .ref q_31, .ref q_35, .int 0, .ref q_36, .int 0, .ref q_41, .ref q_44, .ref q_50, .null])), (q_1, .inl (cI, 240, .inl z0)), (q_2, .inr (5, [.int 0, .int (-1), .ref u_3, .int 0, .int 0, .int 0, .int 0])), (u_3, .inl (cI, 0, .inl z0)), (q_6, .inr (8, [.int 0, .int 1, .int 0, .int 0, .int 0, .ref q_9, .ref q_10, .ref q_11, .ref q_12, .ref q_13])), (q_9, .inl (cI, 6, .inl z0)), (q_10, .inl (cI, 6, .inl z0)), (q_11, .inl (cI, 30, .inl z0)), (q_12, .inl (cI, 7, .inl z0)), (q_13, .inl (cI, 7, .inl z0)), (q_14, .inr (8, [.int 0, .int 1, .int 0, .int 0, .int 0, .ref q_17, .ref q_18, .ref q_19, .ref q_20, .ref q_21])), (q_17, .inl (cI, 6, .inl z0)), (q_18, .inl (cI, 6, .inl z0)), (q_19, .inl (cI, 30, .inl z0)), (q_20, .inl (cI, 7, .inl z0)), (q_21, .inl (cI, 7, .inl z0)), (q_22, .inr (7, [.ref u_23])), (u_23, .inl (cI, 41, .inl z0)), (q_26, .inr (2, [.ref q_29, .int 0, .int 0])), (q_29, .inr (6, [.int 20, .ref q_30])), (q_30, .inl (cI, 820, .inl z0)), (q_31, .inr (6, [.int 2, .ref u_32])), (u_32, .inl (cI, 82, .inl z0)), (q_35, .inl (cI, 2, .inl z0)), (q_36, .inr (0, [.int 0, .ref q_39, .ref q_40])), (q_39, .inl (cI, 15, .inl z0)), (q_40, .inl (cI, 15, .inl z0)), (q_41, .inr (4, [.int 0, .int 0, .int 0, .int 0, .int 0])), (q_44, .inr (3, [.ref q_47, .ref q_48, .ref q_49])), (q_47, .inl (cI, 36, .inl z0)), (q_48, .inl (cI, 64, .inl z0)), (q_49, .inl (cI, 64, .inl z0)), (q_50, .inr (1, [.int 0, .ref q_53, .ref q_54, .ref q_55, .ref q_56, .ref q_57, .ref q_58, .int 0, .int 0, .null])), (q_53, .inl (cI, 7, .inl z0)), (q_54, .inl (cI, 6, .inl z0)), (q_55, .inl (cI, 48, .inl z0)), (q_56, .inl (cI, 128, .inl z0)), (q_57, .inl (cI, 128, .inl z0)), (q_58, .inl (cI, 128, .inl z0)), (q_59, .inl (cI, 30, .inl z0))] := hD
  refine W.widen (k := 39) (n := 2022) (Nat.le_of_ble_eq_true rfl) (Nat.le_of_ble_eq_true rfl) ?_
  refine va_putF (D := D) (ci := 9) (v := .ref q_59) (ty := (.array .int)) (C := RX9) (T := TX9) (N := 17) hx hb hts iX9 tyX9 tyX9_ok nmX9 hown hK hP hD hS 0 rfl rfl 16 (by decide) (hts _ wd_133) (fun _ h9 => h9) rfl hin rfl (by decide +kernel) rfl rfl (Nat.le_of_ble_eq_true rfl) dX9_init_156 (fun H locs hP hD hS => ?_)
  have hP : va_P D classes [(h, .inr (9, [.ref q_1, .int 0, .int (-1), .ref q_2, .ref q_6, .ref q_14, .ref q_22, .ref q_26, .ref q_31, .ref q_35, .int 0, .ref q_36, .int 0, .ref q_41, .ref q_44, .ref q_50, .ref q_59])), (q_1, .inl (cI, 240, .inl z0)), (q_2, .inr (5, [.int 0, .int (-1), .ref u_3, .int 0, .int 0, .int 0, .int 0])), (u_3, .inl (cI, 0, .inl z0)), (q_6, .inr (8, [.int 0, .int 1, .int 0, .int 0, .int 0, .ref q_9, .ref q_10, .ref q_11, .ref q_12, .ref q_13])), (q_9, .inl (cI, 6, .inl z0)), (q_10, .inl (cI, 6, .inl z0)), (q_11, .inl (cI, 30, .inl z0)), (q_12, .inl (cI, 7, .inl z0)), (q_13, .inl (cI, 7, .inl z0)), (q_14, .inr (8, [.int 0, .int 1, .int 0, .int 0, .int 0, .ref q_17, .ref q_18, .ref q_19, .ref q_20, .ref q_21])), (q_17, .inl (cI, 6, .inl z0)), (q_18, .inl (cI, 6, .inl z0)), (q_19, .inl (cI, 30, .inl z0)), (q_20, .inl (cI, 7, .inl z0)), (q_21, .inl (cI, 7, .inl z0)), (q_22, .inr (7, [.ref u_23])), (u_23, .inl (cI, 41, .inl z0)), (q_26, .inr (2, [.ref q_29, .int 0, .int 0])), (q_29, .inr (6, [.int 20, .ref q_30])), (q_30, .inl (cI, 820, .inl z0)), (q_31, .inr (6, [.int 2, .ref u_32])), (u_32, .inl (cI, 82, .inl z0)), (q_35, .inl (cI, 2, .inl z0)), (q_36, .inr (0, [.int 0, .ref q_39, .ref q_40])), (q_39, .inl (cI, 15, .inl z0)), (q_40, .inl (cI, 15, .inl z0)), (q_41, .inr (4, [.int 0, .int 0, .int 0, .int 0, .int 0])), (q_44, .inr (3, [.ref q_47, .ref q_48, .ref q_49])), (q_47, .inl (cI, 36, .inl z0)), (q_48, .inl (cI, 64, .inl z0)), (q_49, .inl (cI, 64, .inl z0)), (q_50, .inr (1, [.int 0, .ref q_53, .ref q_54, .ref q_55, .ref q_56, .ref q_57, .ref q_58, .int 0, .int 0, .null])), (q_53, .inl (cI, 7, .inl z0)), (q_54, .inl (cI, 6, .inl z0)), (q_55, .inl (cI, 48, .inl z0)), (q_56, .inl (cI, 128, .inl z0)), (q_57, .inl (cI, 128, .inl z0)), (q_58, .inl (cI, 128, .inl z0)), (q_59, .inl (cI, 30, .inl z0))] H := hP
  have hD : va_D A [(h, .inr (9, [.ref q_1, .int 0, .int (-1), .ref q_2, .ref q_6, .ref q_14, .ref q_22, .ref q_26, .ref q_31, .ref q_35, .int 0, .ref q_36, .int 0, .ref q_41, .ref q_44, .ref q_50, .ref q_59])), (q_1, .inl (cI, 240, .inl z0)), (q_2, .inr (5, [.int 0, .int (-1), .ref u_3, .int 0, .int 0, .int 0, .int 0])), (u_3, .inl (cI, 0, .inl z0)), (q_6, .inr (8, [.int 0, .int 1, .int 0, .int 0, .int 0, .ref q_9, .ref q_10, .ref q_11, .ref q_12, .ref q_13])), (q_9, .inl (cI, 6, .inl z0)), (q_10, .inl (cI, 6, .inl z0)), (q_11, .inl (cI, 30, .inl z0)), (q_12, .inl (cI, 7, .inl z0)), (q_13, .inl (cI, 7, .inl z0)), (q_14, .inr (8, [.int 0, .int 1, .int 0, .int 0, .int 0, .ref q_17, .ref q_18, .ref q_19, .ref q_20, .ref q_21])), (q_17, .inl (cI, 6, .inl z0)), (q_18, .inl (cI, 6, .inl z0)), (q_19, .inl (cI, 30, .inl z0)), (q_20, .inl (cI, 7, .inl z0)), (q_21, .inl (cI, 7, .inl z0)), (q_22, .inr (7, [.ref u_23])), (u_23, .inl (cI, 41, .inl z0)), (q_26, .inr (2, [.ref q_29, .int 0, .int 0])), (q_29, .inr (6, [.int 20, .ref q_30])), (q_30, .inl (cI, 820, .inl z0)), (q_31, .inr (6, [.int 2, .ref u_32])), (u_32, .inl (cI, 82, .inl z0)), (q_35, .inl (cI, 2, .inl z0)), (q_36, .inr (0, [.int 0, .ref q_39, .ref q_40])), (q_39, .inl (cI, 15, .inl z0)), (q_40, .inl (cI, 15, .inl z0)), (q_41, .inr (4, [.int 0, .int 0, .int 0, .int 0, .int 0])), (q_44, .inr (3, [.ref q_47, .ref q_48, .ref q_49])), (q_47, .inl (cI, 36, .inl z0)), (q_48, .inl (cI, 64, .inl z0)), (q_49, .inl (cI, 64, .inl z0)), (q_50, .inr (1, [.int 0, .ref q_53, .ref q_54, .ref q_55, .ref q_56, .ref q_57, .ref q_58, .int 0, .int 0, .null])), (q_53, .inl (cI, 7, .inl z0)), (q_54, .inl (cI, 6, .inl z0)), (q_55, .inl (cI, 48, .inl z0)), (q_56, .inl (cI, 128, .inl z0)), (q_57, .inl (cI, 128, .inl z0)), (q_58, .inl (cI, 128, .inl z0)), (q_59, .inl (cI, 30, .inl z0))] := hD
  refine lv_aload_n hx hb dX9_init_159 rfl (lv_at hl 0 rfl) ?_
  refine va_get (D := D) (ci := 9) (v := .ref q_22) (C := RX9) (T := TX9) (N := 17) hx hb hts iX9 hown hK hP 0 rfl rfl 6 (by decide) (hts _ wd_96) (fun _ h9 => h9) rfl dX9_init_160 ?_
  refine lv_aload_n hx hb dX9_init_163 rfl (lv_at hl 0 rfl) ?_
  refine va_get (D := D) (ci := 9) (v := .ref q_6) (C := RX9) (T := TX9) (N := 17) hx hb hts iX9 hown hK hP 0 rfl rfl 4 (by decide) (hts _ wd_89) (fun _ h9 => h9) rfl dX9_init_164 ?_
  refine cVv (wr := [(h, .inr (9, [.ref q_1, .int 0, .int (-1), .ref q_2, .ref q_6, .ref q_14, .ref q_22, .ref q_26, .ref q_31, .ref q_35, .int 0, .ref q_36, .int 0, .ref q_41, .ref q_44, .ref q_50, .ref q_59])), (q_1, .inl (cI, 240, .inl z0)), (q_2, .inr (5, [.int 0, .int (-1), .ref u_3, .int 0, .int 0, .int 0, .int 0])), (u_3, .inl (cI, 0, .inl z0)), (q_9, .inl (cI, 6, .inl z0)), (q_10, .inl (cI, 6, .inl z0)), (q_11, .inl (cI, 30, .inl z0)), (q_12, .inl (cI, 7, .inl z0)), (q_13, .inl (cI, 7, .inl z0)), (q_14, .inr (8, [.int 0, .int 1, .int 0, .int 0, .int 0, .ref q_17, .ref q_18, .ref q_19, .ref q_20, .ref q_21])), (q_17, .inl (cI, 6, .inl z0)), (q_18, .inl (cI, 6, .inl z0)), (q_19, .inl (cI, 30, .inl z0)), (q_20, .inl (cI, 7, .inl z0)), (q_21, .inl (cI, 7, .inl z0)), (q_26, .inr (2, [.ref q_29, .int 0, .int 0])), (q_29, .inr (6, [.int 20, .ref q_30])), (q_30, .inl (cI, 820, .inl z0)), (q_31, .inr (6, [.int 2, .ref u_32])), (u_32, .inl (cI, 82, .inl z0)), (q_35, .inl (cI, 2, .inl z0)), (q_36, .inr (0, [.int 0, .ref q_39, .ref q_40])), (q_39, .inl (cI, 15, .inl z0)), (q_40, .inl (cI, 15, .inl z0)), (q_41, .inr (4, [.int 0, .int 0, .int 0, .int 0, .int 0])), (q_44, .inr (3, [.ref q_47, .ref q_48, .ref q_49])), (q_47, .inl (cI, 36, .inl z0)), (q_48, .inl (cI, 64, .inl z0)), (q_49, .inl (cI, 64, .inl z0)), (q_50, .inr (1, [.int 0, .ref q_53, .ref q_54, .ref q_55, .ref q_56, .ref q_57, .ref q_58, .int 0, .int 0, .null])), (q_53, .inl (cI, 7, .inl z0)), (q_54, .inl (cI, 6, .inl z0)), (q_55, .inl (cI, 48, .inl z0)), (q_56, .inl (cI, 128, .inl z0)), (q_57, .inl (cI, 128, .inl z0)), (q_58, .inl (cI, 128, .inl z0)), (q_59, .inl (cI, 30, .inl z0))]) (rest := []) (k_begin q_22 u_23 z0 q_6 0 1 0 0 q_9 q_10 q_11 q_12 q_13) okV_X7_begin wd_134 hx hb hml hown hts hK hP hD hS hA hN hl.1 [16, 17, 4] [0, 1, 2, 3, 5, 6, 7, 8, 9, 10, 11, 12, 13, 14, 15, 18, 19, 20, 21, 22, 23, 24, 25, 26, 27, 28, 29, 30, 31, 32, 33, 34, 35, 36, 37, 38, 39] rfl rfl rfl rfl (by decide) rfl rfl rfl (Nat.le_of_ble_eq_true rfl) (Nat.le_of_ble_eq_true rfl) (Nat.le_of_ble_eq_true rfl) (Nat.le_of_ble_eq_true rfl) (Nat.le_of_ble_eq_true rfl) dX9_init_167 (fun u_60 H locs hw_u_60 hP hD hS => ?_)
  have hP : va_P D classes [(h, .inr (9, [.ref q_1, .int 0, .int (-1), .ref q_2, .ref q_6, .ref q_14, .ref q_22, .ref q_26, .ref q_31, .ref q_35, .int 0, .ref q_36, .int 0, .ref q_41, .ref q_44, .ref q_50, .ref q_59])), (q_1, .inl (cI, 240, .inl z0)), (q_2, .inr (5, [.int 0, .int (-1), .ref u_3, .int 0, .int 0, .int 0, .int 0])), (u_3, .inl (cI, 0, .inl z0)), (q_9, .inl (cI, 6, .inl z0)), (q_10, .inl (cI, 6, .inl z0)), (q_11, .inl (cI, 30, .inl z0)), (q_12, .inl (cI, 7, .inl z0)), (q_13, .inl (cI, 7, .inl z0)), (q_14, .inr (8, [.int 0, .int 1, .int 0, .int 0, .int 0, .ref q_17, .ref q_18, .ref q_19, .ref q_20, .ref q_21])), (q_17, .inl (cI, 6, .inl z0)), (q_18, .inl (cI, 6, .inl z0)), (q_19, .inl (cI, 30, .inl z0)), (q_20, .inl (cI, 7, .inl z0)), (q_21, .inl (cI, 7, .inl z0)), (q_26, .inr (2, [.ref q_29, .int 0, .int 0])), (q_29, .inr (6, [.int 20, .ref q_30])), (q_30, .inl (cI, 820, .inl z0)), (q_31, .inr (6, [.int 2, .ref u_32])), (u_32, .inl (cI, 82, .inl z0)), (q_35, .inl (cI, 2, .inl z0)), (q_36, .inr (0, [.int 0, .ref q_39, .ref q_40])), (q_39, .inl (cI, 15, .inl z0)), (q_40, .inl (cI, 15, .inl z0)), (q_41, .inr (4, [.int 0, .int 0, .int 0, .int 0, .int 0])), (q_44, .inr (3, [.ref q_47, .ref q_48, .ref q_49])), (q_47, .inl (cI, 36, .inl z0)), (q_48, .inl (cI, 64, .inl z0)), (q_49, .inl (cI, 64, .inl z0)), (q_50, .inr (1, [.int 0, .ref q_53, .ref q_54, .ref q_55, .ref q_56, .ref q_57, .ref q_58, .int 0, .int 0, .null])), (q_53, .inl (cI, 7, .inl z0)), (q_54, .inl (cI, 6, .inl z0)), (q_55, .inl (cI, 48, .inl z0)), (q_56, .inl (cI, 128, .inl z0)), (q_57, .inl (cI, 128, .inl z0)), (q_58, .inl (cI, 128, .inl z0)), (q_59, .inl (cI, 30, .inl z0)), (q_22, .inr (7, [.ref u_23])), (u_23, .inl (cI, 41, .inl (cB2 z0 7))), (q_6, .inr (8, [.int 0, .int 1, .int 0, .int 0, .int 0, .ref q_9, .ref q_10, .ref q_11, .ref q_12, .ref q_13]))] H := hP
  have hD : va_D A [(h, .inr (9, [.ref q_1, .int 0, .int (-1), .ref q_2, .ref q_6, .ref q_14, .ref q_22, .ref q_26, .ref q_31, .ref q_35, .int 0, .ref q_36, .int 0, .ref q_41, .ref q_44, .ref q_50, .ref q_59])), (q_1, .inl (cI, 240, .inl z0)), (q_2, .inr (5, [.int 0, .int (-1), .ref u_3, .int 0, .int 0, .int 0, .int 0])), (u_3, .inl (cI, 0, .inl z0)), (q_9, .inl (cI, 6, .inl z0)), (q_10, .inl (cI, 6, .inl z0)), (q_11, .inl (cI, 30, .inl z0)), (q_12, .inl (cI, 7, .inl z0)), (q_13, .inl (cI, 7, .inl z0)), (q_14, .inr (8, [.int 0, .int 1, .int 0, .int 0, .int 0, .ref q_17, .ref q_18, .ref q_19, .ref q_20, .ref q_21])), (q_17, .inl (cI, 6, .inl z0)), (q_18, .inl (cI, 6, .inl z0)), (q_19, .inl (cI, 30, .inl z0)), (q_20, .inl (cI, 7, .inl z0)), (q_21, .inl (cI, 7, .inl z0)), (q_26, .inr (2, [.ref q_29, .int 0, .int 0])), (q_29, .inr (6, [.int 20, .ref q_30])), (q_30, .inl (cI, 820, .inl z0)), (q_31, .inr (6, [.int 2, .ref u_32])), (u_32, .inl (cI, 82, .inl z0)), (q_35, .inl (cI, 2, .inl z0)), (q_36, .inr (0, [.int 0, .ref q_39, .ref q_40])), (q_39, .inl (cI, 15, .inl z0)), (q_40, .inl (cI, 15, .inl z0)), (q_41, .inr (4, [.int 0, .int 0, .int 0, .int 0, .int 0])), (q_44, .inr (3, [.ref q_47, .ref q_48, .ref q_49])), (q_47, .inl (cI, 36, .inl z0)), (q_48, .inl (cI, 64, .inl z0)), (q_49, .inl (cI, 64, .inl z0)), (q_50, .inr (1, [.int 0, .ref q_53, .ref q_54, .ref q_55, .ref q_56, .ref q_57, .ref q_58, .int 0, .int 0, .null])), (q_53, .inl (cI, 7, .inl z0)), (q_54, .inl (cI, 6, .inl z0)), (q_55, .inl (cI, 48, .inl z0)), (q_56, .inl (cI, 128, .inl z0)), (q_57, .inl (cI, 128, .inl z0)), (q_58, .inl (cI, 128, .inl z0)), (q_59, .inl (cI, 30, .inl z0)), (q_22, .inr (7, [.ref u_23])), (u_23, .inl (cI, 41, .inl (cB2 z0 7))), (q_6, .inr (8, [.int 0, .int 1, .int 0, .int 0, .int 0, .ref q_9, .ref q_10, .ref q_11, .ref q_12, .ref q_13]))] := hD
  refine W.widen (k := rm_k_QB_init.cells) (n := rm_k_QB_init.slots) (Nat.le_of_ble_eq_true rfl) (Nat.le_of_ble_eq_true rfl) ?_
  exact hret ⟨q_1, q_2, u_3, q_6, q_9, q_10, q_11, q_12, q_13, q_14, q_17, q_18, q_19, q_20, q_21, q_22, u_23, q_26, q_29, q_30, q_31, u_32, q_35, q_36, q_39, q_40, q_41, q_44, q_47, q_48, q_49, q_50, q_53, q_54, q_55, q_56, q_57, q_58, q_59⟩ _ _ _ _ dX9_init_170 trivial hP hD hS
end
section
theorem dX8_hasBridge_0 : decode cX8_hasBridge 0 = .ok (.iload_n 1, 1) := by decide +kernel
theorem dX8_hasBridge_1 : decode cX8_hasBridge 1 = .ok (.ifCond .lt 15, 3) := by decide +kernel
theorem dX8_hasBridge_16 : decode cX8_hasBridge 16 = .ok (.iconst 0, 1) := by decide +kernel
theorem dX8_hasBridge_17 : decode cX8_hasBridge 17 = .ok (.ireturn, 1) := by decide +kernel
theorem dX8_hasBridge_4 : decode cX8_hasBridge 4 = .ok (.iload_n 1, 1) := by decide +kernel
theorem dX8_hasBridge_5 : decode cX8_hasBridge 5 = .ok (.aload_n 0, 1) := by decide +kernel
theorem dX8_hasBridge_6 : decode cX8_hasBridge 6 = .ok (.getfield 9, 3) := by decide +kernel
theorem dX8_hasBridge_9 : decode cX8_hasBridge 9 = .ok (.if_icmp .ge 7, 3) := by decide +kernel
theorem dX8_hasBridge_12 : decode cX8_hasBridge 12 = .ok (.iconst 1, 1) := by decide +kernel
theorem dX8_hasBridge_13 : decode cX8_hasBridge 13 = .ok (.goto 4, 3) := by decide +kernel
theorem dX8_hasTheme_0 : decode cX8_hasTheme 0 = .ok (.iload_n 1, 1) := by decide +kernel
theorem dX8_hasTheme_1 : decode cX8_hasTheme 1 = .ok (.ifCond .lt 15, 3) := by decide +kernel
theorem dX8_hasTheme_16 : decode cX8_hasTheme 16 = .ok (.iconst 0, 1) := by decide +kernel
theorem dX8_hasTheme_17 : decode cX8_hasTheme 17 = .ok (.ireturn, 1) := by decide +kernel
theorem dX8_hasTheme_4 : decode cX8_hasTheme 4 = .ok (.iload_n 1, 1) := by decide +kernel
theorem dX8_hasTheme_5 : decode cX8_hasTheme 5 = .ok (.aload_n 0, 1) := by decide +kernel
theorem dX8_hasTheme_6 : decode cX8_hasTheme 6 = .ok (.getfield 15, 3) := by decide +kernel
theorem dX8_hasTheme_9 : decode cX8_hasTheme 9 = .ok (.if_icmp .ge 7, 3) := by decide +kernel
theorem dX8_hasTheme_12 : decode cX8_hasTheme 12 = .ok (.iconst 1, 1) := by decide +kernel
theorem dX8_hasTheme_13 : decode cX8_hasTheme 13 = .ok (.goto 4, 3) := by decide +kernel
theorem dX8_hasCouple_0 : decode cX8_hasCouple 0 = .ok (.iload_n 1, 1) := by decide +kernel
theorem dX8_hasCouple_1 : decode cX8_hasCouple 1 = .ok (.ifCond .lt 15, 3) := by decide +kernel
theorem dX8_hasCouple_16 : decode cX8_hasCouple 16 = .ok (.iconst 0, 1) := by decide +kernel
theorem dX8_hasCouple_17 : decode cX8_hasCouple 17 = .ok (.ireturn, 1) := by decide +kernel
theorem dX8_hasCouple_4 : decode cX8_hasCouple 4 = .ok (.iload_n 1, 1) := by decide +kernel
theorem dX8_hasCouple_5 : decode cX8_hasCouple 5 = .ok (.aload_n 0, 1) := by decide +kernel
theorem dX8_hasCouple_6 : decode cX8_hasCouple 6 = .ok (.getfield 18, 3) := by decide +kernel
theorem dX8_hasCouple_9 : decode cX8_hasCouple 9 = .ok (.if_icmp .ge 7, 3) := by decide +kernel
theorem dX8_hasCouple_12 : decode cX8_hasCouple 12 = .ok (.iconst 1, 1) := by decide +kernel
theorem dX8_hasCouple_13 : decode cX8_hasCouple 13 = .ok (.goto 4, 3) := by decide +kernel
theorem dX8_hasBarge_0 : decode cX8_hasBarge 0 = .ok (.iload_n 1, 1) := by decide +kernel
theorem dX8_hasBarge_1 : decode cX8_hasBarge 1 = .ok (.ifCond .lt 15, 3) := by decide +kernel
theorem dX8_hasBarge_16 : decode cX8_hasBarge 16 = .ok (.iconst 0, 1) := by decide +kernel
theorem dX8_hasBarge_17 : decode cX8_hasBarge 17 = .ok (.ireturn, 1) := by decide +kernel
theorem dX8_hasBarge_4 : decode cX8_hasBarge 4 = .ok (.iload_n 1, 1) := by decide +kernel
theorem dX8_hasBarge_5 : decode cX8_hasBarge 5 = .ok (.aload_n 0, 1) := by decide +kernel
theorem dX8_hasBarge_6 : decode cX8_hasBarge 6 = .ok (.getfield 21, 3) := by decide +kernel
theorem dX8_hasBarge_9 : decode cX8_hasBarge 9 = .ok (.if_icmp .ge 7, 3) := by decide +kernel
theorem dX8_hasBarge_12 : decode cX8_hasBarge 12 = .ok (.iconst 1, 1) := by decide +kernel
theorem dX8_hasBarge_13 : decode cX8_hasBarge 13 = .ok (.goto 4, 3) := by decide +kernel
theorem dX7_minutes_0 : decode cX7_minutes 0 = .ok (.aload_n 0, 1) := by decide +kernel
theorem dX7_minutes_1 : decode cX7_minutes 1 = .ok (.getfield 11, 3) := by decide +kernel
theorem dX7_minutes_4 : decode cX7_minutes 4 = .ok (.iconst 0, 1) := by decide +kernel
theorem dX7_minutes_5 : decode cX7_minutes 5 = .ok (.invokestatic 30, 3) := by decide +kernel
theorem wd_138 : Cond.code yX9_at cX9_at 2 (some .int) ∈ BG := BG_in (by decide +kernel) rfl
theorem wd_139 : Cond.static yX9_at ∈ BG := BG_in (by decide +kernel) rfl
theorem okS_X9_at : okS yX9_at cX9_at 2 (some .int) 2 := ⟨⟨wd_138, wd_71, by decide +kernel⟩, wd_139⟩
theorem dX7_minutes_8 : decode cX7_minutes 8 = .ok (.ireturn, 1) := by decide +kernel
theorem dX7_reconciledSet_0 : decode cX7_reconciledSet 0 = .ok (.aload_n 0, 1) := by decide +kernel
theorem dX7_reconciledSet_1 : decode cX7_reconciledSet 1 = .ok (.getfield 11, 3) := by decide +kernel
theorem dX7_reconciledSet_4 : decode cX7_reconciledSet 4 = .ok (.iconst 1, 1) := by decide +kernel
theorem dX7_reconciledSet_5 : decode cX7_reconciledSet 5 = .ok (.invokestatic 30, 3) := by decide +kernel
theorem dX7_reconciledSet_8 : decode cX7_reconciledSet 8 = .ok (.ireturn, 1) := by decide +kernel
theorem dX7_grievanceOf_0 : decode cX7_grievanceOf 0 = .ok (.aload_n 0, 1) := by decide +kernel
theorem dX7_grievanceOf_1 : decode cX7_grievanceOf 1 = .ok (.getfield 11, 3) := by decide +kernel
theorem dX7_grievanceOf_4 : decode cX7_grievanceOf 4 = .ok (.iconst 2, 1) := by decide +kernel
theorem dX7_grievanceOf_5 : decode cX7_grievanceOf 5 = .ok (.iload_n 1, 1) := by decide +kernel
theorem dX7_grievanceOf_6 : decode cX7_grievanceOf 6 = .ok (.iadd, 1) := by decide +kernel
theorem dX7_grievanceOf_7 : decode cX7_grievanceOf 7 = .ok (.invokestatic 30, 3) := by decide +kernel
theorem dX7_grievanceOf_10 : decode cX7_grievanceOf 10 = .ok (.ireturn, 1) := by decide +kernel
theorem dX7_bridgeOf_0 : decode cX7_bridgeOf 0 = .ok (.aload_n 0, 1) := by decide +kernel
theorem dX7_bridgeOf_1 : decode cX7_bridgeOf 1 = .ok (.getfield 11, 3) := by decide +kernel
theorem dX7_bridgeOf_4 : decode cX7_bridgeOf 4 = .ok (.bipush 8, 2) := by decide +kernel
theorem dX7_bridgeOf_6 : decode cX7_bridgeOf 6 = .ok (.iload_n 1, 1) := by decide +kernel
theorem dX7_bridgeOf_7 : decode cX7_bridgeOf 7 = .ok (.iadd, 1) := by decide +kernel
theorem dX7_bridgeOf_8 : decode cX7_bridgeOf 8 = .ok (.invokestatic 30, 3) := by decide +kernel
theorem dX7_bridgeOf_11 : decode cX7_bridgeOf 11 = .ok (.ireturn, 1) := by decide +kernel
theorem dX7_themeOf_0 : decode cX7_themeOf 0 = .ok (.aload_n 0, 1) := by decide +kernel
theorem dX7_themeOf_1 : decode cX7_themeOf 1 = .ok (.getfield 11, 3) := by decide +kernel
theorem dX7_themeOf_4 : decode cX7_themeOf 4 = .ok (.bipush 14, 2) := by decide +kernel
theorem dX7_themeOf_6 : decode cX7_themeOf 6 = .ok (.iload_n 1, 1) := by decide +kernel
theorem dX7_themeOf_7 : decode cX7_themeOf 7 = .ok (.iadd, 1) := by decide +kernel
theorem dX7_themeOf_8 : decode cX7_themeOf 8 = .ok (.invokestatic 30, 3) := by decide +kernel
theorem dX7_themeOf_11 : decode cX7_themeOf 11 = .ok (.ireturn, 1) := by decide +kernel
theorem dX7_fateOf_0 : decode cX7_fateOf 0 = .ok (.aload_n 0, 1) := by decide +kernel
theorem dX7_fateOf_1 : decode cX7_fateOf 1 = .ok (.getfield 11, 3) := by decide +kernel
theorem dX7_fateOf_4 : decode cX7_fateOf 4 = .ok (.bipush 20, 2) := by decide +kernel
theorem dX7_fateOf_6 : decode cX7_fateOf 6 = .ok (.iload_n 1, 1) := by decide +kernel
theorem dX7_fateOf_7 : decode cX7_fateOf 7 = .ok (.iadd, 1) := by decide +kernel
theorem dX7_fateOf_8 : decode cX7_fateOf 8 = .ok (.invokestatic 30, 3) := by decide +kernel
theorem dX7_fateOf_11 : decode cX7_fateOf 11 = .ok (.ireturn, 1) := by decide +kernel
theorem dX7_bargesOfFate_0 : decode cX7_bargesOfFate 0 = .ok (.iconst 0, 1) := by decide +kernel
theorem dX7_bargesOfFate_1 : decode cX7_bargesOfFate 1 = .ok (.istore_n 2, 1) := by decide +kernel
theorem dX7_bargesOfFate_2 : decode cX7_bargesOfFate 2 = .ok (.iconst 0, 1) := by decide +kernel
theorem dX7_bargesOfFate_3 : decode cX7_bargesOfFate 3 = .ok (.istore_n 3, 1) := by decide +kernel
theorem dX7_bargesOfFate_4 : decode cX7_bargesOfFate 4 = .ok (.iload_n 3, 1) := by decide +kernel
theorem dX7_bargesOfFate_5 : decode cX7_bargesOfFate 5 = .ok (.bipush 7, 2) := by decide +kernel
theorem dX7_bargesOfFate_7 : decode cX7_bargesOfFate 7 = .ok (.if_icmp .ge 28, 3) := by decide +kernel
theorem dX7_bargesOfFate_10 : decode cX7_bargesOfFate 10 = .ok (.iload_n 2, 1) := by decide +kernel
theorem dX7_bargesOfFate_11 : decode cX7_bargesOfFate 11 = .ok (.aload_n 0, 1) := by decide +kernel
theorem dX7_bargesOfFate_12 : decode cX7_bargesOfFate 12 = .ok (.iload_n 3, 1) := by decide +kernel
theorem dX7_bargesOfFate_13 : decode cX7_bargesOfFate 13 = .ok (.invokevirtual 68, 3) := by decide +kernel
theorem wd_140 : Cond.methodLink RX7 68 yX7_fateOf ∈ BG := BG_in (by decide +kernel) rfl
theorem wd_141 : Cond.code yX7_fateOf cX7_fateOf 2 (some .int) ∈ BG := BG_in (by decide +kernel) rfl
theorem wd_142 : Cond.instanceMethod yX7_fateOf ∈ BG := BG_in (by decide +kernel) rfl
theorem wd_143 : Cond.selects RX7 yX7_fateOf yX7_fateOf ∈ BG := BG_in (by decide +kernel) rfl
theorem okV_X7_fateOf : okV yX7_fateOf cX7_fateOf 2 (some .int) 1 := ⟨⟨wd_141, wd_93, by decide +kernel⟩, wd_142, wd_143⟩
theorem dX7_bargesOfFate_16 : decode cX7_bargesOfFate 16 = .ok (.iload_n 1, 1) := by decide +kernel
theorem dX7_bargesOfFate_17 : decode cX7_bargesOfFate 17 = .ok (.if_icmp .ne 9, 3) := by decide +kernel
theorem dX7_bargesOfFate_20 : decode cX7_bargesOfFate 20 = .ok (.iconst 1, 1) := by decide +kernel
theorem dX7_bargesOfFate_21 : decode cX7_bargesOfFate 21 = .ok (.iload_n 3, 1) := by decide +kernel
theorem dX7_bargesOfFate_22 : decode cX7_bargesOfFate 22 = .ok (.ishl, 1) := by decide +kernel
theorem dX7_bargesOfFate_23 : decode cX7_bargesOfFate 23 = .ok (.goto 4, 3) := by decide +kernel
theorem dX7_bargesOfFate_27 : decode cX7_bargesOfFate 27 = .ok (.ior, 1) := by decide +kernel
theorem dX7_bargesOfFate_28 : decode cX7_bargesOfFate 28 = .ok (.istore_n 2, 1) := by decide +kernel
theorem dX7_bargesOfFate_29 : decode cX7_bargesOfFate 29 = .ok (.iinc 3 1, 3) := by decide +kernel
theorem dX7_bargesOfFate_32 : decode cX7_bargesOfFate 32 = .ok (.goto (-28), 3) := by decide +kernel
theorem dX7_bargesOfFate_35 : decode cX7_bargesOfFate 35 = .ok (.iload_n 2, 1) := by decide +kernel
theorem dX7_bargesOfFate_36 : decode cX7_bargesOfFate 36 = .ok (.ireturn, 1) := by decide +kernel
theorem dX7_bargesOfFate_26 : decode cX7_bargesOfFate 26 = .ok (.iconst 0, 1) := by decide +kernel
theorem dX7_grievanceOfSet_0 : decode cX7_grievanceOfSet 0 = .ok (.iconst 0, 1) := by decide +kernel
theorem dX7_grievanceOfSet_1 : decode cX7_grievanceOfSet 1 = .ok (.istore_n 2, 1) := by decide +kernel
theorem dX7_grievanceOfSet_2 : decode cX7_grievanceOfSet 2 = .ok (.iconst 0, 1) := by decide +kernel
theorem dX7_grievanceOfSet_3 : decode cX7_grievanceOfSet 3 = .ok (.istore_n 3, 1) := by decide +kernel
theorem dX7_grievanceOfSet_4 : decode cX7_grievanceOfSet 4 = .ok (.iload_n 3, 1) := by decide +kernel
theorem dX7_grievanceOfSet_5 : decode cX7_grievanceOfSet 5 = .ok (.bipush 6, 2) := by decide +kernel
theorem dX7_grievanceOfSet_7 : decode cX7_grievanceOfSet 7 = .ok (.if_icmp .ge 23, 3) := by decide +kernel
theorem dX7_grievanceOfSet_10 : decode cX7_grievanceOfSet 10 = .ok (.iload_n 2, 1) := by decide +kernel
theorem dX7_grievanceOfSet_11 : decode cX7_grievanceOfSet 11 = .ok (.iload_n 1, 1) := by decide +kernel
theorem dX7_grievanceOfSet_12 : decode cX7_grievanceOfSet 12 = .ok (.iload_n 3, 1) := by decide +kernel
theorem dX7_grievanceOfSet_13 : decode cX7_grievanceOfSet 13 = .ok (.ishr, 1) := by decide +kernel
theorem dX7_grievanceOfSet_14 : decode cX7_grievanceOfSet 14 = .ok (.iconst 1, 1) := by decide +kernel
theorem dX7_grievanceOfSet_15 : decode cX7_grievanceOfSet 15 = .ok (.iand, 1) := by decide +kernel
theorem dX7_grievanceOfSet_16 : decode cX7_grievanceOfSet 16 = .ok (.aload_n 0, 1) := by decide +kernel
theorem dX7_grievanceOfSet_17 : decode cX7_grievanceOfSet 17 = .ok (.iload_n 3, 1) := by decide +kernel
theorem dX7_grievanceOfSet_18 : decode cX7_grievanceOfSet 18 = .ok (.invokevirtual 49, 3) := by decide +kernel
theorem wd_144 : Cond.methodLink RX7 49 yX7_grievanceOf ∈ BG := BG_in (by decide +kernel) rfl
theorem wd_145 : Cond.code yX7_grievanceOf cX7_grievanceOf 2 (some .int) ∈ BG := BG_in (by decide +kernel) rfl
theorem wd_146 : Cond.instanceMethod yX7_grievanceOf ∈ BG := BG_in (by decide +kernel) rfl
theorem wd_147 : Cond.selects RX7 yX7_grievanceOf yX7_grievanceOf ∈ BG := BG_in (by decide +kernel) rfl
theorem okV_X7_grievanceOf : okV yX7_grievanceOf cX7_grievanceOf 2 (some .int) 1 := ⟨⟨wd_145, wd_93, by decide +kernel⟩, wd_146, wd_147⟩
theorem dX7_grievanceOfSet_21 : decode cX7_grievanceOfSet 21 = .ok (.imul, 1) := by decide +kernel
theorem dX7_grievanceOfSet_22 : decode cX7_grievanceOfSet 22 = .ok (.iadd, 1) := by decide +kernel
theorem dX7_grievanceOfSet_23 : decode cX7_grievanceOfSet 23 = .ok (.istore_n 2, 1) := by decide +kernel
theorem dX7_grievanceOfSet_24 : decode cX7_grievanceOfSet 24 = .ok (.iinc 3 1, 3) := by decide +kernel
theorem dX7_grievanceOfSet_27 : decode cX7_grievanceOfSet 27 = .ok (.goto (-23), 3) := by decide +kernel
theorem dX7_grievanceOfSet_30 : decode cX7_grievanceOfSet 30 = .ok (.iload_n 2, 1) := by decide +kernel
theorem dX7_grievanceOfSet_31 : decode cX7_grievanceOfSet 31 = .ok (.ireturn, 1) := by decide +kernel
theorem dX7_grievanceOfAll_0 : decode cX7_grievanceOfAll 0 = .ok (.aload_n 0, 1) := by decide +kernel
theorem dX7_grievanceOfAll_1 : decode cX7_grievanceOfAll 1 = .ok (.bipush 63, 2) := by decide +kernel
theorem dX7_grievanceOfAll_3 : decode cX7_grievanceOfAll 3 = .ok (.invokevirtual 53, 3) := by decide +kernel
theorem wd_148 : Cond.methodLink RX7 53 yX7_grievanceOfSet ∈ BG := BG_in (by decide +kernel) rfl
theorem wd_149 : Cond.code yX7_grievanceOfSet cX7_grievanceOfSet 4 (some .int) ∈ BG := BG_in (by decide +kernel) rfl
theorem wd_150 : Cond.instanceMethod yX7_grievanceOfSet ∈ BG := BG_in (by decide +kernel) rfl
theorem wd_151 : Cond.selects RX7 yX7_grievanceOfSet yX7_grievanceOfSet ∈ BG := BG_in (by decide +kernel) rfl
theorem okV_X7_grievanceOfSet : okV yX7_grievanceOfSet cX7_grievanceOfSet 4 (some .int) 1 := ⟨⟨wd_149, wd_93, by decide +kernel⟩, wd_150, wd_151⟩
theorem dX7_grievanceOfAll_6 : decode cX7_grievanceOfAll 6 = .ok (.ireturn, 1) := by decide +kernel
theorem dX7_coupleAt_0 : decode cX7_coupleAt 0 = .ok (.iconst 0, 1) := by decide +kernel
theorem dX7_coupleAt_1 : decode cX7_coupleAt 1 = .ok (.istore_n 2, 1) := by decide +kernel
theorem dX7_coupleAt_2 : decode cX7_coupleAt 2 = .ok (.iload_n 2, 1) := by decide +kernel
theorem dX7_coupleAt_3 : decode cX7_coupleAt 3 = .ok (.bipush 6, 2) := by decide +kernel
theorem dX7_coupleAt_5 : decode cX7_coupleAt 5 = .ok (.if_icmp .ge 20, 3) := by decide +kernel
theorem dX7_coupleAt_8 : decode cX7_coupleAt 8 = .ok (.aload_n 0, 1) := by decide +kernel
theorem dX7_coupleAt_9 : decode cX7_coupleAt 9 = .ok (.iload_n 2, 1) := by decide +kernel
theorem dX7_coupleAt_10 : decode cX7_coupleAt 10 = .ok (.invokevirtual 65, 3) := by decide +kernel
theorem wd_152 : Cond.methodLink RX7 65 yX7_bridgeOf ∈ BG := BG_in (by decide +kernel) rfl
theorem wd_153 : Cond.code yX7_bridgeOf cX7_bridgeOf 2 (some .int) ∈ BG := BG_in (by decide +kernel) rfl
theorem wd_154 : Cond.instanceMethod yX7_bridgeOf ∈ BG := BG_in (by decide +kernel) rfl
theorem wd_155 : Cond.selects RX7 yX7_bridgeOf yX7_bridgeOf ∈ BG := BG_in (by decide +kernel) rfl
theorem okV_X7_bridgeOf : okV yX7_bridgeOf cX7_bridgeOf 2 (some .int) 1 := ⟨⟨wd_153, wd_93, by decide +kernel⟩, wd_154, wd_155⟩
theorem dX7_coupleAt_13 : decode cX7_coupleAt 13 = .ok (.iload_n 1, 1) := by decide +kernel
theorem dX7_coupleAt_14 : decode cX7_coupleAt 14 = .ok (.if_icmp .ne 5, 3) := by decide +kernel
theorem dX7_coupleAt_19 : decode cX7_coupleAt 19 = .ok (.iinc 2 1, 3) := by decide +kernel
theorem dX7_coupleAt_22 : decode cX7_coupleAt 22 = .ok (.goto (-20), 3) := by decide +kernel
theorem dX7_coupleAt_25 : decode cX7_coupleAt 25 = .ok (.iconst (-1), 1) := by decide +kernel
theorem dX7_coupleAt_26 : decode cX7_coupleAt 26 = .ok (.ireturn, 1) := by decide +kernel
theorem dX8_needOfAll_0 : decode cX8_needOfAll 0 = .ok (.iconst 0, 1) := by decide +kernel
theorem dX8_needOfAll_1 : decode cX8_needOfAll 1 = .ok (.istore_n 1, 1) := by decide +kernel
theorem dX8_needOfAll_2 : decode cX8_needOfAll 2 = .ok (.iconst 0, 1) := by decide +kernel
theorem dX8_needOfAll_3 : decode cX8_needOfAll 3 = .ok (.istore_n 2, 1) := by decide +kernel
theorem dX8_needOfAll_4 : decode cX8_needOfAll 4 = .ok (.iload_n 2, 1) := by decide +kernel
theorem dX8_needOfAll_5 : decode cX8_needOfAll 5 = .ok (.aload_n 0, 1) := by decide +kernel
theorem dX8_needOfAll_6 : decode cX8_needOfAll 6 = .ok (.getfield 9, 3) := by decide +kernel
theorem dX8_needOfAll_9 : decode cX8_needOfAll 9 = .ok (.if_icmp .ge 20, 3) := by decide +kernel
theorem dX8_needOfAll_29 : decode cX8_needOfAll 29 = .ok (.iload_n 1, 1) := by decide +kernel
theorem dX8_needOfAll_30 : decode cX8_needOfAll 30 = .ok (.ireturn, 1) := by decide +kernel
theorem dX8_clear_0 : decode cX8_clear 0 = .ok (.aload_n 0, 1) := by decide +kernel
theorem dX8_clear_1 : decode cX8_clear 1 = .ok (.iconst 0, 1) := by decide +kernel
theorem dX8_clear_2 : decode cX8_clear 2 = .ok (.putfield 9, 3) := by decide +kernel
theorem dX8_clear_5 : decode cX8_clear 5 = .ok (.aload_n 0, 1) := by decide +kernel
theorem dX8_clear_6 : decode cX8_clear 6 = .ok (.iconst 1, 1) := by decide +kernel
theorem dX8_clear_7 : decode cX8_clear 7 = .ok (.putfield 15, 3) := by decide +kernel
theorem dX8_clear_10 : decode cX8_clear 10 = .ok (.aload_n 0, 1) := by decide +kernel
theorem dX8_clear_11 : decode cX8_clear 11 = .ok (.iconst 0, 1) := by decide +kernel
theorem dX8_clear_12 : decode cX8_clear 12 = .ok (.putfield 18, 3) := by decide +kernel
theorem dX8_clear_15 : decode cX8_clear 15 = .ok (.aload_n 0, 1) := by decide +kernel
theorem dX8_clear_16 : decode cX8_clear 16 = .ok (.iconst 0, 1) := by decide +kernel
theorem dX8_clear_17 : decode cX8_clear 17 = .ok (.putfield 21, 3) := by decide +kernel
theorem dX8_clear_20 : decode cX8_clear 20 = .ok (.aload_n 0, 1) := by decide +kernel
theorem dX8_clear_21 : decode cX8_clear 21 = .ok (.iconst 0, 1) := by decide +kernel
theorem dX8_clear_22 : decode cX8_clear 22 = .ok (.putfield 24, 3) := by decide +kernel
theorem dX8_clear_25 : decode cX8_clear 25 = .ok (.return_, 1) := by decide +kernel
theorem dX2_forget_0 : decode cX2_forget 0 = .ok (.aload_n 0, 1) := by decide +kernel
theorem dX2_forget_1 : decode cX2_forget 1 = .ok (.iconst 0, 1) := by decide +kernel
theorem dX2_forget_2 : decode cX2_forget 2 = .ok (.putfield 24, 3) := by decide +kernel
theorem dX2_forget_5 : decode cX2_forget 5 = .ok (.return_, 1) := by decide +kernel
theorem dX0_clear_0 : decode cX0_clear 0 = .ok (.aload_n 0, 1) := by decide +kernel
theorem dX0_clear_1 : decode cX0_clear 1 = .ok (.iconst 0, 1) := by decide +kernel
theorem dX0_clear_2 : decode cX0_clear 2 = .ok (.putfield 9, 3) := by decide +kernel
theorem dX0_clear_5 : decode cX0_clear 5 = .ok (.return_, 1) := by decide +kernel
theorem dX5_letter_0 : decode cX5_letter 0 = .ok (.aload_n 0, 1) := by decide +kernel
theorem dX5_letter_1 : decode cX5_letter 1 = .ok (.getfield 25, 3) := by decide +kernel
theorem dX5_letter_4 : decode cX5_letter 4 = .ok (.ifCond .lt 38, 3) := by decide +kernel
theorem dX5_letter_7 : decode cX5_letter 7 = .ok (.aload_n 0, 1) := by decide +kernel
theorem dX5_letter_8 : decode cX5_letter 8 = .ok (.getfield 25, 3) := by decide +kernel
theorem dX5_letter_11 : decode cX5_letter 11 = .ok (.aload_n 0, 1) := by decide +kernel
theorem dX5_letter_12 : decode cX5_letter 12 = .ok (.getfield 22, 3) := by decide +kernel
theorem dX5_letter_15 : decode cX5_letter 15 = .ok (.if_icmp .ge 27, 3) := by decide +kernel
theorem dX5_letter_42 : decode cX5_letter 42 = .ok (.iconst (-1), 1) := by decide +kernel
theorem dX5_letter_43 : decode cX5_letter 43 = .ok (.ireturn, 1) := by decide +kernel
theorem dX5_next_0 : decode cX5_next 0 = .ok (.iconst 0, 1) := by decide +kernel
theorem dX5_next_1 : decode cX5_next 1 = .ok (.istore_n 1, 1) := by decide +kernel
theorem dX5_next_2 : decode cX5_next 2 = .ok (.iload_n 1, 1) := by decide +kernel
theorem dX5_next_3 : decode cX5_next 3 = .ok (.sipush 240, 3) := by decide +kernel
theorem dX5_next_6 : decode cX5_next 6 = .ok (.if_icmp .ge 28, 3) := by decide +kernel
theorem dX5_next_9 : decode cX5_next 9 = .ok (.aload_n 0, 1) := by decide +kernel
theorem dX5_next_10 : decode cX5_next 10 = .ok (.invokevirtual 107, 3) := by decide +kernel
theorem wd_156 : Cond.methodLink RX5 107 yX5_letter ∈ BG := BG_in (by decide +kernel) rfl
theorem wd_157 : Cond.code yX5_letter cX5_letter 1 (some .int) ∈ BG := BG_in (by decide +kernel) rfl
theorem wd_158 : Cond.instanceMethod yX5_letter ∈ BG := BG_in (by decide +kernel) rfl
theorem wd_159 : Cond.selects RX5 yX5_letter yX5_letter ∈ BG := BG_in (by decide +kernel) rfl
theorem okV_X5_letter : okV yX5_letter cX5_letter 1 (some .int) 0 := ⟨⟨wd_157, wd_80, by decide +kernel⟩, wd_158, wd_159⟩
theorem dX5_next_13 : decode cX5_next 13 = .ok (.bipush 32, 2) := by decide +kernel
theorem dX5_next_15 : decode cX5_next 15 = .ok (.if_icmp .ne 19, 3) := by decide +kernel
theorem dX5_next_34 : decode cX5_next 34 = .ok (.aload_n 0, 1) := by decide +kernel
theorem dX5_next_35 : decode cX5_next 35 = .ok (.invokevirtual 107, 3) := by decide +kernel
theorem dX5_next_38 : decode cX5_next 38 = .ok (.ireturn, 1) := by decide +kernel
theorem dX5_read_0 : decode cX5_read 0 = .ok (.aload_n 0, 1) := by decide +kernel
theorem dX5_read_1 : decode cX5_read 1 = .ok (.aload_n 1, 1) := by decide +kernel
theorem dX5_read_2 : decode cX5_read 2 = .ok (.putfield 18, 3) := by decide +kernel
theorem dX5_read_5 : decode cX5_read 5 = .ok (.aload_n 0, 1) := by decide +kernel
theorem dX5_read_6 : decode cX5_read 6 = .ok (.iload_n 2, 1) := by decide +kernel
theorem dX5_read_7 : decode cX5_read 7 = .ok (.putfield 22, 3) := by decide +kernel
theorem dX5_read_10 : decode cX5_read 10 = .ok (.aload_n 0, 1) := by decide +kernel
theorem dX5_read_11 : decode cX5_read 11 = .ok (.iconst 0, 1) := by decide +kernel
theorem dX5_read_12 : decode cX5_read 12 = .ok (.putfield 25, 3) := by decide +kernel
theorem dX5_read_15 : decode cX5_read 15 = .ok (.aload_n 0, 1) := by decide +kernel
theorem dX5_read_16 : decode cX5_read 16 = .ok (.iconst 0, 1) := by decide +kernel
theorem dX5_read_17 : decode cX5_read 17 = .ok (.putfield 9, 3) := by decide +kernel
theorem dX5_read_20 : decode cX5_read 20 = .ok (.aload_n 0, 1) := by decide +kernel
theorem dX5_read_21 : decode cX5_read 21 = .ok (.iconst (-1), 1) := by decide +kernel
theorem dX5_read_22 : decode cX5_read 22 = .ok (.putfield 15, 3) := by decide +kernel
theorem dX5_read_25 : decode cX5_read 25 = .ok (.aload_n 0, 1) := by decide +kernel
theorem dX5_read_26 : decode cX5_read 26 = .ok (.iconst 0, 1) := by decide +kernel
theorem dX5_read_27 : decode cX5_read 27 = .ok (.putfield 28, 3) := by decide +kernel
theorem dX5_read_30 : decode cX5_read 30 = .ok (.aload_n 0, 1) := by decide +kernel
theorem dX5_read_31 : decode cX5_read 31 = .ok (.iconst 0, 1) := by decide +kernel
theorem dX5_read_32 : decode cX5_read 32 = .ok (.putfield 32, 3) := by decide +kernel
theorem dX5_read_35 : decode cX5_read 35 = .ok (.aload_n 3, 1) := by decide +kernel
theorem dX5_read_36 : decode cX5_read 36 = .ok (.invokevirtual 35, 3) := by decide +kernel
theorem wd_160 : Cond.methodLink RX5 35 yX8_clear ∈ BG := BG_in (by decide +kernel) rfl
theorem wd_161 : Cond.code yX8_clear cX8_clear 1 none ∈ BG := BG_in (by decide +kernel) rfl
theorem wd_162 : Cond.instanceMethod yX8_clear ∈ BG := BG_in (by decide +kernel) rfl
theorem wd_163 : Cond.selects RX8 yX8_clear yX8_clear ∈ BG := BG_in (by decide +kernel) rfl
theorem okV_X8_clear : okV yX8_clear cX8_clear 1 none 0 := ⟨⟨wd_161, wd_86, by decide +kernel⟩, wd_162, wd_163⟩
theorem dX5_read_39 : decode cX5_read 39 = .ok (.iconst 0, 1) := by decide +kernel
theorem dX5_read_40 : decode cX5_read 40 = .ok (.istore 4, 2) := by decide +kernel
theorem dX5_read_42 : decode cX5_read 42 = .ok (.iload 4, 2) := by decide +kernel
theorem dX5_read_44 : decode cX5_read 44 = .ok (.sipush 240, 3) := by decide +kernel
theorem dX5_read_47 : decode cX5_read 47 = .ok (.if_icmp .ge 29, 3) := by decide +kernel
theorem dX5_read_50 : decode cX5_read 50 = .ok (.aload_n 0, 1) := by decide +kernel
theorem dX5_read_51 : decode cX5_read 51 = .ok (.getfield 9, 3) := by decide +kernel
theorem dX5_read_54 : decode cX5_read 54 = .ok (.ifCond .ne 22, 3) := by decide +kernel
theorem dX5_read_57 : decode cX5_read 57 = .ok (.aload_n 0, 1) := by decide +kernel
theorem dX5_read_58 : decode cX5_read 58 = .ok (.invokevirtual 40, 3) := by decide +kernel
theorem wd_164 : Cond.methodLink RX5 40 yX5_next ∈ BG := BG_in (by decide +kernel) rfl
theorem wd_165 : Cond.code yX5_next cX5_next 2 (some .int) ∈ BG := BG_in (by decide +kernel) rfl
theorem wd_166 : Cond.instanceMethod yX5_next ∈ BG := BG_in (by decide +kernel) rfl
theorem wd_167 : Cond.selects RX5 yX5_next yX5_next ∈ BG := BG_in (by decide +kernel) rfl
theorem okV_X5_next : okV yX5_next cX5_next 2 (some .int) 0 := ⟨⟨wd_165, wd_80, by decide +kernel⟩, wd_166, wd_167⟩
theorem dX5_read_61 : decode cX5_read 61 = .ok (.iconst (-1), 1) := by decide +kernel
theorem dX5_read_62 : decode cX5_read 62 = .ok (.if_icmp .eq 14, 3) := by decide +kernel
theorem dX5_read_76 : decode cX5_read 76 = .ok (.return_, 1) := by decide +kernel
/-- is b one of n -/
def hasF (n b : Int32) : Int32 := if b < 0 ∨ n ≤ b then 0 else 1
theorem hasF_out {n b : Int32} (h : b < 0 ∨ n ≤ b) : 0 = hasF n b := (if_pos h).symm
theorem hasF_in {n b : Int32} (h1 : ¬ b < 0) (h2 : ¬ n ≤ b) : 1 = hasF n b := (if_neg (fun h => h.elim h1 h2)).symm
theorem hasF0 (b : Int32) : hasF 0 b = 0 := if_pos ((Int32.lt_or_le b 0))
theorem swc_0_13 {x : Int32} (h : ¬ (x.toInt < 0 ∨ 13 < x.toInt)) : x = 0 ∨ x = 1 ∨ x = 2 ∨ x = 3 ∨ x = 4 ∨ x = 5 ∨ x = 6 ∨ x = 7 ∨ x = 8 ∨ x = 9 ∨ x = 10 ∨ x = 11 ∨ x = 12 ∨ x = 13 := by
  have e : ∀ (k : Int32) (z : Int), k.toInt = z → x.toInt = z → x = k := fun k z h1 h2 => Int32.toInt_inj.mp (h2.trans h1.symm)
  have h3 : x.toInt = 0 ∨ x.toInt = 1 ∨ x.toInt = 2 ∨ x.toInt = 3 ∨ x.toInt = 4 ∨ x.toInt = 5 ∨ x.toInt = 6 ∨ x.toInt = 7 ∨ x.toInt = 8 ∨ x.toInt = 9 ∨ x.toInt = 10 ∨ x.toInt = 11 ∨ x.toInt = 12 ∨ x.toInt = 13 := by omega
  rcases h3 with h | h | h | h | h | h | h | h | h | h | h | h | h | h
  · exact Or.inl (e 0 _ rfl h)
  · exact Or.inr (Or.inl (e 1 _ rfl h))
  · exact Or.inr (Or.inr (Or.inl (e 2 _ rfl h)))
  · exact Or.inr (Or.inr (Or.inr (Or.inl (e 3 _ rfl h))))
  · exact Or.inr (Or.inr (Or.inr (Or.inr (Or.inl (e 4 _ rfl h)))))
  · exact Or.inr (Or.inr (Or.inr (Or.inr (Or.inr (Or.inl (e 5 _ rfl h))))))
  · exact Or.inr (Or.inr (Or.inr (Or.inr (Or.inr (Or.inr (Or.inl (e 6 _ rfl h)))))))
  · exact Or.inr (Or.inr (Or.inr (Or.inr (Or.inr (Or.inr (Or.inr (Or.inl (e 7 _ rfl h))))))))
  · exact Or.inr (Or.inr (Or.inr (Or.inr (Or.inr (Or.inr (Or.inr (Or.inr (Or.inl (e 8 _ rfl h)))))))))
  · exact Or.inr (Or.inr (Or.inr (Or.inr (Or.inr (Or.inr (Or.inr (Or.inr (Or.inr (Or.inl (e 9 _ rfl h))))))))))
  · exact Or.inr (Or.inr (Or.inr (Or.inr (Or.inr (Or.inr (Or.inr (Or.inr (Or.inr (Or.inr (Or.inl (e 10 _ rfl h)))))))))))
  · exact Or.inr (Or.inr (Or.inr (Or.inr (Or.inr (Or.inr (Or.inr (Or.inr (Or.inr (Or.inr (Or.inr (Or.inl (e 11 _ rfl h))))))))))))
  · exact Or.inr (Or.inr (Or.inr (Or.inr (Or.inr (Or.inr (Or.inr (Or.inr (Or.inr (Or.inr (Or.inr (Or.inr (Or.inl (e 12 _ rfl h)))))))))))))
  · exact Or.inr (Or.inr (Or.inr (Or.inr (Or.inr (Or.inr (Or.inr (Or.inr (Or.inr (Or.inr (Or.inr (Or.inr (Or.inr (e 13 _ rfl h)))))))))))))
def rm_k_hasBridge : Room := { frames := 0, cells := 0, slots := 0, locals := 0 }
set_option maxHeartbeats 4000000 in
set_option maxRecDepth 100000 in
theorem k_hasBridge {l : Launch} {D : va_G} {cI cZ : ClassId} {sz : Nat} (t : Nat) (t0 t1 t2 t3 t4 : Int32) (ta tb tc td te : Nat) (b : Int32) : KI l yX8_hasBridge cX8_hasBridge 2 (some .boolean) rm_k_hasBridge D cI cZ [.ref t, .int b] sz [(t, .inr (8, [.int t0, .int t1, .int t2, .int t3, .int t4, .ref ta, .ref tb, .ref tc, .ref td, .ref te]))] (fun (r : Int32) (_ : Unit) => r = hasF t0 b) (fun (_ : Unit) => [(t, .inr (8, [.int t0, .int t1, .int t2, .int t3, .int t4, .ref ta, .ref tb, .ref tc, .ref td, .ref te]))]) := by
  refine KI.go rfl (Nat.le_of_ble_eq_true rfl) ?_
  intro p e s m args below meth c ls A Q hx hb hml hts hown hin hP hK hD hS hA hN hl hret
  have hl : lv_has ls 2 [(0, .ref t), (1, .int b)] := hl
  refine lv_iload_n hx hb dX8_hasBridge_0 rfl (lv_at hl 1 rfl) ?_
  refine lv_if_lt (tgt := 16) hx hb dX8_hasBridge_1 (by decide) (fun c_1 => ?_) (fun c_1 => ?_)
  · refine lv_iconst (v := 0) hx hb dX8_hasBridge_16 (by decide) ?_
    exact hret 0 () _ _ _ _ dX8_hasBridge_17 rfl (hasF_out (Or.inl c_1)) hP hD hS
  · refine lv_iload_n hx hb dX8_hasBridge_4 rfl (lv_at hl 1 rfl) ?_
    refine lv_aload_n hx hb dX8_hasBridge_5 rfl (lv_at hl 0 rfl) ?_
    refine va_get (D := D) (ci := 8) (v := .int t0) (C := RX8) (T := TX8) (N := 10) hx hb hts iX8 hown hK hP 0 rfl rfl 0 (by decide) (hts _ wd_3) (fun _ h9 => h9) rfl dX8_hasBridge_6 ?_
    refine lv_icmp_ge (tgt := 16) hx hb dX8_hasBridge_9 (by decide) (fun c_2 => ?_) (fun c_2 => ?_)
    · refine lv_iconst (v := 0) hx hb dX8_hasBridge_16 (by decide) ?_
      exact hret 0 () _ _ _ _ dX8_hasBridge_17 rfl (hasF_out (Or.inr c_2)) hP hD hS
    · refine lv_iconst (v := 1) hx hb dX8_hasBridge_12 (by decide) ?_
      refine lv_goto (tgt := 17) hx hb dX8_hasBridge_13 (by decide) ?_
      exact hret 1 () _ _ _ _ dX8_hasBridge_17 rfl (hasF_in c_1 c_2) hP hD hS
def rm_k_hasTheme : Room := { frames := 0, cells := 0, slots := 0, locals := 0 }
set_option maxHeartbeats 4000000 in
set_option maxRecDepth 100000 in
theorem k_hasTheme {l : Launch} {D : va_G} {cI cZ : ClassId} {sz : Nat} (t : Nat) (t0 t1 t2 t3 t4 : Int32) (ta tb tc td te : Nat) (b : Int32) : KI l yX8_hasTheme cX8_hasTheme 2 (some .boolean) rm_k_hasTheme D cI cZ [.ref t, .int b] sz [(t, .inr (8, [.int t0, .int t1, .int t2, .int t3, .int t4, .ref ta, .ref tb, .ref tc, .ref td, .ref te]))] (fun (r : Int32) (_ : Unit) => r = hasF t1 b) (fun (_ : Unit) => [(t, .inr (8, [.int t0, .int t1, .int t2, .int t3, .int t4, .ref ta, .ref tb, .ref tc, .ref td, .ref te]))]) := by
  refine KI.go rfl (Nat.le_of_ble_eq_true rfl) ?_
  intro p e s m args below meth c ls A Q hx hb hml hts hown hin hP hK hD hS hA hN hl hret
  have hl : lv_has ls 2 [(0, .ref t), (1, .int b)] := hl
  refine lv_iload_n hx hb dX8_hasTheme_0 rfl (lv_at hl 1 rfl) ?_
  refine lv_if_lt (tgt := 16) hx hb dX8_hasTheme_1 (by decide) (fun c_1 => ?_) (fun c_1 => ?_)
  · refine lv_iconst (v := 0) hx hb dX8_hasTheme_16 (by decide) ?_
    exact hret 0 () _ _ _ _ dX8_hasTheme_17 rfl (hasF_out (Or.inl c_1)) hP hD hS
  · refine lv_iload_n hx hb dX8_hasTheme_4 rfl (lv_at hl 1 rfl) ?_
    refine lv_aload_n hx hb dX8_hasTheme_5 rfl (lv_at hl 0 rfl) ?_
    refine va_get (D := D) (ci := 8) (v := .int t1) (C := RX8) (T := TX8) (N := 10) hx hb hts iX8 hown hK hP 0 rfl rfl 1 (by decide) (hts _ wd_4) (fun _ h9 => h9) rfl dX8_hasTheme_6 ?_
    refine lv_icmp_ge (tgt := 16) hx hb dX8_hasTheme_9 (by decide) (fun c_2 => ?_) (fun c_2 => ?_)
    · refine lv_iconst (v := 0) hx hb dX8_hasTheme_16 (by decide) ?_
      exact hret 0 () _ _ _ _ dX8_hasTheme_17 rfl (hasF_out (Or.inr c_2)) hP hD hS
    · refine lv_iconst (v := 1) hx hb dX8_hasTheme_12 (by decide) ?_
      refine lv_goto (tgt := 17) hx hb dX8_hasTheme_13 (by decide) ?_
      exact hret 1 () _ _ _ _ dX8_hasTheme_17 rfl (hasF_in c_1 c_2) hP hD hS
def rm_k_hasCouple : Room := { frames := 0, cells := 0, slots := 0, locals := 0 }
set_option maxHeartbeats 4000000 in
set_option maxRecDepth 100000 in
theorem k_hasCouple {l : Launch} {D : va_G} {cI cZ : ClassId} {sz : Nat} (t : Nat) (t0 t1 t2 t3 t4 : Int32) (ta tb tc td te : Nat) (b : Int32) : KI l yX8_hasCouple cX8_hasCouple 2 (some .boolean) rm_k_hasCouple D cI cZ [.ref t, .int b] sz [(t, .inr (8, [.int t0, .int t1, .int t2, .int t3, .int t4, .ref ta, .ref tb, .ref tc, .ref td, .ref te]))] (fun (r : Int32) (_ : Unit) => r = hasF t2 b) (fun (_ : Unit) => [(t, .inr (8, [.int t0, .int t1, .int t2, .int t3, .int t4, .ref ta, .ref tb, .ref tc, .ref td, .ref te]))]) := by
  refine KI.go rfl (Nat.le_of_ble_eq_true rfl) ?_
  intro p e s m args below meth c ls A Q hx hb hml hts hown hin hP hK hD hS hA hN hl hret
  have hl : lv_has ls 2 [(0, .ref t), (1, .int b)] := hl
  refine lv_iload_n hx hb dX8_hasCouple_0 rfl (lv_at hl 1 rfl) ?_
  refine lv_if_lt (tgt := 16) hx hb dX8_hasCouple_1 (by decide) (fun c_1 => ?_) (fun c_1 => ?_)
  · refine lv_iconst (v := 0) hx hb dX8_hasCouple_16 (by decide) ?_
    exact hret 0 () _ _ _ _ dX8_hasCouple_17 rfl (hasF_out (Or.inl c_1)) hP hD hS
  · refine lv_iload_n hx hb dX8_hasCouple_4 rfl (lv_at hl 1 rfl) ?_
    refine lv_aload_n hx hb dX8_hasCouple_5 rfl (lv_at hl 0 rfl) ?_
    refine va_get (D := D) (ci := 8) (v := .int t2) (C := RX8) (T := TX8) (N := 10) hx hb hts iX8 hown hK hP 0 rfl rfl 2 (by decide) (hts _ wd_5) (fun _ h9 => h9) rfl dX8_hasCouple_6 ?_
    refine lv_icmp_ge (tgt := 16) hx hb dX8_hasCouple_9 (by decide) (fun c_2 => ?_) (fun c_2 => ?_)
    · refine lv_iconst (v := 0) hx hb dX8_hasCouple_16 (by decide) ?_
      exact hret 0 () _ _ _ _ dX8_hasCouple_17 rfl (hasF_out (Or.inr c_2)) hP hD hS
    · refine lv_iconst (v := 1) hx hb dX8_hasCouple_12 (by decide) ?_
      refine lv_goto (tgt := 17) hx hb dX8_hasCouple_13 (by decide) ?_
      exact hret 1 () _ _ _ _ dX8_hasCouple_17 rfl (hasF_in c_1 c_2) hP hD hS
def rm_k_hasBarge : Room := { frames := 0, cells := 0, slots := 0, locals := 0 }
set_option maxHeartbeats 4000000 in
set_option maxRecDepth 100000 in
theorem k_hasBarge {l : Launch} {D : va_G} {cI cZ : ClassId} {sz : Nat} (t : Nat) (t0 t1 t2 t3 t4 : Int32) (ta tb tc td te : Nat) (b : Int32) : KI l yX8_hasBarge cX8_hasBarge 2 (some .boolean) rm_k_hasBarge D cI cZ [.ref t, .int b] sz [(t, .inr (8, [.int t0, .int t1, .int t2, .int t3, .int t4, .ref ta, .ref tb, .ref tc, .ref td, .ref te]))] (fun (r : Int32) (_ : Unit) => r = hasF t3 b) (fun (_ : Unit) => [(t, .inr (8, [.int t0, .int t1, .int t2, .int t3, .int t4, .ref ta, .ref tb, .ref tc, .ref td, .ref te]))]) := by
  refine KI.go rfl (Nat.le_of_ble_eq_true rfl) ?_
  intro p e s m args below meth c ls A Q hx hb hml hts hown hin hP hK hD hS hA hN hl hret
  have hl : lv_has ls 2 [(0, .ref t), (1, .int b)] := hl
  refine lv_iload_n hx hb dX8_hasBarge_0 rfl (lv_at hl 1 rfl) ?_
  refine lv_if_lt (tgt := 16) hx hb dX8_hasBarge_1 (by decide) (fun c_1 => ?_) (fun c_1 => ?_)
  · refine lv_iconst (v := 0) hx hb dX8_hasBarge_16 (by decide) ?_
    exact hret 0 () _ _ _ _ dX8_hasBarge_17 rfl (hasF_out (Or.inl c_1)) hP hD hS
  · refine lv_iload_n hx hb dX8_hasBarge_4 rfl (lv_at hl 1 rfl) ?_
    refine lv_aload_n hx hb dX8_hasBarge_5 rfl (lv_at hl 0 rfl) ?_
    refine va_get (D := D) (ci := 8) (v := .int t3) (C := RX8) (T := TX8) (N := 10) hx hb hts iX8 hown hK hP 0 rfl rfl 3 (by decide) (hts _ wd_6) (fun _ h9 => h9) rfl dX8_hasBarge_6 ?_
    refine lv_icmp_ge (tgt := 16) hx hb dX8_hasBarge_9 (by decide) (fun c_2 => ?_) (fun c_2 => ?_)
    · refine lv_iconst (v := 0) hx hb dX8_hasBarge_16 (by decide) ?_
      exact hret 0 () _ _ _ _ dX8_hasBarge_17 rfl (hasF_out (Or.inr c_2)) hP hD hS
    · refine lv_iconst (v := 1) hx hb dX8_hasBarge_12 (by decide) ?_
      refine lv_goto (tgt := 17) hx hb dX8_hasBarge_13 (by decide) ?_
      exact hret 1 () _ _ _ _ dX8_hasBarge_17 rfl (hasF_in c_1 c_2) hP hD hS
def rm_k_minutes : Room := { frames := 1, cells := 0, slots := 0, locals := 21 }
set_option maxHeartbeats 4000000 in
set_option maxRecDepth 100000 in
theorem k_minutes {l : Launch} {D : va_G} {cI cZ : ClassId} {sz : Nat} (h a : Nat) (f : Nat → Int32) : KI l yX7_minutes cX7_minutes 1 (some .int) rm_k_minutes D cI cZ [.ref h] sz [(h, .inr (7, [.ref a])), (a, .inl (cI, 41, .inl f))] (fun (r : Int32) (_ : Unit) => r = atF 41 f 0) (fun (_ : Unit) => [(h, .inr (7, [.ref a])), (a, .inl (cI, 41, .inl f))]) := by
  refine KI.go rfl (Nat.le_of_ble_eq_true rfl) ?_
  intro p e s m args below meth c ls A Q hx hb hml hts hown hin hP hK hD hS hA hN hl hret
  have hl : lv_has ls 1 [(0, .ref h)] := hl
  refine lv_aload_n hx hb dX7_minutes_0 rfl (lv_at hl 0 rfl) ?_
  refine va_get (D := D) (ci := 7) (v := .ref a) (C := RX7) (T := TX7) (N := 1) hx hb hts iX7 hown hK hP 0 rfl rfl 0 (by decide) (hts _ wd_15) (fun _ h9 => h9) rfl dX7_minutes_1 ?_
  refine lv_iconst (v := 0) hx hb dX7_minutes_4 (by decide) ?_
  refine cNi (wr := [(h, .inr (7, [.ref a]))]) (rest := []) (k_at a 41 f 0 (by decide)) okS_X9_at 16 rfl hx hb hml hown hts hK hP hD hS hA hN hl.1 [1] [0] rfl rfl rfl rfl (by decide) rfl (Nat.le_of_ble_eq_true rfl) (Nat.le_of_ble_eq_true rfl) (Nat.le_of_ble_eq_true rfl) (Nat.le_of_ble_eq_true rfl) (Nat.le_of_ble_eq_true rfl) dX7_minutes_5 (fun r_2 u_1 H locs hw_u_1 hP hD hS => ?_)
  obtain rfl := hw_u_1
  have hP : va_P D classes [(h, .inr (7, [.ref a])), (a, .inl (cI, 41, .inl f))] H := hP
  have hD : va_D A [(h, .inr (7, [.ref a])), (a, .inl (cI, 41, .inl f))] := hD
  exact hret (atF 41 f 0) () _ _ _ _ dX7_minutes_8 rfl rfl (cutP (isC := [0, 1]) hP rfl) (cutD (isC := [0, 1]) hD rfl rfl) hS
def rm_k_reconciledSet : Room := { frames := 1, cells := 0, slots := 0, locals := 21 }
set_option maxHeartbeats 4000000 in
set_option maxRecDepth 100000 in
theorem k_reconciledSet {l : Launch} {D : va_G} {cI cZ : ClassId} {sz : Nat} (h a : Nat) (f : Nat → Int32) : KI l yX7_reconciledSet cX7_reconciledSet 1 (some .int) rm_k_reconciledSet D cI cZ [.ref h] sz [(h, .inr (7, [.ref a])), (a, .inl (cI, 41, .inl f))] (fun (r : Int32) (_ : Unit) => r = atF 41 f 1) (fun (_ : Unit) => [(h, .inr (7, [.ref a])), (a, .inl (cI, 41, .inl f))]) := by
  refine KI.go rfl (Nat.le_of_ble_eq_true rfl) ?_
  intro p e s m args below meth c ls A Q hx hb hml hts hown hin hP hK hD hS hA hN hl hret
  have hl : lv_has ls 1 [(0, .ref h)] := hl
  refine lv_aload_n hx hb dX7_reconciledSet_0 rfl (lv_at hl 0 rfl) ?_
  refine va_get (D := D) (ci := 7) (v := .ref a) (C := RX7) (T := TX7) (N := 1) hx hb hts iX7 hown hK hP 0 rfl rfl 0 (by decide) (hts _ wd_15) (fun _ h9 => h9) rfl dX7_reconciledSet_1 ?_
  refine lv_iconst (v := 1) hx hb dX7_reconciledSet_4 (by decide) ?_
  refine cNi (wr := [(h, .inr (7, [.ref a]))]) (rest := []) (k_at a 41 f 1 (by decide)) okS_X9_at 16 rfl hx hb hml hown hts hK hP hD hS hA hN hl.1 [1] [0] rfl rfl rfl rfl (by decide) rfl (Nat.le_of_ble_eq_true rfl) (Nat.le_of_ble_eq_true rfl) (Nat.le_of_ble_eq_true rfl) (Nat.le_of_ble_eq_true rfl) (Nat.le_of_ble_eq_true rfl) dX7_reconciledSet_5 (fun r_2 u_1 H locs hw_u_1 hP hD hS => ?_)
  obtain rfl := hw_u_1
  have hP : va_P D classes [(h, .inr (7, [.ref a])), (a, .inl (cI, 41, .inl f))] H := hP
  have hD : va_D A [(h, .inr (7, [.ref a])), (a, .inl (cI, 41, .inl f))] := hD
  exact hret (atF 41 f 1) () _ _ _ _ dX7_reconciledSet_8 rfl rfl (cutP (isC := [0, 1]) hP rfl) (cutD (isC := [0, 1]) hD rfl rfl) hS
def rm_k_grievanceOf : Room := { frames := 1, cells := 0, slots := 0, locals := 21 }
set_option maxHeartbeats 4000000 in
set_option maxRecDepth 100000 in
theorem k_grievanceOf {l : Launch} {D : va_G} {cI cZ : ClassId} {sz : Nat} (h a : Nat) (f : Nat → Int32) (v : Int32) : KI l yX7_grievanceOf cX7_grievanceOf 2 (some .int) rm_k_grievanceOf D cI cZ [.ref h, .int v] sz [(h, .inr (7, [.ref a])), (a, .inl (cI, 41, .inl f))] (fun (r : Int32) (_ : Unit) => r = atF 41 f (2 + v)) (fun (_ : Unit) => [(h, .inr (7, [.ref a])), (a, .inl (cI, 41, .inl f))]) := by
  refine KI.go rfl (Nat.le_of_ble_eq_true rfl) ?_
  intro p e s m args below meth c ls A Q hx hb hml hts hown hin hP hK hD hS hA hN hl hret
  have hl : lv_has ls 2 [(0, .ref h), (1, .int v)] := hl
  refine lv_aload_n hx hb dX7_grievanceOf_0 rfl (lv_at hl 0 rfl) ?_
  refine va_get (D := D) (ci := 7) (v := .ref a) (C := RX7) (T := TX7) (N := 1) hx hb hts iX7 hown hK hP 0 rfl rfl 0 (by decide) (hts _ wd_15) (fun _ h9 => h9) rfl dX7_grievanceOf_1 ?_
  refine lv_iconst (v := 2) hx hb dX7_grievanceOf_4 (by decide) ?_
  refine lv_iload_n hx hb dX7_grievanceOf_5 rfl (lv_at hl 1 rfl) ?_
  refine lv_iadd hx hb dX7_grievanceOf_6 ?_
  refine cNi (wr := [(h, .inr (7, [.ref a]))]) (rest := []) (k_at a 41 f (2 + v) (by decide)) okS_X9_at 16 rfl hx hb hml hown hts hK hP hD hS hA hN hl.1 [1] [0] rfl rfl rfl rfl (by decide) rfl (Nat.le_of_ble_eq_true rfl) (Nat.le_of_ble_eq_true rfl) (Nat.le_of_ble_eq_true rfl) (Nat.le_of_ble_eq_true rfl) (Nat.le_of_ble_eq_true rfl) dX7_grievanceOf_7 (fun r_2 u_1 H locs hw_u_1 hP hD hS => ?_)
  obtain rfl := hw_u_1
  have hP : va_P D classes [(h, .inr (7, [.ref a])), (a, .inl (cI, 41, .inl f))] H := hP
  have hD : va_D A [(h, .inr (7, [.ref a])), (a, .inl (cI, 41, .inl f))] := hD
  exact hret (atF 41 f (2 + v)) () _ _ _ _ dX7_grievanceOf_10 rfl rfl (cutP (isC := [0, 1]) hP rfl) (cutD (isC := [0, 1]) hD rfl rfl) hS
def rm_k_bridgeOf : Room := { frames := 1, cells := 0, slots := 0, locals := 21 }
set_option maxHeartbeats 4000000 in
set_option maxRecDepth 100000 in
theorem k_bridgeOf {l : Launch} {D : va_G} {cI cZ : ClassId} {sz : Nat} (h a : Nat) (f : Nat → Int32) (v : Int32) : KI l yX7_bridgeOf cX7_bridgeOf 2 (some .int) rm_k_bridgeOf D cI cZ [.ref h, .int v] sz [(h, .inr (7, [.ref a])), (a, .inl (cI, 41, .inl f))] (fun (r : Int32) (_ : Unit) => r = atF 41 f (8 + v)) (fun (_ : Unit) => [(h, .inr (7, [.ref a])), (a, .inl (cI, 41, .inl f))]) := by
  refine KI.go rfl (Nat.le_of_ble_eq_true rfl) ?_
  intro p e s m args below meth c ls A Q hx hb hml hts hown hin hP hK hD hS hA hN hl hret
  have hl : lv_has ls 2 [(0, .ref h), (1, .int v)] := hl
  refine lv_aload_n hx hb dX7_bridgeOf_0 rfl (lv_at hl 0 rfl) ?_
  refine va_get (D := D) (ci := 7) (v := .ref a) (C := RX7) (T := TX7) (N := 1) hx hb hts iX7 hown hK hP 0 rfl rfl 0 (by decide) (hts _ wd_15) (fun _ h9 => h9) rfl dX7_bridgeOf_1 ?_
  refine lv_bipush (v := 8) hx hb dX7_bridgeOf_4 (by decide) ?_
  refine lv_iload_n hx hb dX7_bridgeOf_6 rfl (lv_at hl 1 rfl) ?_
  refine lv_iadd hx hb dX7_bridgeOf_7 ?_
  refine cNi (wr := [(h, .inr (7, [.ref a]))]) (rest := []) (k_at a 41 f (8 + v) (by decide)) okS_X9_at 16 rfl hx hb hml hown hts hK hP hD hS hA hN hl.1 [1] [0] rfl rfl rfl rfl (by decide) rfl (Nat.le_of_ble_eq_true rfl) (Nat.le_of_ble_eq_true rfl) (Nat.le_of_ble_eq_true rfl) (Nat.le_of_ble_eq_true rfl) (Nat.le_of_ble_eq_true rfl) dX7_bridgeOf_8 (fun r_2 u_1 H locs hw_u_1 hP hD hS => ?_)
  obtain rfl := hw_u_1
  have hP : va_P D classes [(h, .inr (7, [.ref a])), (a, .inl (cI, 41, .inl f))] H := hP
  have hD : va_D A [(h, .inr (7, [.ref a])), (a, .inl (cI, 41, .inl f))] := hD
  exact hret (atF 41 f (8 + v)) () _ _ _ _ dX7_bridgeOf_11 rfl rfl (cutP (isC := [0, 1]) hP rfl) (cutD (isC := [0, 1]) hD rfl rfl) hS
def rm_k_themeOf : Room := { frames := 1, cells := 0, slots := 0, locals := 21 }
set_option maxHeartbeats 4000000 in
set_option maxRecDepth 100000 in
theorem k_themeOf {l : Launch} {D : va_G} {cI cZ : ClassId} {sz : Nat} (h a : Nat) (f : Nat → Int32) (v : Int32) : KI l yX7_themeOf cX7_themeOf 2 (some .int) rm_k_themeOf D cI cZ [.ref h, .int v] sz [(h, .inr (7, [.ref a])), (a, .inl (cI, 41, .inl f))] (fun (r : Int32) (_ : Unit) => r = atF 41 f (14 + v)) (fun (_ : Unit) => [(h, .inr (7, [.ref a])), (a, .inl (cI, 41, .inl f))]) := by
  refine KI.go rfl (Nat.le_of_ble_eq_true rfl) ?_
  intro p e s m args below meth c ls A Q hx hb hml hts hown hin hP hK hD hS hA hN hl hret
  have hl : lv_has ls 2 [(0, .ref h), (1, .int v)] := hl
  refine lv_aload_n hx hb dX7_themeOf_0 rfl (lv_at hl 0 rfl) ?_
  refine va_get (D := D) (ci := 7) (v := .ref a) (C := RX7) (T := TX7) (N := 1) hx hb hts iX7 hown hK hP 0 rfl rfl 0 (by decide) (hts _ wd_15) (fun _ h9 => h9) rfl dX7_themeOf_1 ?_
  refine lv_bipush (v := 14) hx hb dX7_themeOf_4 (by decide) ?_
  refine lv_iload_n hx hb dX7_themeOf_6 rfl (lv_at hl 1 rfl) ?_
  refine lv_iadd hx hb dX7_themeOf_7 ?_
  refine cNi (wr := [(h, .inr (7, [.ref a]))]) (rest := []) (k_at a 41 f (14 + v) (by decide)) okS_X9_at 16 rfl hx hb hml hown hts hK hP hD hS hA hN hl.1 [1] [0] rfl rfl rfl rfl (by decide) rfl (Nat.le_of_ble_eq_true rfl) (Nat.le_of_ble_eq_true rfl) (Nat.le_of_ble_eq_true rfl) (Nat.le_of_ble_eq_true rfl) (Nat.le_of_ble_eq_true rfl) dX7_themeOf_8 (fun r_2 u_1 H locs hw_u_1 hP hD hS => ?_)
  obtain rfl := hw_u_1
  have hP : va_P D classes [(h, .inr (7, [.ref a])), (a, .inl (cI, 41, .inl f))] H := hP
  have hD : va_D A [(h, .inr (7, [.ref a])), (a, .inl (cI, 41, .inl f))] := hD
  exact hret (atF 41 f (14 + v)) () _ _ _ _ dX7_themeOf_11 rfl rfl (cutP (isC := [0, 1]) hP rfl) (cutD (isC := [0, 1]) hD rfl rfl) hS
def rm_k_fateOf : Room := { frames := 1, cells := 0, slots := 0, locals := 21 }
set_option maxHeartbeats 4000000 in
set_option maxRecDepth 100000 in
theorem k_fateOf {l : Launch} {D : va_G} {cI cZ : ClassId} {sz : Nat} (h a : Nat) (f : Nat → Int32) (v : Int32) : KI l yX7_fateOf cX7_fateOf 2 (some .int) rm_k_fateOf D cI cZ [.ref h, .int v] sz [(h, .inr (7, [.ref a])), (a, .inl (cI, 41, .inl f))] (fun (r : Int32) (_ : Unit) => r = atF 41 f (20 + v)) (fun (_ : Unit) => [(h, .inr (7, [.ref a])), (a, .inl (cI, 41, .inl f))]) := by
  refine KI.go rfl (Nat.le_of_ble_eq_true rfl) ?_
  intro p e s m args below meth c ls A Q hx hb hml hts hown hin hP hK hD hS hA hN hl hret
  have hl : lv_has ls 2 [(0, .ref h), (1, .int v)] := hl
  refine lv_aload_n hx hb dX7_fateOf_0 rfl (lv_at hl 0 rfl) ?_
  refine va_get (D := D) (ci := 7) (v := .ref a) (C := RX7) (T := TX7) (N := 1) hx hb hts iX7 hown hK hP 0 rfl rfl 0 (by decide) (hts _ wd_15) (fun _ h9 => h9) rfl dX7_fateOf_1 ?_
  refine lv_bipush (v := 20) hx hb dX7_fateOf_4 (by decide) ?_
  refine lv_iload_n hx hb dX7_fateOf_6 rfl (lv_at hl 1 rfl) ?_
  refine lv_iadd hx hb dX7_fateOf_7 ?_
  refine cNi (wr := [(h, .inr (7, [.ref a]))]) (rest := []) (k_at a 41 f (20 + v) (by decide)) okS_X9_at 16 rfl hx hb hml hown hts hK hP hD hS hA hN hl.1 [1] [0] rfl rfl rfl rfl (by decide) rfl (Nat.le_of_ble_eq_true rfl) (Nat.le_of_ble_eq_true rfl) (Nat.le_of_ble_eq_true rfl) (Nat.le_of_ble_eq_true rfl) (Nat.le_of_ble_eq_true rfl) dX7_fateOf_8 (fun r_2 u_1 H locs hw_u_1 hP hD hS => ?_)
  obtain rfl := hw_u_1
  have hP : va_P D classes [(h, .inr (7, [.ref a])), (a, .inl (cI, 41, .inl f))] H := hP
  have hD : va_D A [(h, .inr (7, [.ref a])), (a, .inl (cI, 41, .inl f))] := hD
  exact hret (atF 41 f (20 + v)) () _ _ _ _ dX7_fateOf_11 rfl rfl (cutP (isC := [0, 1]) hP rfl) (cutD (isC := [0, 1]) hD rfl rfl) hS
def rm_k_bargesOfFate0 : Room := { frames := 2, cells := 0, slots := 0, locals := 42 }
set_option maxHeartbeats 4000000 in
set_option maxRecDepth 100000 in
theorem k_bargesOfFate0 {l : Launch} {D : va_G} {cI cZ : ClassId} {sz : Nat} (h a : Nat) : KI l yX7_bargesOfFate cX7_bargesOfFate 4 (some .int) rm_k_bargesOfFate0 D cI cZ [.ref h, .int 0] sz [(h, .inr (7, [.ref a])), (a, .inl (cI, 41, .inl (cB2 z0 7)))] (fun (r : Int32) (_ : Unit) => r = 127) (fun (_ : Unit) => [(h, .inr (7, [.ref a])), (a, .inl (cI, 41, .inl (cB2 z0 7)))]) := by
  refine KI.go rfl (Nat.le_of_ble_eq_true rfl) ?_
  intro p e s m args below meth c ls A Q hx hb hml hts hown hin hP hK hD hS hA hN hl hret
  have hl : lv_has ls 4 [(0, .ref h), (1, .int 0)] := hl
  refine lv_iconst (v := 0) hx hb dX7_bargesOfFate_0 (by decide) ?_
  refine lv_istore_n (lv' := [(2, .int 0), (0, .ref h), (1, .int 0)]) hx hb dX7_bargesOfFate_1 rfl hl (by decide) rfl (fun ls hl => ?_)
  refine lv_iconst (v := 0) hx hb dX7_bargesOfFate_2 (by decide) ?_
  refine lv_istore_n (lv' := [(3, .int 0), (2, .int 0), (0, .ref h), (1, .int 0)]) hx hb dX7_bargesOfFate_3 rfl hl (by decide) rfl (fun ls hl => ?_)
  refine lv_iload_n hx hb dX7_bargesOfFate_4 rfl (lv_at hl 0 rfl) ?_
  refine lv_bipush (v := 7) hx hb dX7_bargesOfFate_5 (by decide) ?_
  refine lv_icmp_ge (tgt := 35) hx hb dX7_bargesOfFate_7 (by decide) (fun c_1 => absurd c_1 (by decide +kernel)) (fun c_1 => ?_)
  refine lv_iload_n hx hb dX7_bargesOfFate_10 rfl (lv_at hl 1 rfl) ?_
  refine lv_aload_n hx hb dX7_bargesOfFate_11 rfl (lv_at hl 2 rfl) ?_
  refine lv_iload_n hx hb dX7_bargesOfFate_12 rfl (lv_at hl 0 rfl) ?_
  refine cVi (wr := []) (rest := [.int 0]) (k_fateOf h a (cB2 z0 7) 0) okV_X7_fateOf wd_140 hx hb hml hown hts hK hP hD hS hA hN hl.1 [0, 1] [] rfl rfl rfl rfl (by decide) rfl rfl rfl (Nat.le_of_ble_eq_true rfl) (Nat.le_of_ble_eq_true rfl) (Nat.le_of_ble_eq_true rfl) (Nat.le_of_ble_eq_true rfl) (Nat.le_of_ble_eq_true rfl) dX7_bargesOfFate_13 (fun r_3 u_2 H locs hw_u_2 hP hD hS => ?_)
  obtain rfl := hw_u_2
  have hP : va_P D classes [(h, .inr (7, [.ref a])), (a, .inl (cI, 41, .inl (cB2 z0 7)))] H := hP
  have hD : va_D A [(h, .inr (7, [.ref a])), (a, .inl (cI, 41, .inl (cB2 z0 7)))] := hD
  refine lv_topi (fun z_4 ez_4 => ?_)
  obtain rfl : z_4 = 0 := ez_4.trans (by decide +kernel)
  refine lv_iload_n hx hb dX7_bargesOfFate_16 rfl (lv_at hl 3 rfl) ?_
  refine lv_icmp_ne (tgt := 26) hx hb dX7_bargesOfFate_17 (by decide) (fun c_5 => absurd (by decide +kernel) c_5) (fun c_5 => ?_)
  refine lv_iconst (v := 1) hx hb dX7_bargesOfFate_20 (by decide) ?_
  refine lv_iload_n hx hb dX7_bargesOfFate_21 rfl (lv_at hl 0 rfl) ?_
  refine lv_ishl hx hb dX7_bargesOfFate_22 ?_
  refine lv_topi (fun z_6 ez_6 => ?_)
  obtain rfl : z_6 = 1 := ez_6.trans (by decide +kernel)
  refine lv_goto (tgt := 27) hx hb dX7_bargesOfFate_23 (by decide) ?_
  refine lv_ior hx hb dX7_bargesOfFate_27 ?_
  refine lv_topi (fun z_7 ez_7 => ?_)
  obtain rfl : z_7 = 1 := ez_7.trans (by decide +kernel)
  refine lv_istore_n (lv' := [(2, .int 1), (3, .int 0), (0, .ref h), (1, .int 0)]) hx hb dX7_bargesOfFate_28 rfl hl (by decide) rfl (fun ls hl => ?_)
  refine lv_iinc (v := 1) (lv' := [(3, .int 1), (2, .int 1), (0, .ref h), (1, .int 0)]) hx hb dX7_bargesOfFate_29 hl (k := 1) rfl (by decide +kernel) (by decide) rfl (fun ls hl => ?_)
  refine lv_goto (tgt := 4) hx hb dX7_bargesOfFate_32 (by decide) ?_
  refine lv_iload_n hx hb dX7_bargesOfFate_4 rfl (lv_at hl 0 rfl) ?_
  refine lv_bipush (v := 7) hx hb dX7_bargesOfFate_5 (by decide) ?_
  refine lv_icmp_ge (tgt := 35) hx hb dX7_bargesOfFate_7 (by decide) (fun c_8 => absurd c_8 (by decide +kernel)) (fun c_8 => ?_)
  refine lv_iload_n hx hb dX7_bargesOfFate_10 rfl (lv_at hl 1 rfl) ?_
  refine lv_aload_n hx hb dX7_bargesOfFate_11 rfl (lv_at hl 2 rfl) ?_
  refine lv_iload_n hx hb dX7_bargesOfFate_12 rfl (lv_at hl 0 rfl) ?_
  refine cVi (wr := []) (rest := [.int 1]) (k_fateOf h a (cB2 z0 7) 1) okV_X7_fateOf wd_140 hx hb hml hown hts hK hP hD hS hA hN hl.1 [0, 1] [] rfl rfl rfl rfl (by decide) rfl rfl rfl (Nat.le_of_ble_eq_true rfl) (Nat.le_of_ble_eq_true rfl) (Nat.le_of_ble_eq_true rfl) (Nat.le_of_ble_eq_true rfl) (Nat.le_of_ble_eq_true rfl) dX7_bargesOfFate_13 (fun r_10 u_9 H locs hw_u_9 hP hD hS => ?_)
  obtain rfl := hw_u_9
  have hP : va_P D classes [(h, .inr (7, [.ref a])), (a, .inl (cI, 41, .inl (cB2 z0 7)))] H := hP
  have hD : va_D A [(h, .inr (7, [.ref a])), (a, .inl (cI, 41, .inl (cB2 z0 7)))] := hD
  refine lv_topi (fun z_11 ez_11 => ?_)
  obtain rfl : z_11 = 0 := ez_11.trans (by decide +kernel)
  refine lv_iload_n hx hb dX7_bargesOfFate_16 rfl (lv_at hl 3 rfl) ?_
  refine lv_icmp_ne (tgt := 26) hx hb dX7_bargesOfFate_17 (by decide) (fun c_12 => absurd (by decide +kernel) c_12) (fun c_12 => ?_)
  refine lv_iconst (v := 1) hx hb dX7_bargesOfFate_20 (by decide) ?_
  refine lv_iload_n hx hb dX7_bargesOfFate_21 rfl (lv_at hl 0 rfl) ?_
  refine lv_ishl hx hb dX7_bargesOfFate_22 ?_
  refine lv_topi (fun z_13 ez_13 => ?_)
  obtain rfl : z_13 = 2 := ez_13.trans (by decide +kernel)
  refine lv_goto (tgt := 27) hx hb dX7_bargesOfFate_23 (by decide) ?_
  refine lv_ior hx hb dX7_bargesOfFate_27 ?_
  refine lv_topi (fun z_14 ez_14 => ?_)
  obtain rfl : z_14 = 3 := ez_14.trans (by decide +kernel)
  refine lv_istore_n (lv' := [(2, .int 3), (3, .int 1), (0, .ref h), (1, .int 0)]) hx hb dX7_bargesOfFate_28 rfl hl (by decide) rfl (fun ls hl => ?_)
  refine lv_iinc (v := 2) (lv' := [(3, .int 2), (2, .int 3), (0, .ref h), (1, .int 0)]) hx hb dX7_bargesOfFate_29 hl (k := 1) rfl (by decide +kernel) (by decide) rfl (fun ls hl => ?_)
  refine lv_goto (tgt := 4) hx hb dX7_bargesOfFate_32 (by decide) ?_
  refine lv_iload_n hx hb dX7_bargesOfFate_4 rfl (lv_at hl 0 rfl) ?_
  refine lv_bipush (v := 7) hx hb dX7_bargesOfFate_5 (by decide) ?_
  refine lv_icmp_ge (tgt := 35) hx hb dX7_bargesOfFate_7 (by decide) (fun c_15 => absurd c_15 (by decide +kernel)) (fun c_15 => ?_)
  refine lv_iload_n hx hb dX7_bargesOfFate_10 rfl (lv_at hl 1 rfl) ?_
  refine lv_aload_n hx hb dX7_bargesOfFate_11 rfl (lv_at hl 2 rfl) ?_
  refine lv_iload_n hx hb dX7_bargesOfFate_12 rfl (lv_at hl 0 rfl) ?_
  refine cVi (wr := []) (rest := [.int 3]) (k_fateOf h a (cB2 z0 7) 2) okV_X7_fateOf wd_140 hx hb hml hown hts hK hP hD hS hA hN hl.1 [0, 1] [] rfl rfl rfl rfl (by decide) rfl rfl rfl (Nat.le_of_ble_eq_true rfl) (Nat.le_of_ble_eq_true rfl) (Nat.le_of_ble_eq_true rfl) (Nat.le_of_ble_eq_true rfl) (Nat.le_of_ble_eq_true rfl) dX7_bargesOfFate_13 (fun r_17 u_16 H locs hw_u_16 hP hD hS => ?_)
  obtain rfl := hw_u_16
  have hP : va_P D classes [(h, .inr (7, [.ref a])), (a, .inl (cI, 41, .inl (cB2 z0 7)))] H := hP
  have hD : va_D A [(h, .inr (7, [.ref a])), (a, .inl (cI, 41, .inl (cB2 z0 7)))] := hD
  refine lv_topi (fun z_18 ez_18 => ?_)
  obtain rfl : z_18 = 0 := ez_18.trans (by decide +kernel)
  refine lv_iload_n hx hb dX7_bargesOfFate_16 rfl (lv_at hl 3 rfl) ?_
  refine lv_icmp_ne (tgt := 26) hx hb dX7_bargesOfFate_17 (by decide) (fun c_19 => absurd (by decide +kernel) c_19) (fun c_19 => ?_)
  refine lv_iconst (v := 1) hx hb dX7_bargesOfFate_20 (by decide) ?_
  refine lv_iload_n hx hb dX7_bargesOfFate_21 rfl (lv_at hl 0 rfl) ?_
  refine lv_ishl hx hb dX7_bargesOfFate_22 ?_
  refine lv_topi (fun z_20 ez_20 => ?_)
  obtain rfl : z_20 = 4 := ez_20.trans (by decide +kernel)
  refine lv_goto (tgt := 27) hx hb dX7_bargesOfFate_23 (by decide) ?_
  refine lv_ior hx hb dX7_bargesOfFate_27 ?_
  refine lv_topi (fun z_21 ez_21 => ?_)
  obtain rfl : z_21 = 7 := ez_21.trans (by decide +kernel)
  refine lv_istore_n (lv' := [(2, .int 7), (3, .int 2), (0, .ref h), (1, .int 0)]) hx hb dX7_bargesOfFate_28 rfl hl (by decide) rfl (fun ls hl => ?_)
  refine lv_iinc (v := 3) (lv' := [(3, .int 3), (2, .int 7), (0, .ref h), (1, .int 0)]) hx hb dX7_bargesOfFate_29 hl (k := 1) rfl (by decide +kernel) (by decide) rfl (fun ls hl => ?_)
  refine lv_goto (tgt := 4) hx hb dX7_bargesOfFate_32 (by decide) ?_
  refine lv_iload_n hx hb dX7_bargesOfFate_4 rfl (lv_at hl 0 rfl) ?_
  refine lv_bipush (v := 7) hx hb dX7_bargesOfFate_5 (by decide) ?_
  refine lv_icmp_ge (tgt := 35) hx hb dX7_bargesOfFate_7 (by decide) (fun c_22 => absurd c_22 (by decide +kernel)) (fun c_22 => ?_)
  refine lv_iload_n hx hb dX7_bargesOfFate_10 rfl (lv_at hl 1 rfl) ?_
  refine lv_aload_n hx hb dX7_bargesOfFate_11 rfl (lv_at hl 2 rfl) ?_
  refine lv_iload_n hx hb dX7_bargesOfFate_12 rfl (lv_at hl 0 rfl) ?_
  refine cVi (wr := []) (rest := [.int 7]) (k_fateOf h a (cB2 z0 7) 3) okV_X7_fateOf wd_140 hx hb hml hown hts hK hP hD hS hA hN hl.1 [0, 1] [] rfl rfl rfl rfl (by decide) rfl rfl rfl (Nat.le_of_ble_eq_true rfl) (Nat.le_of_ble_eq_true rfl) (Nat.le_of_ble_eq_true rfl) (Nat.le_of_ble_eq_true rfl) (Nat.le_of_ble_eq_true rfl) dX7_bargesOfFate_13 (fun r_24 u_23 H locs hw_u_23 hP hD hS => ?_)
  obtain rfl := hw_u_23
  have hP : va_P D classes [(h, .inr (7, [.ref a])), (a, .inl (cI, 41, .inl (cB2 z0 7)))] H := hP
  have hD : va_D A [(h, .inr (7, [.ref a])), (a, .inl (cI, 41, .inl (cB2 z0 7)))] := hD
  refine lv_topi (fun z_25 ez_25 => ?_)
  obtain rfl : z_25 = 0 := ez_25.trans (by decide +kernel)
  refine lv_iload_n hx hb dX7_bargesOfFate_16 rfl (lv_at hl 3 rfl) ?_
  refine lv_icmp_ne (tgt := 26) hx hb dX7_bargesOfFate_17 (by decide) (fun c_26 => absurd (by decide +kernel) c_26) (fun c_26 => ?_)
  refine lv_iconst (v := 1) hx hb dX7_bargesOfFate_20 (by decide) ?_
  refine lv_iload_n hx hb dX7_bargesOfFate_21 rfl (lv_at hl 0 rfl) ?_
  refine lv_ishl hx hb dX7_bargesOfFate_22 ?_
  refine lv_topi (fun z_27 ez_27 => ?_)
  obtain rfl : z_27 = 8 := ez_27.trans (by decide +kernel)
  refine lv_goto (tgt := 27) hx hb dX7_bargesOfFate_23 (by decide) ?_
  refine lv_ior hx hb dX7_bargesOfFate_27 ?_
  refine lv_topi (fun z_28 ez_28 => ?_)
  obtain rfl : z_28 = 15 := ez_28.trans (by decide +kernel)
  refine lv_istore_n (lv' := [(2, .int 15), (3, .int 3), (0, .ref h), (1, .int 0)]) hx hb dX7_bargesOfFate_28 rfl hl (by decide) rfl (fun ls hl => ?_)
  refine lv_iinc (v := 4) (lv' := [(3, .int 4), (2, .int 15), (0, .ref h), (1, .int 0)]) hx hb dX7_bargesOfFate_29 hl (k := 1) rfl (by decide +kernel) (by decide) rfl (fun ls hl => ?_)
  refine lv_goto (tgt := 4) hx hb dX7_bargesOfFate_32 (by decide) ?_
  refine lv_iload_n hx hb dX7_bargesOfFate_4 rfl (lv_at hl 0 rfl) ?_
  refine lv_bipush (v := 7) hx hb dX7_bargesOfFate_5 (by decide) ?_
  refine lv_icmp_ge (tgt := 35) hx hb dX7_bargesOfFate_7 (by decide) (fun c_29 => absurd c_29 (by decide +kernel)) (fun c_29 => ?_)
  refine lv_iload_n hx hb dX7_bargesOfFate_10 rfl (lv_at hl 1 rfl) ?_
  refine lv_aload_n hx hb dX7_bargesOfFate_11 rfl (lv_at hl 2 rfl) ?_
  refine lv_iload_n hx hb dX7_bargesOfFate_12 rfl (lv_at hl 0 rfl) ?_
  refine cVi (wr := []) (rest := [.int 15]) (k_fateOf h a (cB2 z0 7) 4) okV_X7_fateOf wd_140 hx hb hml hown hts hK hP hD hS hA hN hl.1 [0, 1] [] rfl rfl rfl rfl (by decide) rfl rfl rfl (Nat.le_of_ble_eq_true rfl) (Nat.le_of_ble_eq_true rfl) (Nat.le_of_ble_eq_true rfl) (Nat.le_of_ble_eq_true rfl) (Nat.le_of_ble_eq_true rfl) dX7_bargesOfFate_13 (fun r_31 u_30 H locs hw_u_30 hP hD hS => ?_)
  obtain rfl := hw_u_30
  have hP : va_P D classes [(h, .inr (7, [.ref a])), (a, .inl (cI, 41, .inl (cB2 z0 7)))] H := hP
  have hD : va_D A [(h, .inr (7, [.ref a])), (a, .inl (cI, 41, .inl (cB2 z0 7)))] := hD
  refine lv_topi (fun z_32 ez_32 => ?_)
  obtain rfl : z_32 = 0 := ez_32.trans (by decide +kernel)
  refine lv_iload_n hx hb dX7_bargesOfFate_16 rfl (lv_at hl 3 rfl) ?_
  refine lv_icmp_ne (tgt := 26) hx hb dX7_bargesOfFate_17 (by decide) (fun c_33 => absurd (by decide +kernel) c_33) (fun c_33 => ?_)
  refine lv_iconst (v := 1) hx hb dX7_bargesOfFate_20 (by decide) ?_
  refine lv_iload_n hx hb dX7_bargesOfFate_21 rfl (lv_at hl 0 rfl) ?_
  refine lv_ishl hx hb dX7_bargesOfFate_22 ?_
  refine lv_topi (fun z_34 ez_34 => ?_)
  obtain rfl : z_34 = 16 := ez_34.trans (by decide +kernel)
  refine lv_goto (tgt := 27) hx hb dX7_bargesOfFate_23 (by decide) ?_
  refine lv_ior hx hb dX7_bargesOfFate_27 ?_
  refine lv_topi (fun z_35 ez_35 => ?_)
  obtain rfl : z_35 = 31 := ez_35.trans (by decide +kernel)
  refine lv_istore_n (lv' := [(2, .int 31), (3, .int 4), (0, .ref h), (1, .int 0)]) hx hb dX7_bargesOfFate_28 rfl hl (by decide) rfl (fun ls hl => ?_)
  refine lv_iinc (v := 5) (lv' := [(3, .int 5), (2, .int 31), (0, .ref h), (1, .int 0)]) hx hb dX7_bargesOfFate_29 hl (k := 1) rfl (by decide +kernel) (by decide) rfl (fun ls hl => ?_)
  refine lv_goto (tgt := 4) hx hb dX7_bargesOfFate_32 (by decide) ?_
  refine lv_iload_n hx hb dX7_bargesOfFate_4 rfl (lv_at hl 0 rfl) ?_
  refine lv_bipush (v := 7) hx hb dX7_bargesOfFate_5 (by decide) ?_
  refine lv_icmp_ge (tgt := 35) hx hb dX7_bargesOfFate_7 (by decide) (fun c_36 => absurd c_36 (by decide +kernel)) (fun c_36 => ?_)
  refine lv_iload_n hx hb dX7_bargesOfFate_10 rfl (lv_at hl 1 rfl) ?_
  refine lv_aload_n hx hb dX7_bargesOfFate_11 rfl (lv_at hl 2 rfl) ?_
  refine lv_iload_n hx hb dX7_bargesOfFate_12 rfl (lv_at hl 0 rfl) ?_
  refine cVi (wr := []) (rest := [.int 31]) (k_fateOf h a (cB2 z0 7) 5) okV_X7_fateOf wd_140 hx hb hml hown hts hK hP hD hS hA hN hl.1 [0, 1] [] rfl rfl rfl rfl (by decide) rfl rfl rfl (Nat.le_of_ble_eq_true rfl) (Nat.le_of_ble_eq_true rfl) (Nat.le_of_ble_eq_true rfl) (Nat.le_of_ble_eq_true rfl) (Nat.le_of_ble_eq_true rfl) dX7_bargesOfFate_13 (fun r_38 u_37 H locs hw_u_37 hP hD hS => ?_)
  obtain rfl := hw_u_37
  have hP : va_P D classes [(h, .inr (7, [.ref a])), (a, .inl (cI, 41, .inl (cB2 z0 7)))] H := hP
  have hD : va_D A [(h, .inr (7, [.ref a])), (a, .inl (cI, 41, .inl (cB2 z0 7)))] := hD
  refine lv_topi (fun z_39 ez_39 => ?_)
  obtain rfl : z_39 = 0 := ez_39.trans (by decide +kernel)
  refine lv_iload_n hx hb dX7_bargesOfFate_16 rfl (lv_at hl 3 rfl) ?_
  refine lv_icmp_ne (tgt := 26) hx hb dX7_bargesOfFate_17 (by decide) (fun c_40 => absurd (by decide +kernel) c_40) (fun c_40 => ?_)
  refine lv_iconst (v := 1) hx hb dX7_bargesOfFate_20 (by decide) ?_
  refine lv_iload_n hx hb dX7_bargesOfFate_21 rfl (lv_at hl 0 rfl) ?_
  refine lv_ishl hx hb dX7_bargesOfFate_22 ?_
  refine lv_topi (fun z_41 ez_41 => ?_)
  obtain rfl : z_41 = 32 := ez_41.trans (by decide +kernel)
  refine lv_goto (tgt := 27) hx hb dX7_bargesOfFate_23 (by decide) ?_
  refine lv_ior hx hb dX7_bargesOfFate_27 ?_
  refine lv_topi (fun z_42 ez_42 => ?_)
  obtain rfl : z_42 = 63 := ez_42.trans (by decide +kernel)
  refine lv_istore_n (lv' := [(2, .int 63), (3, .int 5), (0, .ref h), (1, .int 0)]) hx hb dX7_bargesOfFate_28 rfl hl (by decide) rfl (fun ls hl => ?_)
  refine lv_iinc (v := 6) (lv' := [(3, .int 6), (2, .int 63), (0, .ref h), (1, .int 0)]) hx hb dX7_bargesOfFate_29 hl (k := 1) rfl (by decide +kernel) (by decide) rfl (fun ls hl => ?_)
  refine lv_goto (tgt := 4) hx hb dX7_bargesOfFate_32 (by decide) ?_
  refine lv_iload_n hx hb dX7_bargesOfFate_4 rfl (lv_at hl 0 rfl) ?_
  refine lv_bipush (v := 7) hx hb dX7_bargesOfFate_5 (by decide) ?_
  refine lv_icmp_ge (tgt := 35) hx hb dX7_bargesOfFate_7 (by decide) (fun c_43 => absurd c_43 (by decide +kernel)) (fun c_43 => ?_)
  refine lv_iload_n hx hb dX7_bargesOfFate_10 rfl (lv_at hl 1 rfl) ?_
  refine lv_aload_n hx hb dX7_bargesOfFate_11 rfl (lv_at hl 2 rfl) ?_
  refine lv_iload_n hx hb dX7_bargesOfFate_12 rfl (lv_at hl 0 rfl) ?_
  refine cVi (wr := []) (rest := [.int 63]) (k_fateOf h a (cB2 z0 7) 6) okV_X7_fateOf wd_140 hx hb hml hown hts hK hP hD hS hA hN hl.1 [0, 1] [] rfl rfl rfl rfl (by decide) rfl rfl rfl (Nat.le_of_ble_eq_true rfl) (Nat.le_of_ble_eq_true rfl) (Nat.le_of_ble_eq_true rfl) (Nat.le_of_ble_eq_true rfl) (Nat.le_of_ble_eq_true rfl) dX7_bargesOfFate_13 (fun r_45 u_44 H locs hw_u_44 hP hD hS => ?_)
  obtain rfl := hw_u_44
  have hP : va_P D classes [(h, .inr (7, [.ref a])), (a, .inl (cI, 41, .inl (cB2 z0 7)))] H := hP
  have hD : va_D A [(h, .inr (7, [.ref a])), (a, .inl (cI, 41, .inl (cB2 z0 7)))] := hD
  refine lv_topi (fun z_46 ez_46 => ?_)
  obtain rfl : z_46 = 0 := ez_46.trans (by decide +kernel)
  refine lv_iload_n hx hb dX7_bargesOfFate_16 rfl (lv_at hl 3 rfl) ?_
  refine lv_icmp_ne (tgt := 26) hx hb dX7_bargesOfFate_17 (by decide) (fun c_47 => absurd (by decide +kernel) c_47) (fun c_47 => ?_)
  refine lv_iconst (v := 1) hx hb dX7_bargesOfFate_20 (by decide) ?_
  refine lv_iload_n hx hb dX7_bargesOfFate_21 rfl (lv_at hl 0 rfl) ?_
  refine lv_ishl hx hb dX7_bargesOfFate_22 ?_
  refine lv_topi (fun z_48 ez_48 => ?_)
  obtain rfl : z_48 = 64 := ez_48.trans (by decide +kernel)
  refine lv_goto (tgt := 27) hx hb dX7_bargesOfFate_23 (by decide) ?_
  refine lv_ior hx hb dX7_bargesOfFate_27 ?_
  refine lv_topi (fun z_49 ez_49 => ?_)
  obtain rfl : z_49 = 127 := ez_49.trans (by decide +kernel)
  refine lv_istore_n (lv' := [(2, .int 127), (3, .int 6), (0, .ref h), (1, .int 0)]) hx hb dX7_bargesOfFate_28 rfl hl (by decide) rfl (fun ls hl => ?_)
  refine lv_iinc (v := 7) (lv' := [(3, .int 7), (2, .int 127), (0, .ref h), (1, .int 0)]) hx hb dX7_bargesOfFate_29 hl (k := 1) rfl (by decide +kernel) (by decide) rfl (fun ls hl => ?_)
  refine lv_goto (tgt := 4) hx hb dX7_bargesOfFate_32 (by decide) ?_
  refine lv_iload_n hx hb dX7_bargesOfFate_4 rfl (lv_at hl 0 rfl) ?_
  refine lv_bipush (v := 7) hx hb dX7_bargesOfFate_5 (by decide) ?_
  refine lv_icmp_ge (tgt := 35) hx hb dX7_bargesOfFate_7 (by decide) (fun c_50 => ?_) (fun c_50 => absurd (by decide +kernel) c_50)
  refine lv_iload_n hx hb dX7_bargesOfFate_35 rfl (lv_at hl 1 rfl) ?_
  exact hret 127 () _ _ _ _ dX7_bargesOfFate_36 rfl rfl (cutP (isC := [0, 1]) hP rfl) (cutD (isC := [0, 1]) hD rfl rfl) hS
def rm_k_bargesOfFate1 : Room := { frames := 2, cells := 0, slots := 0, locals := 42 }
set_option maxHeartbeats 4000000 in
set_option maxRecDepth 100000 in
theorem k_bargesOfFate1 {l : Launch} {D : va_G} {cI cZ : ClassId} {sz : Nat} (h a : Nat) : KI l yX7_bargesOfFate cX7_bargesOfFate 4 (some .int) rm_k_bargesOfFate1 D cI cZ [.ref h, .int 1] sz [(h, .inr (7, [.ref a])), (a, .inl (cI, 41, .inl (cB2 z0 7)))] (fun (r : Int32) (_ : Unit) => r = 0) (fun (_ : Unit) => [(h, .inr (7, [.ref a])), (a, .inl (cI, 41, .inl (cB2 z0 7)))]) := by
  refine KI.go rfl (Nat.le_of_ble_eq_true rfl) ?_
  intro p e s m args below meth c ls A Q hx hb hml hts hown hin hP hK hD hS hA hN hl hret
  have hl : lv_has ls 4 [(0, .ref h), (1, .int 1)] := hl
  refine lv_iconst (v := 0) hx hb dX7_bargesOfFate_0 (by decide) ?_
  refine lv_istore_n (lv' := [(2, .int 0), (0, .ref h), (1, .int 1)]) hx hb dX7_bargesOfFate_1 rfl hl (by decide) rfl (fun ls hl => ?_)
  refine lv_iconst (v := 0) hx hb dX7_bargesOfFate_2 (by decide) ?_
  refine lv_istore_n (lv' := [(3, .int 0), (2, .int 0), (0, .ref h), (1, .int 1)]) hx hb dX7_bargesOfFate_3 rfl hl (by decide) rfl (fun ls hl => ?_)
  refine lv_iload_n hx hb dX7_bargesOfFate_4 rfl (lv_at hl 0 rfl) ?_
  refine lv_bipush (v := 7) hx hb dX7_bargesOfFate_5 (by decide) ?_
  refine lv_icmp_ge (tgt := 35) hx hb dX7_bargesOfFate_7 (by decide) (fun c_1 => absurd c_1 (by decide +kernel)) (fun c_1 => ?_)
  refine lv_iload_n hx hb dX7_bargesOfFate_10 rfl (lv_at hl 1 rfl) ?_
  refine lv_aload_n hx hb dX7_bargesOfFate_11 rfl (lv_at hl 2 rfl) ?_
  refine lv_iload_n hx hb dX7_bargesOfFate_12 rfl (lv_at hl 0 rfl) ?_
  refine cVi (wr := []) (rest := [.int 0]) (k_fateOf h a (cB2 z0 7) 0) okV_X7_fateOf wd_140 hx hb hml hown hts hK hP hD hS hA hN hl.1 [0, 1] [] rfl rfl rfl rfl (by decide) rfl rfl rfl (Nat.le_of_ble_eq_true rfl) (Nat.le_of_ble_eq_true rfl) (Nat.le_of_ble_eq_true rfl) (Nat.le_of_ble_eq_true rfl) (Nat.le_of_ble_eq_true rfl) dX7_bargesOfFate_13 (fun r_3 u_2 H locs hw_u_2 hP hD hS => ?_)
  obtain rfl := hw_u_2
  have hP : va_P D classes [(h, .inr (7, [.ref a])), (a, .inl (cI, 41, .inl (cB2 z0 7)))] H := hP
  have hD : va_D A [(h, .inr (7, [.ref a])), (a, .inl (cI, 41, .inl (cB2 z0 7)))] := hD
  refine lv_topi (fun z_4 ez_4 => ?_)
  obtain rfl : z_4 = 0 := ez_4.trans (by decide +kernel)
  refine lv_iload_n hx hb dX7_bargesOfFate_16 rfl (lv_at hl 3 rfl) ?_
  refine lv_icmp_ne (tgt := 26) hx hb dX7_bargesOfFate_17 (by decide) (fun c_5 => ?_) (fun c_5 => absurd c_5 (by decide +kernel))
  refine lv_iconst (v := 0) hx hb dX7_bargesOfFate_26 (by decide) ?_
  refine lv_ior hx hb dX7_bargesOfFate_27 ?_
  refine lv_topi (fun z_6 ez_6 => ?_)
  obtain rfl : z_6 = 0 := ez_6.trans (by decide +kernel)
  refine lv_istore_n (lv' := [(2, .int 0), (3, .int 0), (0, .ref h), (1, .int 1)]) hx hb dX7_bargesOfFate_28 rfl hl (by decide) rfl (fun ls hl => ?_)
  refine lv_iinc (v := 1) (lv' := [(3, .int 1), (2, .int 0), (0, .ref h), (1, .int 1)]) hx hb dX7_bargesOfFate_29 hl (k := 1) rfl (by decide +kernel) (by decide) rfl (fun ls hl => ?_)
  refine lv_goto (tgt := 4) hx hb dX7_bargesOfFate_32 (by decide) ?_
  refine lv_iload_n hx hb dX7_bargesOfFate_4 rfl (lv_at hl 0 rfl) ?_
  refine lv_bipush (v := 7) hx hb dX7_bargesOfFate_5 (by decide) ?_
  refine lv_icmp_ge (tgt := 35) hx hb dX7_bargesOfFate_7 (by decide) (fun c_7 => absurd c_7 (by decide +kernel)) (fun c_7 => ?_)
  refine lv_iload_n hx hb dX7_bargesOfFate_10 rfl (lv_at hl 1 rfl) ?_
  refine lv_aload_n hx hb dX7_bargesOfFate_11 rfl (lv_at hl 2 rfl) ?_
  refine lv_iload_n hx hb dX7_bargesOfFate_12 rfl (lv_at hl 0 rfl) ?_
  refine cVi (wr := []) (rest := [.int 0]) (k_fateOf h a (cB2 z0 7) 1) okV_X7_fateOf wd_140 hx hb hml hown hts hK hP hD hS hA hN hl.1 [0, 1] [] rfl rfl rfl rfl (by decide) rfl rfl rfl (Nat.le_of_ble_eq_true rfl) (Nat.le_of_ble_eq_true rfl) (Nat.le_of_ble_eq_true rfl) (Nat.le_of_ble_eq_true rfl) (Nat.le_of_ble_eq_true rfl) dX7_bargesOfFate_13 (fun r_9 u_8 H locs hw_u_8 hP hD hS => ?_)
  obtain rfl := hw_u_8
  have hP : va_P D classes [(h, .inr (7, [.ref a])), (a, .inl (cI, 41, .inl (cB2 z0 7)))] H := hP
  have hD : va_D A [(h, .inr (7, [.ref a])), (a, .inl (cI, 41, .inl (cB2 z0 7)))] := hD
  refine lv_topi (fun z_10 ez_10 => ?_)
  obtain rfl : z_10 = 0 := ez_10.trans (by decide +kernel)
  refine lv_iload_n hx hb dX7_bargesOfFate_16 rfl (lv_at hl 3 rfl) ?_
  refine lv_icmp_ne (tgt := 26) hx hb dX7_bargesOfFate_17 (by decide) (fun c_11 => ?_) (fun c_11 => absurd c_11 (by decide +kernel))
  refine lv_iconst (v := 0) hx hb dX7_bargesOfFate_26 (by decide) ?_
  refine lv_ior hx hb dX7_bargesOfFate_27 ?_
  refine lv_topi (fun z_12 ez_12 => ?_)
  obtain rfl : z_12 = 0 := ez_12.trans (by decide +kernel)
  refine lv_istore_n (lv' := [(2, .int 0), (3, .int 1), (0, .ref h), (1, .int 1)]) hx hb dX7_bargesOfFate_28 rfl hl (by decide) rfl (fun ls hl => ?_)
  refine lv_iinc (v := 2) (lv' := [(3, .int 2), (2, .int 0), (0, .ref h), (1, .int 1)]) hx hb dX7_bargesOfFate_29 hl (k := 1) rfl (by decide +kernel) (by decide) rfl (fun ls hl => ?_)
  refine lv_goto (tgt := 4) hx hb dX7_bargesOfFate_32 (by decide) ?_
  refine lv_iload_n hx hb dX7_bargesOfFate_4 rfl (lv_at hl 0 rfl) ?_
  refine lv_bipush (v := 7) hx hb dX7_bargesOfFate_5 (by decide) ?_
  refine lv_icmp_ge (tgt := 35) hx hb dX7_bargesOfFate_7 (by decide) (fun c_13 => absurd c_13 (by decide +kernel)) (fun c_13 => ?_)
  refine lv_iload_n hx hb dX7_bargesOfFate_10 rfl (lv_at hl 1 rfl) ?_
  refine lv_aload_n hx hb dX7_bargesOfFate_11 rfl (lv_at hl 2 rfl) ?_
  refine lv_iload_n hx hb dX7_bargesOfFate_12 rfl (lv_at hl 0 rfl) ?_
  refine cVi (wr := []) (rest := [.int 0]) (k_fateOf h a (cB2 z0 7) 2) okV_X7_fateOf wd_140 hx hb hml hown hts hK hP hD hS hA hN hl.1 [0, 1] [] rfl rfl rfl rfl (by decide) rfl rfl rfl (Nat.le_of_ble_eq_true rfl) (Nat.le_of_ble_eq_true rfl) (Nat.le_of_ble_eq_true rfl) (Nat.le_of_ble_eq_true rfl) (Nat.le_of_ble_eq_true rfl) dX7_bargesOfFate_13 (fun r_15 u_14 H locs hw_u_14 hP hD hS => ?_)
  obtain rfl := hw_u_14
  have hP : va_P D classes [(h, .inr (7, [.ref a])), (a, .inl (cI, 41, .inl (cB2 z0 7)))] H := hP
  have hD : va_D A [(h, .inr (7, [.ref a])), (a, .inl (cI, 41, .inl (cB2 z0 7)))] := hD
  refine lv_topi (fun z_16 ez_16 => ?_)
  obtain rfl : z_16 = 0 := ez_16.trans (by decide +kernel)
  refine lv_iload_n hx hb dX7_bargesOfFate_16 rfl (lv_at hl 3 rfl) ?_
  refine lv_icmp_ne (tgt := 26) hx hb dX7_bargesOfFate_17 (by decide) (fun c_17 => ?_) (fun c_17 => absurd c_17 (by decide +kernel))
  refine lv_iconst (v := 0) hx hb dX7_bargesOfFate_26 (by decide) ?_
  refine lv_ior hx hb dX7_bargesOfFate_27 ?_
  refine lv_topi (fun z_18 ez_18 => ?_)
  obtain rfl : z_18 = 0 := ez_18.trans (by decide +kernel)
  refine lv_istore_n (lv' := [(2, .int 0), (3, .int 2), (0, .ref h), (1, .int 1)]) hx hb dX7_bargesOfFate_28 rfl hl (by decide) rfl (fun ls hl => ?_)
  refine lv_iinc (v := 3) (lv' := [(3, .int 3), (2, .int 0), (0, .ref h), (1, .int 1)]) hx hb dX7_bargesOfFate_29 hl (k := 1) rfl (by decide +kernel) (by decide) rfl (fun ls hl => ?_)
  refine lv_goto (tgt := 4) hx hb dX7_bargesOfFate_32 (by decide) ?_
  refine lv_iload_n hx hb dX7_bargesOfFate_4 rfl (lv_at hl 0 rfl) ?_
  refine lv_bipush (v := 7) hx hb dX7_bargesOfFate_5 (by decide) ?_
  refine lv_icmp_ge (tgt := 35) hx hb dX7_bargesOfFate_7 (by decide) (fun c_19 => absurd c_19 (by decide +kernel)) (fun c_19 => ?_)
  refine lv_iload_n hx hb dX7_bargesOfFate_10 rfl (lv_at hl 1 rfl) ?_
  refine lv_aload_n hx hb dX7_bargesOfFate_11 rfl (lv_at hl 2 rfl) ?_
  refine lv_iload_n hx hb dX7_bargesOfFate_12 rfl (lv_at hl 0 rfl) ?_
  refine cVi (wr := []) (rest := [.int 0]) (k_fateOf h a (cB2 z0 7) 3) okV_X7_fateOf wd_140 hx hb hml hown hts hK hP hD hS hA hN hl.1 [0, 1] [] rfl rfl rfl rfl (by decide) rfl rfl rfl (Nat.le_of_ble_eq_true rfl) (Nat.le_of_ble_eq_true rfl) (Nat.le_of_ble_eq_true rfl) (Nat.le_of_ble_eq_true rfl) (Nat.le_of_ble_eq_true rfl) dX7_bargesOfFate_13 (fun r_21 u_20 H locs hw_u_20 hP hD hS => ?_)
  obtain rfl := hw_u_20
  have hP : va_P D classes [(h, .inr (7, [.ref a])), (a, .inl (cI, 41, .inl (cB2 z0 7)))] H := hP
  have hD : va_D A [(h, .inr (7, [.ref a])), (a, .inl (cI, 41, .inl (cB2 z0 7)))] := hD
  refine lv_topi (fun z_22 ez_22 => ?_)
  obtain rfl : z_22 = 0 := ez_22.trans (by decide +kernel)
  refine lv_iload_n hx hb dX7_bargesOfFate_16 rfl (lv_at hl 3 rfl) ?_
  refine lv_icmp_ne (tgt := 26) hx hb dX7_bargesOfFate_17 (by decide) (fun c_23 => ?_) (fun c_23 => absurd c_23 (by decide +kernel))
  refine lv_iconst (v := 0) hx hb dX7_bargesOfFate_26 (by decide) ?_
  refine lv_ior hx hb dX7_bargesOfFate_27 ?_
  refine lv_topi (fun z_24 ez_24 => ?_)
  obtain rfl : z_24 = 0 := ez_24.trans (by decide +kernel)
  refine lv_istore_n (lv' := [(2, .int 0), (3, .int 3), (0, .ref h), (1, .int 1)]) hx hb dX7_bargesOfFate_28 rfl hl (by decide) rfl (fun ls hl => ?_)
  refine lv_iinc (v := 4) (lv' := [(3, .int 4), (2, .int 0), (0, .ref h), (1, .int 1)]) hx hb dX7_bargesOfFate_29 hl (k := 1) rfl (by decide +kernel) (by decide) rfl (fun ls hl => ?_)
  refine lv_goto (tgt := 4) hx hb dX7_bargesOfFate_32 (by decide) ?_
  refine lv_iload_n hx hb dX7_bargesOfFate_4 rfl (lv_at hl 0 rfl) ?_
  refine lv_bipush (v := 7) hx hb dX7_bargesOfFate_5 (by decide) ?_
  refine lv_icmp_ge (tgt := 35) hx hb dX7_bargesOfFate_7 (by decide) (fun c_25 => absurd c_25 (by decide +kernel)) (fun c_25 => ?_)
  refine lv_iload_n hx hb dX7_bargesOfFate_10 rfl (lv_at hl 1 rfl) ?_
  refine lv_aload_n hx hb dX7_bargesOfFate_11 rfl (lv_at hl 2 rfl) ?_
  refine lv_iload_n hx hb dX7_bargesOfFate_12 rfl (lv_at hl 0 rfl) ?_
  refine cVi (wr := []) (rest := [.int 0]) (k_fateOf h a (cB2 z0 7) 4) okV_X7_fateOf wd_140 hx hb hml hown hts hK hP hD hS hA hN hl.1 [0, 1] [] rfl rfl rfl rfl (by decide) rfl rfl rfl (Nat.le_of_ble_eq_true rfl) (Nat.le_of_ble_eq_true rfl) (Nat.le_of_ble_eq_true rfl) (Nat.le_of_ble_eq_true rfl) (Nat.le_of_ble_eq_true rfl) dX7_bargesOfFate_13 (fun r_27 u_26 H locs hw_u_26 hP hD hS => ?_)
  obtain rfl := hw_u_26
  have hP : va_P D classes [(h, .inr (7, [.ref a])), (a, .inl (cI, 41, .inl (cB2 z0 7)))] H := hP
  have hD : va_D A [(h, .inr (7, [.ref a])), (a, .inl (cI, 41, .inl (cB2 z0 7)))] := hD
  refine lv_topi (fun z_28 ez_28 => ?_)
  obtain rfl : z_28 = 0 := ez_28.trans (by decide +kernel)
  refine lv_iload_n hx hb dX7_bargesOfFate_16 rfl (lv_at hl 3 rfl) ?_
  refine lv_icmp_ne (tgt := 26) hx hb dX7_bargesOfFate_17 (by decide) (fun c_29 => ?_) (fun c_29 => absurd c_29 (by decide +kernel))
  refine lv_iconst (v := 0) hx hb dX7_bargesOfFate_26 (by decide) ?_
  refine lv_ior hx hb dX7_bargesOfFate_27 ?_
  refine lv_topi (fun z_30 ez_30 => ?_)
  obtain rfl : z_30 = 0 := ez_30.trans (by decide +kernel)
  refine lv_istore_n (lv' := [(2, .int 0), (3, .int 4), (0, .ref h), (1, .int 1)]) hx hb dX7_bargesOfFate_28 rfl hl (by decide) rfl (fun ls hl => ?_)
  refine lv_iinc (v := 5) (lv' := [(3, .int 5), (2, .int 0), (0, .ref h), (1, .int 1)]) hx hb dX7_bargesOfFate_29 hl (k := 1) rfl (by decide +kernel) (by decide) rfl (fun ls hl => ?_)
  refine lv_goto (tgt := 4) hx hb dX7_bargesOfFate_32 (by decide) ?_
  refine lv_iload_n hx hb dX7_bargesOfFate_4 rfl (lv_at hl 0 rfl) ?_
  refine lv_bipush (v := 7) hx hb dX7_bargesOfFate_5 (by decide) ?_
  refine lv_icmp_ge (tgt := 35) hx hb dX7_bargesOfFate_7 (by decide) (fun c_31 => absurd c_31 (by decide +kernel)) (fun c_31 => ?_)
  refine lv_iload_n hx hb dX7_bargesOfFate_10 rfl (lv_at hl 1 rfl) ?_
  refine lv_aload_n hx hb dX7_bargesOfFate_11 rfl (lv_at hl 2 rfl) ?_
  refine lv_iload_n hx hb dX7_bargesOfFate_12 rfl (lv_at hl 0 rfl) ?_
  refine cVi (wr := []) (rest := [.int 0]) (k_fateOf h a (cB2 z0 7) 5) okV_X7_fateOf wd_140 hx hb hml hown hts hK hP hD hS hA hN hl.1 [0, 1] [] rfl rfl rfl rfl (by decide) rfl rfl rfl (Nat.le_of_ble_eq_true rfl) (Nat.le_of_ble_eq_true rfl) (Nat.le_of_ble_eq_true rfl) (Nat.le_of_ble_eq_true rfl) (Nat.le_of_ble_eq_true rfl) dX7_bargesOfFate_13 (fun r_33 u_32 H locs hw_u_32 hP hD hS => ?_)
  obtain rfl := hw_u_32
  have hP : va_P D classes [(h, .inr (7, [.ref a])), (a, .inl (cI, 41, .inl (cB2 z0 7)))] H := hP
  have hD : va_D A [(h, .inr (7, [.ref a])), (a, .inl (cI, 41, .inl (cB2 z0 7)))] := hD
  refine lv_topi (fun z_34 ez_34 => ?_)
  obtain rfl : z_34 = 0 := ez_34.trans (by decide +kernel)
  refine lv_iload_n hx hb dX7_bargesOfFate_16 rfl (lv_at hl 3 rfl) ?_
  refine lv_icmp_ne (tgt := 26) hx hb dX7_bargesOfFate_17 (by decide) (fun c_35 => ?_) (fun c_35 => absurd c_35 (by decide +kernel))
  refine lv_iconst (v := 0) hx hb dX7_bargesOfFate_26 (by decide) ?_
  refine lv_ior hx hb dX7_bargesOfFate_27 ?_
  refine lv_topi (fun z_36 ez_36 => ?_)
  obtain rfl : z_36 = 0 := ez_36.trans (by decide +kernel)
  refine lv_istore_n (lv' := [(2, .int 0), (3, .int 5), (0, .ref h), (1, .int 1)]) hx hb dX7_bargesOfFate_28 rfl hl (by decide) rfl (fun ls hl => ?_)
  refine lv_iinc (v := 6) (lv' := [(3, .int 6), (2, .int 0), (0, .ref h), (1, .int 1)]) hx hb dX7_bargesOfFate_29 hl (k := 1) rfl (by decide +kernel) (by decide) rfl (fun ls hl => ?_)
  refine lv_goto (tgt := 4) hx hb dX7_bargesOfFate_32 (by decide) ?_
  refine lv_iload_n hx hb dX7_bargesOfFate_4 rfl (lv_at hl 0 rfl) ?_
  refine lv_bipush (v := 7) hx hb dX7_bargesOfFate_5 (by decide) ?_
  refine lv_icmp_ge (tgt := 35) hx hb dX7_bargesOfFate_7 (by decide) (fun c_37 => absurd c_37 (by decide +kernel)) (fun c_37 => ?_)
  refine lv_iload_n hx hb dX7_bargesOfFate_10 rfl (lv_at hl 1 rfl) ?_
  refine lv_aload_n hx hb dX7_bargesOfFate_11 rfl (lv_at hl 2 rfl) ?_
  refine lv_iload_n hx hb dX7_bargesOfFate_12 rfl (lv_at hl 0 rfl) ?_
  refine cVi (wr := []) (rest := [.int 0]) (k_fateOf h a (cB2 z0 7) 6) okV_X7_fateOf wd_140 hx hb hml hown hts hK hP hD hS hA hN hl.1 [0, 1] [] rfl rfl rfl rfl (by decide) rfl rfl rfl (Nat.le_of_ble_eq_true rfl) (Nat.le_of_ble_eq_true rfl) (Nat.le_of_ble_eq_true rfl) (Nat.le_of_ble_eq_true rfl) (Nat.le_of_ble_eq_true rfl) dX7_bargesOfFate_13 (fun r_39 u_38 H locs hw_u_38 hP hD hS => ?_)
  obtain rfl := hw_u_38
  have hP : va_P D classes [(h, .inr (7, [.ref a])), (a, .inl (cI, 41, .inl (cB2 z0 7)))] H := hP
  have hD : va_D A [(h, .inr (7, [.ref a])), (a, .inl (cI, 41, .inl (cB2 z0 7)))] := hD
  refine lv_topi (fun z_40 ez_40 => ?_)
  obtain rfl : z_40 = 0 := ez_40.trans (by decide +kernel)
  refine lv_iload_n hx hb dX7_bargesOfFate_16 rfl (lv_at hl 3 rfl) ?_
  refine lv_icmp_ne (tgt := 26) hx hb dX7_bargesOfFate_17 (by decide) (fun c_41 => ?_) (fun c_41 => absurd c_41 (by decide +kernel))
  refine lv_iconst (v := 0) hx hb dX7_bargesOfFate_26 (by decide) ?_
  refine lv_ior hx hb dX7_bargesOfFate_27 ?_
  refine lv_topi (fun z_42 ez_42 => ?_)
  obtain rfl : z_42 = 0 := ez_42.trans (by decide +kernel)
  refine lv_istore_n (lv' := [(2, .int 0), (3, .int 6), (0, .ref h), (1, .int 1)]) hx hb dX7_bargesOfFate_28 rfl hl (by decide) rfl (fun ls hl => ?_)
  refine lv_iinc (v := 7) (lv' := [(3, .int 7), (2, .int 0), (0, .ref h), (1, .int 1)]) hx hb dX7_bargesOfFate_29 hl (k := 1) rfl (by decide +kernel) (by decide) rfl (fun ls hl => ?_)
  refine lv_goto (tgt := 4) hx hb dX7_bargesOfFate_32 (by decide) ?_
  refine lv_iload_n hx hb dX7_bargesOfFate_4 rfl (lv_at hl 0 rfl) ?_
  refine lv_bipush (v := 7) hx hb dX7_bargesOfFate_5 (by decide) ?_
  refine lv_icmp_ge (tgt := 35) hx hb dX7_bargesOfFate_7 (by decide) (fun c_43 => ?_) (fun c_43 => absurd (by decide +kernel) c_43)
  refine lv_iload_n hx hb dX7_bargesOfFate_35 rfl (lv_at hl 1 rfl) ?_
  exact hret 0 () _ _ _ _ dX7_bargesOfFate_36 rfl rfl (cutP (isC := [0, 1]) hP rfl) (cutD (isC := [0, 1]) hD rfl rfl) hS
def rm_k_bargesOfFate2 : Room := { frames := 2, cells := 0, slots := 0, locals := 42 }
set_option maxHeartbeats 4000000 in
set_option maxRecDepth 100000 in
theorem k_bargesOfFate2 {l : Launch} {D : va_G} {cI cZ : ClassId} {sz : Nat} (h a : Nat) : KI l yX7_bargesOfFate cX7_bargesOfFate 4 (some .int) rm_k_bargesOfFate2 D cI cZ [.ref h, .int 2] sz [(h, .inr (7, [.ref a])), (a, .inl (cI, 41, .inl (cB2 z0 7)))] (fun (r : Int32) (_ : Unit) => r = 0) (fun (_ : Unit) => [(h, .inr (7, [.ref a])), (a, .inl (cI, 41, .inl (cB2 z0 7)))]) := by
  refine KI.go rfl (Nat.le_of_ble_eq_true rfl) ?_
  intro p e s m args below meth c ls A Q hx hb hml hts hown hin hP hK hD hS hA hN hl hret
  have hl : lv_has ls 4 [(0, .ref h), (1, .int 2)] := hl
  refine lv_iconst (v := 0) hx hb dX7_bargesOfFate_0 (by decide) ?_
  refine lv_istore_n (lv' := [(2, .int 0), (0, .ref h), (1, .int 2)]) hx hb dX7_bargesOfFate_1 rfl hl (by decide) rfl (fun ls hl => ?_)
  refine lv_iconst (v := 0) hx hb dX7_bargesOfFate_2 (by decide) ?_
  refine lv_istore_n (lv' := [(3, .int 0), (2, .int 0), (0, .ref h), (1, .int 2)]) hx hb dX7_bargesOfFate_3 rfl hl (by decide) rfl (fun ls hl => ?_)
  refine lv_iload_n hx hb dX7_bargesOfFate_4 rfl (lv_at hl 0 rfl) ?_
  refine lv_bipush (v := 7) hx hb dX7_bargesOfFate_5 (by decide) ?_
  refine lv_icmp_ge (tgt := 35) hx hb dX7_bargesOfFate_7 (by decide) (fun c_1 => absurd c_1 (by decide +kernel)) (fun c_1 => ?_)
  refine lv_iload_n hx hb dX7_bargesOfFate_10 rfl (lv_at hl 1 rfl) ?_
  refine lv_aload_n hx hb dX7_bargesOfFate_11 rfl (lv_at hl 2 rfl) ?_
  refine lv_iload_n hx hb dX7_bargesOfFate_12 rfl (lv_at hl 0 rfl) ?_
  refine cVi (wr := []) (rest := [.int 0]) (k_fateOf h a (cB2 z0 7) 0) okV_X7_fateOf wd_140 hx hb hml hown hts hK hP hD hS hA hN hl.1 [0, 1] [] rfl rfl rfl rfl (by decide) rfl rfl rfl (Nat.le_of_ble_eq_true rfl) (Nat.le_of_ble_eq_true rfl) (Nat.le_of_ble_eq_true rfl) (Nat.le_of_ble_eq_true rfl) (Nat.le_of_ble_eq_true rfl) dX7_bargesOfFate_13 (fun r_3 u_2 H locs hw_u_2 hP hD hS => ?_)
  obtain rfl := hw_u_2
  have hP : va_P D classes [(h, .inr (7, [.ref a])), (a, .inl (cI, 41, .inl (cB2 z0 7)))] H := hP
  have hD : va_D A [(h, .inr (7, [.ref a])), (a, .inl (cI, 41, .inl (cB2 z0 7)))] := hD
  refine lv_topi (fun z_4 ez_4 => ?_)
  obtain rfl : z_4 = 0 := ez_4.trans (by decide +kernel)
  refine lv_iload_n hx hb dX7_bargesOfFate_16 rfl (lv_at hl 3 rfl) ?_
  refine lv_icmp_ne (tgt := 26) hx hb dX7_bargesOfFate_17 (by decide) (fun c_5 => ?_) (fun c_5 => absurd c_5 (by decide +kernel))
  refine lv_iconst (v := 0) hx hb dX7_bargesOfFate_26 (by decide) ?_
  refine lv_ior hx hb dX7_bargesOfFate_27 ?_
  refine lv_topi (fun z_6 ez_6 => ?_)
  obtain rfl : z_6 = 0 := ez_6.trans (by decide +kernel)
  refine lv_istore_n (lv' := [(2, .int 0), (3, .int 0), (0, .ref h), (1, .int 2)]) hx hb dX7_bargesOfFate_28 rfl hl (by decide) rfl (fun ls hl => ?_)
  refine lv_iinc (v := 1) (lv' := [(3, .int 1), (2, .int 0), (0, .ref h), (1, .int 2)]) hx hb dX7_bargesOfFate_29 hl (k := 1) rfl (by decide +kernel) (by decide) rfl (fun ls hl => ?_)
  refine lv_goto (tgt := 4) hx hb dX7_bargesOfFate_32 (by decide) ?_
  refine lv_iload_n hx hb dX7_bargesOfFate_4 rfl (lv_at hl 0 rfl) ?_
  refine lv_bipush (v := 7) hx hb dX7_bargesOfFate_5 (by decide) ?_
  refine lv_icmp_ge (tgt := 35) hx hb dX7_bargesOfFate_7 (by decide) (fun c_7 => absurd c_7 (by decide +kernel)) (fun c_7 => ?_)
  refine lv_iload_n hx hb dX7_bargesOfFate_10 rfl (lv_at hl 1 rfl) ?_
  refine lv_aload_n hx hb dX7_bargesOfFate_11 rfl (lv_at hl 2 rfl) ?_
  refine lv_iload_n hx hb dX7_bargesOfFate_12 rfl (lv_at hl 0 rfl) ?_
  refine cVi (wr := []) (rest := [.int 0]) (k_fateOf h a (cB2 z0 7) 1) okV_X7_fateOf wd_140 hx hb hml hown hts hK hP hD hS hA hN hl.1 [0, 1] [] rfl rfl rfl rfl (by decide) rfl rfl rfl (Nat.le_of_ble_eq_true rfl) (Nat.le_of_ble_eq_true rfl) (Nat.le_of_ble_eq_true rfl) (Nat.le_of_ble_eq_true rfl) (Nat.le_of_ble_eq_true rfl) dX7_bargesOfFate_13 (fun r_9 u_8 H locs hw_u_8 hP hD hS => ?_)
  obtain rfl := hw_u_8
  have hP : va_P D classes [(h, .inr (7, [.ref a])), (a, .inl (cI, 41, .inl (cB2 z0 7)))] H := hP
  have hD : va_D A [(h, .inr (7, [.ref a])), (a, .inl (cI, 41, .inl (cB2 z0 7)))] := hD
  refine lv_topi (fun z_10 ez_10 => ?_)
  obtain rfl : z_10 = 0 := ez_10.trans (by decide +kernel)
  refine lv_iload_n hx hb dX7_bargesOfFate_16 rfl (lv_at hl 3 rfl) ?_
  refine lv_icmp_ne (tgt := 26) hx hb dX7_bargesOfFate_17 (by decide) (fun c_11 => ?_) (fun c_11 => absurd c_11 (by decide +kernel))
  refine lv_iconst (v := 0) hx hb dX7_bargesOfFate_26 (by decide) ?_
  refine lv_ior hx hb dX7_bargesOfFate_27 ?_
  refine lv_topi (fun z_12 ez_12 => ?_)
  obtain rfl : z_12 = 0 := ez_12.trans (by decide +kernel)
  refine lv_istore_n (lv' := [(2, .int 0), (3, .int 1), (0, .ref h), (1, .int 2)]) hx hb dX7_bargesOfFate_28 rfl hl (by decide) rfl (fun ls hl => ?_)
  refine lv_iinc (v := 2) (lv' := [(3, .int 2), (2, .int 0), (0, .ref h), (1, .int 2)]) hx hb dX7_bargesOfFate_29 hl (k := 1) rfl (by decide +kernel) (by decide) rfl (fun ls hl => ?_)
  refine lv_goto (tgt := 4) hx hb dX7_bargesOfFate_32 (by decide) ?_
  refine lv_iload_n hx hb dX7_bargesOfFate_4 rfl (lv_at hl 0 rfl) ?_
  refine lv_bipush (v := 7) hx hb dX7_bargesOfFate_5 (by decide) ?_
  refine lv_icmp_ge (tgt := 35) hx hb dX7_bargesOfFate_7 (by decide) (fun c_13 => absurd c_13 (by decide +kernel)) (fun c_13 => ?_)
  refine lv_iload_n hx hb dX7_bargesOfFate_10 rfl (lv_at hl 1 rfl) ?_
  refine lv_aload_n hx hb dX7_bargesOfFate_11 rfl (lv_at hl 2 rfl) ?_
  refine lv_iload_n hx hb dX7_bargesOfFate_12 rfl (lv_at hl 0 rfl) ?_
  refine cVi (wr := []) (rest := [.int 0]) (k_fateOf h a (cB2 z0 7) 2) okV_X7_fateOf wd_140 hx hb hml hown hts hK hP hD hS hA hN hl.1 [0, 1] [] rfl rfl rfl rfl (by decide) rfl rfl rfl (Nat.le_of_ble_eq_true rfl) (Nat.le_of_ble_eq_true rfl) (Nat.le_of_ble_eq_true rfl) (Nat.le_of_ble_eq_true rfl) (Nat.le_of_ble_eq_true rfl) dX7_bargesOfFate_13 (fun r_15 u_14 H locs hw_u_14 hP hD hS => ?_)
  obtain rfl := hw_u_14
  have hP : va_P D classes [(h, .inr (7, [.ref a])), (a, .inl (cI, 41, .inl (cB2 z0 7)))] H := hP
  have hD : va_D A [(h, .inr (7, [.ref a])), (a, .inl (cI, 41, .inl (cB2 z0 7)))] := hD
  refine lv_topi (fun z_16 ez_16 => ?_)
  obtain rfl : z_16 = 0 := ez_16.trans (by decide +kernel)
  refine lv_iload_n hx hb dX7_bargesOfFate_16 rfl (lv_at hl 3 rfl) ?_
  refine lv_icmp_ne (tgt := 26) hx hb dX7_bargesOfFate_17 (by decide) (fun c_17 => ?_) (fun c_17 => absurd c_17 (by decide +kernel))
  refine lv_iconst (v := 0) hx hb dX7_bargesOfFate_26 (by decide) ?_
  refine lv_ior hx hb dX7_bargesOfFate_27 ?_
  refine lv_topi (fun z_18 ez_18 => ?_)
  obtain rfl : z_18 = 0 := ez_18.trans (by decide +kernel)
  refine lv_istore_n (lv' := [(2, .int 0), (3, .int 2), (0, .ref h), (1, .int 2)]) hx hb dX7_bargesOfFate_28 rfl hl (by decide) rfl (fun ls hl => ?_)
  refine lv_iinc (v := 3) (lv' := [(3, .int 3), (2, .int 0), (0, .ref h), (1, .int 2)]) hx hb dX7_bargesOfFate_29 hl (k := 1) rfl (by decide +kernel) (by decide) rfl (fun ls hl => ?_)
  refine lv_goto (tgt := 4) hx hb dX7_bargesOfFate_32 (by decide) ?_
  refine lv_iload_n hx hb dX7_bargesOfFate_4 rfl (lv_at hl 0 rfl) ?_
  refine lv_bipush (v := 7) hx hb dX7_bargesOfFate_5 (by decide) ?_
  refine lv_icmp_ge (tgt := 35) hx hb dX7_bargesOfFate_7 (by decide) (fun c_19 => absurd c_19 (by decide +kernel)) (fun c_19 => ?_)
  refine lv_iload_n hx hb dX7_bargesOfFate_10 rfl (lv_at hl 1 rfl) ?_
  refine lv_aload_n hx hb dX7_bargesOfFate_11 rfl (lv_at hl 2 rfl) ?_
  refine lv_iload_n hx hb dX7_bargesOfFate_12 rfl (lv_at hl 0 rfl) ?_
  refine cVi (wr := []) (rest := [.int 0]) (k_fateOf h a (cB2 z0 7) 3) okV_X7_fateOf wd_140 hx hb hml hown hts hK hP hD hS hA hN hl.1 [0, 1] [] rfl rfl rfl rfl (by decide) rfl rfl rfl (Nat.le_of_ble_eq_true rfl) (Nat.le_of_ble_eq_true rfl) (Nat.le_of_ble_eq_true rfl) (Nat.le_of_ble_eq_true rfl) (Nat.le_of_ble_eq_true rfl) dX7_bargesOfFate_13 (fun r_21 u_20 H locs hw_u_20 hP hD hS => ?_)
  obtain rfl := hw_u_20
  have hP : va_P D classes [(h, .inr (7, [.ref a])), (a, .inl (cI, 41, .inl (cB2 z0 7)))] H := hP
  have hD : va_D A [(h, .inr (7, [.ref a])), (a, .inl (cI, 41, .inl (cB2 z0 7)))] := hD
  refine lv_topi (fun z_22 ez_22 => ?_)
  obtain rfl : z_22 = 0 := ez_22.trans (by decide +kernel)
  refine lv_iload_n hx hb dX7_bargesOfFate_16 rfl (lv_at hl 3 rfl) ?_
  refine lv_icmp_ne (tgt := 26) hx hb dX7_bargesOfFate_17 (by decide) (fun c_23 => ?_) (fun c_23 => absurd c_23 (by decide +kernel))
  refine lv_iconst (v := 0) hx hb dX7_bargesOfFate_26 (by decide) ?_
  refine lv_ior hx hb dX7_bargesOfFate_27 ?_
  refine lv_topi (fun z_24 ez_24 => ?_)
  obtain rfl : z_24 = 0 := ez_24.trans (by decide +kernel)
  refine lv_istore_n (lv' := [(2, .int 0), (3, .int 3), (0, .ref h), (1, .int 2)]) hx hb dX7_bargesOfFate_28 rfl hl (by decide) rfl (fun ls hl => ?_)
  refine lv_iinc (v := 4) (lv' := [(3, .int 4), (2, .int 0), (0, .ref h), (1, .int 2)]) hx hb dX7_bargesOfFate_29 hl (k := 1) rfl (by decide +kernel) (by decide) rfl (fun ls hl => ?_)
  refine lv_goto (tgt := 4) hx hb dX7_bargesOfFate_32 (by decide) ?_
  refine lv_iload_n hx hb dX7_bargesOfFate_4 rfl (lv_at hl 0 rfl) ?_
  refine lv_bipush (v := 7) hx hb dX7_bargesOfFate_5 (by decide) ?_
  refine lv_icmp_ge (tgt := 35) hx hb dX7_bargesOfFate_7 (by decide) (fun c_25 => absurd c_25 (by decide +kernel)) (fun c_25 => ?_)
  refine lv_iload_n hx hb dX7_bargesOfFate_10 rfl (lv_at hl 1 rfl) ?_
  refine lv_aload_n hx hb dX7_bargesOfFate_11 rfl (lv_at hl 2 rfl) ?_
  refine lv_iload_n hx hb dX7_bargesOfFate_12 rfl (lv_at hl 0 rfl) ?_
  refine cVi (wr := []) (rest := [.int 0]) (k_fateOf h a (cB2 z0 7) 4) okV_X7_fateOf wd_140 hx hb hml hown hts hK hP hD hS hA hN hl.1 [0, 1] [] rfl rfl rfl rfl (by decide) rfl rfl rfl (Nat.le_of_ble_eq_true rfl) (Nat.le_of_ble_eq_true rfl) (Nat.le_of_ble_eq_true rfl) (Nat.le_of_ble_eq_true rfl) (Nat.le_of_ble_eq_true rfl) dX7_bargesOfFate_13 (fun r_27 u_26 H locs hw_u_26 hP hD hS => ?_)
  obtain rfl := hw_u_26
  have hP : va_P D classes [(h, .inr (7, [.ref a])), (a, .inl (cI, 41, .inl (cB2 z0 7)))] H := hP
  have hD : va_D A [(h, .inr (7, [.ref a])), (a, .inl (cI, 41, .inl (cB2 z0 7)))] := hD
  refine lv_topi (fun z_28 ez_28 => ?_)
  obtain rfl : z_28 = 0 := ez_28.trans (by decide +kernel)
  refine lv_iload_n hx hb dX7_bargesOfFate_16 rfl (lv_at hl 3 rfl) ?_
  refine lv_icmp_ne (tgt := 26) hx hb dX7_bargesOfFate_17 (by decide) (fun c_29 => ?_) (fun c_29 => absurd c_29 (by decide +kernel))
  refine lv_iconst (v := 0) hx hb dX7_bargesOfFate_26 (by decide) ?_
  refine lv_ior hx hb dX7_bargesOfFate_27 ?_
  refine lv_topi (fun z_30 ez_30 => ?_)
  obtain rfl : z_30 = 0 := ez_30.trans (by decide +kernel)
  refine lv_istore_n (lv' := [(2, .int 0), (3, .int 4), (0, .ref h), (1, .int 2)]) hx hb dX7_bargesOfFate_28 rfl hl (by decide) rfl (fun ls hl => ?_)
  refine lv_iinc (v := 5) (lv' := [(3, .int 5), (2, .int 0), (0, .ref h), (1, .int 2)]) hx hb dX7_bargesOfFate_29 hl (k := 1) rfl (by decide +kernel) (by decide) rfl (fun ls hl => ?_)
  refine lv_goto (tgt := 4) hx hb dX7_bargesOfFate_32 (by decide) ?_
  refine lv_iload_n hx hb dX7_bargesOfFate_4 rfl (lv_at hl 0 rfl) ?_
  refine lv_bipush (v := 7) hx hb dX7_bargesOfFate_5 (by decide) ?_
  refine lv_icmp_ge (tgt := 35) hx hb dX7_bargesOfFate_7 (by decide) (fun c_31 => absurd c_31 (by decide +kernel)) (fun c_31 => ?_)
  refine lv_iload_n hx hb dX7_bargesOfFate_10 rfl (lv_at hl 1 rfl) ?_
  refine lv_aload_n hx hb dX7_bargesOfFate_11 rfl (lv_at hl 2 rfl) ?_
  refine lv_iload_n hx hb dX7_bargesOfFate_12 rfl (lv_at hl 0 rfl) ?_
  refine cVi (wr := []) (rest := [.int 0]) (k_fateOf h a (cB2 z0 7) 5) okV_X7_fateOf wd_140 hx hb hml hown hts hK hP hD hS hA hN hl.1 [0, 1] [] rfl rfl rfl rfl (by decide) rfl rfl rfl (Nat.le_of_ble_eq_true rfl) (Nat.le_of_ble_eq_true rfl) (Nat.le_of_ble_eq_true rfl) (Nat.le_of_ble_eq_true rfl) (Nat.le_of_ble_eq_true rfl) dX7_bargesOfFate_13 (fun r_33 u_32 H locs hw_u_32 hP hD hS => ?_)
  obtain rfl := hw_u_32
  have hP : va_P D classes [(h, .inr (7, [.ref a])), (a, .inl (cI, 41, .inl (cB2 z0 7)))] H := hP
  have hD : va_D A [(h, .inr (7, [.ref a])), (a, .inl (cI, 41, .inl (cB2 z0 7)))] := hD
  refine lv_topi (fun z_34 ez_34 => ?_)
  obtain rfl : z_34 = 0 := ez_34.trans (by decide +kernel)
  refine lv_iload_n hx hb dX7_bargesOfFate_16 rfl (lv_at hl 3 rfl) ?_
  refine lv_icmp_ne (tgt := 26) hx hb dX7_bargesOfFate_17 (by decide) (fun c_35 => ?_) (fun c_35 => absurd c_35 (by decide +kernel))
  refine lv_iconst (v := 0) hx hb dX7_bargesOfFate_26 (by decide) ?_
  refine lv_ior hx hb dX7_bargesOfFate_27 ?_
  refine lv_topi (fun z_36 ez_36 => ?_)
  obtain rfl : z_36 = 0 := ez_36.trans (by decide +kernel)
  refine lv_istore_n (lv' := [(2, .int 0), (3, .int 5), (0, .ref h), (1, .int 2)]) hx hb dX7_bargesOfFate_28 rfl hl (by decide) rfl (fun ls hl => ?_)
  refine lv_iinc (v := 6) (lv' := [(3, .int 6), (2, .int 0), (0, .ref h), (1, .int 2)]) hx hb dX7_bargesOfFate_29 hl (k := 1) rfl (by decide +kernel) (by decide) rfl (fun ls hl => ?_)
  refine lv_goto (tgt := 4) hx hb dX7_bargesOfFate_32 (by decide) ?_
  refine lv_iload_n hx hb dX7_bargesOfFate_4 rfl (lv_at hl 0 rfl) ?_
  refine lv_bipush (v := 7) hx hb dX7_bargesOfFate_5 (by decide) ?_
  refine lv_icmp_ge (tgt := 35) hx hb dX7_bargesOfFate_7 (by decide) (fun c_37 => absurd c_37 (by decide +kernel)) (fun c_37 => ?_)
  refine lv_iload_n hx hb dX7_bargesOfFate_10 rfl (lv_at hl 1 rfl) ?_
  refine lv_aload_n hx hb dX7_bargesOfFate_11 rfl (lv_at hl 2 rfl) ?_
  refine lv_iload_n hx hb dX7_bargesOfFate_12 rfl (lv_at hl 0 rfl) ?_
  refine cVi (wr := []) (rest := [.int 0]) (k_fateOf h a (cB2 z0 7) 6) okV_X7_fateOf wd_140 hx hb hml hown hts hK hP hD hS hA hN hl.1 [0, 1] [] rfl rfl rfl rfl (by decide) rfl rfl rfl (Nat.le_of_ble_eq_true rfl) (Nat.le_of_ble_eq_true rfl) (Nat.le_of_ble_eq_true rfl) (Nat.le_of_ble_eq_true rfl) (Nat.le_of_ble_eq_true rfl) dX7_bargesOfFate_13 (fun r_39 u_38 H locs hw_u_38 hP hD hS => ?_)
  obtain rfl := hw_u_38
  have hP : va_P D classes [(h, .inr (7, [.ref a])), (a, .inl (cI, 41, .inl (cB2 z0 7)))] H := hP
  have hD : va_D A [(h, .inr (7, [.ref a])), (a, .inl (cI, 41, .inl (cB2 z0 7)))] := hD
  refine lv_topi (fun z_40 ez_40 => ?_)
  obtain rfl : z_40 = 0 := ez_40.trans (by decide +kernel)
  refine lv_iload_n hx hb dX7_bargesOfFate_16 rfl (lv_at hl 3 rfl) ?_
  refine lv_icmp_ne (tgt := 26) hx hb dX7_bargesOfFate_17 (by decide) (fun c_41 => ?_) (fun c_41 => absurd c_41 (by decide +kernel))
  refine lv_iconst (v := 0) hx hb dX7_bargesOfFate_26 (by decide) ?_
  refine lv_ior hx hb dX7_bargesOfFate_27 ?_
  refine lv_topi (fun z_42 ez_42 => ?_)
  obtain rfl : z_42 = 0 := ez_42.trans (by decide +kernel)
  refine lv_istore_n (lv' := [(2, .int 0), (3, .int 6), (0, .ref h), (1, .int 2)]) hx hb dX7_bargesOfFate_28 rfl hl (by decide) rfl (fun ls hl => ?_)
  refine lv_iinc (v := 7) (lv' := [(3, .int 7), (2, .int 0), (0, .ref h), (1, .int 2)]) hx hb dX7_bargesOfFate_29 hl (k := 1) rfl (by decide +kernel) (by decide) rfl (fun ls hl => ?_)
  refine lv_goto (tgt := 4) hx hb dX7_bargesOfFate_32 (by decide) ?_
  refine lv_iload_n hx hb dX7_bargesOfFate_4 rfl (lv_at hl 0 rfl) ?_
  refine lv_bipush (v := 7) hx hb dX7_bargesOfFate_5 (by decide) ?_
  refine lv_icmp_ge (tgt := 35) hx hb dX7_bargesOfFate_7 (by decide) (fun c_43 => ?_) (fun c_43 => absurd (by decide +kernel) c_43)
  refine lv_iload_n hx hb dX7_bargesOfFate_35 rfl (lv_at hl 1 rfl) ?_
  exact hret 0 () _ _ _ _ dX7_bargesOfFate_36 rfl rfl (cutP (isC := [0, 1]) hP rfl) (cutD (isC := [0, 1]) hD rfl rfl) hS
def rm_k_bargesOfFate3 : Room := { frames := 2, cells := 0, slots := 0, locals := 42 }
set_option maxHeartbeats 4000000 in
set_option maxRecDepth 100000 in
theorem k_bargesOfFate3 {l : Launch} {D : va_G} {cI cZ : ClassId} {sz : Nat} (h a : Nat) : KI l yX7_bargesOfFate cX7_bargesOfFate 4 (some .int) rm_k_bargesOfFate3 D cI cZ [.ref h, .int 3] sz [(h, .inr (7, [.ref a])), (a, .inl (cI, 41, .inl (cB2 z0 7)))] (fun (r : Int32) (_ : Unit) => r = 0) (fun (_ : Unit) => [(h, .inr (7, [.ref a])), (a, .inl (cI, 41, .inl (cB2 z0 7)))]) := by
  refine KI.go rfl (Nat.le_of_ble_eq_true rfl) ?_
  intro p e s m args below meth c ls A Q hx hb hml hts hown hin hP hK hD hS hA hN hl hret
  have hl : lv_has ls 4 [(0, .ref h), (1, .int 3)] := hl
  refine lv_iconst (v := 0) hx hb dX7_bargesOfFate_0 (by decide) ?_
  refine lv_istore_n (lv' := [(2, .int 0), (0, .ref h), (1, .int 3)]) hx hb dX7_bargesOfFate_1 rfl hl (by decide) rfl (fun ls hl => ?_)
  refine lv_iconst (v := 0) hx hb dX7_bargesOfFate_2 (by decide) ?_
  refine lv_istore_n (lv' := [(3, .int 0), (2, .int 0), (0, .ref h), (1, .int 3)]) hx hb dX7_bargesOfFate_3 rfl hl (by decide) rfl (fun ls hl => ?_)
  refine lv_iload_n hx hb dX7_bargesOfFate_4 rfl (lv_at hl 0 rfl) ?_
  refine lv_bipush (v := 7) hx hb dX7_bargesOfFate_5 (by decide) ?_
  refine lv_icmp_ge (tgt := 35) hx hb dX7_bargesOfFate_7 (by decide) (fun c_1 => absurd c_1 (by decide +kernel)) (fun c_1 => ?_)
  refine lv_iload_n hx hb dX7_bargesOfFate_10 rfl (lv_at hl 1 rfl) ?_
  refine lv_aload_n hx hb dX7_bargesOfFate_11 rfl (lv_at hl 2 rfl) ?_
  refine lv_iload_n hx hb dX7_bargesOfFate_12 rfl (lv_at hl 0 rfl) ?_
  refine cVi (wr := []) (rest := [.int 0]) (k_fateOf h a (cB2 z0 7) 0) okV_X7_fateOf wd_140 hx hb hml hown hts hK hP hD hS hA hN hl.1 [0, 1] [] rfl rfl rfl rfl (by decide) rfl rfl rfl (Nat.le_of_ble_eq_true rfl) (Nat.le_of_ble_eq_true rfl) (Nat.le_of_ble_eq_true rfl) (Nat.le_of_ble_eq_true rfl) (Nat.le_of_ble_eq_true rfl) dX7_bargesOfFate_13 (fun r_3 u_2 H locs hw_u_2 hP hD hS => ?_)
  obtain rfl := hw_u_2
  have hP : va_P D classes [(h, .inr (7, [.ref a])), (a, .inl (cI, 41, .inl (cB2 z0 7)))] H := hP
  have hD : va_D A [(h, .inr (7, [.ref a])), (a, .inl (cI, 41, .inl (cB2 z0 7)))] := hD
  refine lv_topi (fun z_4 ez_4 => ?_)
  obtain rfl : z_4 = 0 := ez_4.trans (by decide +kernel)
  refine lv_iload_n hx hb dX7_bargesOfFate_16 rfl (lv_at hl 3 rfl) ?_
  refine lv_icmp_ne (tgt := 26) hx hb dX7_bargesOfFate_17 (by decide) (fun c_5 => ?_) (fun c_5 => absurd c_5 (by decide +kernel))
  refine lv_iconst (v := 0) hx hb dX7_bargesOfFate_26 (by decide) ?_
  refine lv_ior hx hb dX7_bargesOfFate_27 ?_
  refine lv_topi (fun z_6 ez_6 => ?_)
  obtain rfl : z_6 = 0 := ez_6.trans (by decide +kernel)
  refine lv_istore_n (lv' := [(2, .int 0), (3, .int 0), (0, .ref h), (1, .int 3)]) hx hb dX7_bargesOfFate_28 rfl hl (by decide) rfl (fun ls hl => ?_)
  refine lv_iinc (v := 1) (lv' := [(3, .int 1), (2, .int 0), (0, .ref h), (1, .int 3)]) hx hb dX7_bargesOfFate_29 hl (k := 1) rfl (by decide +kernel) (by decide) rfl (fun ls hl => ?_)
  refine lv_goto (tgt := 4) hx hb dX7_bargesOfFate_32 (by decide) ?_
  refine lv_iload_n hx hb dX7_bargesOfFate_4 rfl (lv_at hl 0 rfl) ?_
  refine lv_bipush (v := 7) hx hb dX7_bargesOfFate_5 (by decide) ?_
  refine lv_icmp_ge (tgt := 35) hx hb dX7_bargesOfFate_7 (by decide) (fun c_7 => absurd c_7 (by decide +kernel)) (fun c_7 => ?_)
  refine lv_iload_n hx hb dX7_bargesOfFate_10 rfl (lv_at hl 1 rfl) ?_
  refine lv_aload_n hx hb dX7_bargesOfFate_11 rfl (lv_at hl 2 rfl) ?_
  refine lv_iload_n hx hb dX7_bargesOfFate_12 rfl (lv_at hl 0 rfl) ?_
  refine cVi (wr := []) (rest := [.int 0]) (k_fateOf h a (cB2 z0 7) 1) okV_X7_fateOf wd_140 hx hb hml hown hts hK hP hD hS hA hN hl.1 [0, 1] [] rfl rfl rfl rfl (by decide) rfl rfl rfl (Nat.le_of_ble_eq_true rfl) (Nat.le_of_ble_eq_true rfl) (Nat.le_of_ble_eq_true rfl) (Nat.le_of_ble_eq_true rfl) (Nat.le_of_ble_eq_true rfl) dX7_bargesOfFate_13 (fun r_9 u_8 H locs hw_u_8 hP hD hS => ?_)
  obtain rfl := hw_u_8
  have hP : va_P D classes [(h, .inr (7, [.ref a])), (a, .inl (cI, 41, .inl (cB2 z0 7)))] H := hP
  have hD : va_D A [(h, .inr (7, [.ref a])), (a, .inl (cI, 41, .inl (cB2 z0 7)))] := hD
  refine lv_topi (fun z_10 ez_10 => ?_)
  obtain rfl : z_10 = 0 := ez_10.trans (by decide +kernel)
  refine lv_iload_n hx hb dX7_bargesOfFate_16 rfl (lv_at hl 3 rfl) ?_
  refine lv_icmp_ne (tgt := 26) hx hb dX7_bargesOfFate_17 (by decide) (fun c_11 => ?_) (fun c_11 => absurd c_11 (by decide +kernel))
  refine lv_iconst (v := 0) hx hb dX7_bargesOfFate_26 (by decide) ?_
  refine lv_ior hx hb dX7_bargesOfFate_27 ?_
  refine lv_topi (fun z_12 ez_12 => ?_)
  obtain rfl : z_12 = 0 := ez_12.trans (by decide +kernel)
  refine lv_istore_n (lv' := [(2, .int 0), (3, .int 1), (0, .ref h), (1, .int 3)]) hx hb dX7_bargesOfFate_28 rfl hl (by decide) rfl (fun ls hl => ?_)
  refine lv_iinc (v := 2) (lv' := [(3, .int 2), (2, .int 0), (0, .ref h), (1, .int 3)]) hx hb dX7_bargesOfFate_29 hl (k := 1) rfl (by decide +kernel) (by decide) rfl (fun ls hl => ?_)
  refine lv_goto (tgt := 4) hx hb dX7_bargesOfFate_32 (by decide) ?_
  refine lv_iload_n hx hb dX7_bargesOfFate_4 rfl (lv_at hl 0 rfl) ?_
  refine lv_bipush (v := 7) hx hb dX7_bargesOfFate_5 (by decide) ?_
  refine lv_icmp_ge (tgt := 35) hx hb dX7_bargesOfFate_7 (by decide) (fun c_13 => absurd c_13 (by decide +kernel)) (fun c_13 => ?_)
  refine lv_iload_n hx hb dX7_bargesOfFate_10 rfl (lv_at hl 1 rfl) ?_
  refine lv_aload_n hx hb dX7_bargesOfFate_11 rfl (lv_at hl 2 rfl) ?_
  refine lv_iload_n hx hb dX7_bargesOfFate_12 rfl (lv_at hl 0 rfl) ?_
  refine cVi (wr := []) (rest := [.int 0]) (k_fateOf h a (cB2 z0 7) 2) okV_X7_fateOf wd_140 hx hb hml hown hts hK hP hD hS hA hN hl.1 [0, 1] [] rfl rfl rfl rfl (by decide) rfl rfl rfl (Nat.le_of_ble_eq_true rfl) (Nat.le_of_ble_eq_true rfl) (Nat.le_of_ble_eq_true rfl) (Nat.le_of_ble_eq_true rfl) (Nat.le_of_ble_eq_true rfl) dX7_bargesOfFate_13 (fun r_15 u_14 H locs hw_u_14 hP hD hS => ?_)
  obtain rfl := hw_u_14
  have hP : va_P D classes [(h, .inr (7, [.ref a])), (a, .inl (cI, 41, .inl (cB2 z0 7)))] H := hP
  have hD : va_D A [(h, .inr (7, [.ref a])), (a, .inl (cI, 41, .inl (cB2 z0 7)))] := hD
  refine lv_topi (fun z_16 ez_16 => ?_)
  obtain rfl : z_16 = 0 := ez_16.trans (by decide +kernel)
  refine lv_iload_n hx hb dX7_bargesOfFate_16 rfl (lv_at hl 3 rfl) ?_
  refine lv_icmp_ne (tgt := 26) hx hb dX7_bargesOfFate_17 (by decide) (fun c_17 => ?_) (fun c_17 => absurd c_17 (by decide +kernel))
  refine lv_iconst (v := 0) hx hb dX7_bargesOfFate_26 (by decide) ?_
  refine lv_ior hx hb dX7_bargesOfFate_27 ?_
  refine lv_topi (fun z_18 ez_18 => ?_)
  obtain rfl : z_18 = 0 := ez_18.trans (by decide +kernel)
  refine lv_istore_n (lv' := [(2, .int 0), (3, .int 2), (0, .ref h), (1, .int 3)]) hx hb dX7_bargesOfFate_28 rfl hl (by decide) rfl (fun ls hl => ?_)
  refine lv_iinc (v := 3) (lv' := [(3, .int 3), (2, .int 0), (0, .ref h), (1, .int 3)]) hx hb dX7_bargesOfFate_29 hl (k := 1) rfl (by decide +kernel) (by decide) rfl (fun ls hl => ?_)
  refine lv_goto (tgt := 4) hx hb dX7_bargesOfFate_32 (by decide) ?_
  refine lv_iload_n hx hb dX7_bargesOfFate_4 rfl (lv_at hl 0 rfl) ?_
  refine lv_bipush (v := 7) hx hb dX7_bargesOfFate_5 (by decide) ?_
  refine lv_icmp_ge (tgt := 35) hx hb dX7_bargesOfFate_7 (by decide) (fun c_19 => absurd c_19 (by decide +kernel)) (fun c_19 => ?_)
  refine lv_iload_n hx hb dX7_bargesOfFate_10 rfl (lv_at hl 1 rfl) ?_
  refine lv_aload_n hx hb dX7_bargesOfFate_11 rfl (lv_at hl 2 rfl) ?_
  refine lv_iload_n hx hb dX7_bargesOfFate_12 rfl (lv_at hl 0 rfl) ?_
  refine cVi (wr := []) (rest := [.int 0]) (k_fateOf h a (cB2 z0 7) 3) okV_X7_fateOf wd_140 hx hb hml hown hts hK hP hD hS hA hN hl.1 [0, 1] [] rfl rfl rfl rfl (by decide) rfl rfl rfl (Nat.le_of_ble_eq_true rfl) (Nat.le_of_ble_eq_true rfl) (Nat.le_of_ble_eq_true rfl) (Nat.le_of_ble_eq_true rfl) (Nat.le_of_ble_eq_true rfl) dX7_bargesOfFate_13 (fun r_21 u_20 H locs hw_u_20 hP hD hS => ?_)
  obtain rfl := hw_u_20
  have hP : va_P D classes [(h, .inr (7, [.ref a])), (a, .inl (cI, 41, .inl (cB2 z0 7)))] H := hP
  have hD : va_D A [(h, .inr (7, [.ref a])), (a, .inl (cI, 41, .inl (cB2 z0 7)))] := hD
  refine lv_topi (fun z_22 ez_22 => ?_)
  obtain rfl : z_22 = 0 := ez_22.trans (by decide +kernel)
  refine lv_iload_n hx hb dX7_bargesOfFate_16 rfl (lv_at hl 3 rfl) ?_
  refine lv_icmp_ne (tgt := 26) hx hb dX7_bargesOfFate_17 (by decide) (fun c_23 => ?_) (fun c_23 => absurd c_23 (by decide +kernel))
  refine lv_iconst (v := 0) hx hb dX7_bargesOfFate_26 (by decide) ?_
  refine lv_ior hx hb dX7_bargesOfFate_27 ?_
  refine lv_topi (fun z_24 ez_24 => ?_)
  obtain rfl : z_24 = 0 := ez_24.trans (by decide +kernel)
  refine lv_istore_n (lv' := [(2, .int 0), (3, .int 3), (0, .ref h), (1, .int 3)]) hx hb dX7_bargesOfFate_28 rfl hl (by decide) rfl (fun ls hl => ?_)
  refine lv_iinc (v := 4) (lv' := [(3, .int 4), (2, .int 0), (0, .ref h), (1, .int 3)]) hx hb dX7_bargesOfFate_29 hl (k := 1) rfl (by decide +kernel) (by decide) rfl (fun ls hl => ?_)
  refine lv_goto (tgt := 4) hx hb dX7_bargesOfFate_32 (by decide) ?_
  refine lv_iload_n hx hb dX7_bargesOfFate_4 rfl (lv_at hl 0 rfl) ?_
  refine lv_bipush (v := 7) hx hb dX7_bargesOfFate_5 (by decide) ?_
  refine lv_icmp_ge (tgt := 35) hx hb dX7_bargesOfFate_7 (by decide) (fun c_25 => absurd c_25 (by decide +kernel)) (fun c_25 => ?_)
  refine lv_iload_n hx hb dX7_bargesOfFate_10 rfl (lv_at hl 1 rfl) ?_
  refine lv_aload_n hx hb dX7_bargesOfFate_11 rfl (lv_at hl 2 rfl) ?_
  refine lv_iload_n hx hb dX7_bargesOfFate_12 rfl (lv_at hl 0 rfl) ?_
  refine cVi (wr := []) (rest := [.int 0]) (k_fateOf h a (cB2 z0 7) 4) okV_X7_fateOf wd_140 hx hb hml hown hts hK hP hD hS hA hN hl.1 [0, 1] [] rfl rfl rfl rfl (by decide) rfl rfl rfl (Nat.le_of_ble_eq_true rfl) (Nat.le_of_ble_eq_true rfl) (Nat.le_of_ble_eq_true rfl) (Nat.le_of_ble_eq_true rfl) (Nat.le_of_ble_eq_true rfl) dX7_bargesOfFate_13 (fun r_27 u_26 H locs hw_u_26 hP hD hS => ?_)
  obtain rfl := hw_u_26
  have hP : va_P D classes [(h, .inr (7, [.ref a])), (a, .inl (cI, 41, .inl (cB2 z0 7)))] H := hP
  have hD : va_D A [(h, .inr (7, [.ref a])), (a, .inl (cI, 41, .inl (cB2 z0 7)))] := hD
  refine lv_topi (fun z_28 ez_28 => ?_)
  obtain rfl : z_28 = 0 := ez_28.trans (by decide +kernel)
  refine lv_iload_n hx hb dX7_bargesOfFate_16 rfl (lv_at hl 3 rfl) ?_
  refine lv_icmp_ne (tgt := 26) hx hb dX7_bargesOfFate_17 (by decide) (fun c_29 => ?_) (fun c_29 => absurd c_29 (by decide +kernel))
  refine lv_iconst (v := 0) hx hb dX7_bargesOfFate_26 (by decide) ?_
  refine lv_ior hx hb dX7_bargesOfFate_27 ?_
  refine lv_topi (fun z_30 ez_30 => ?_)
  obtain rfl : z_30 = 0 := ez_30.trans (by decide +kernel)
  refine lv_istore_n (lv' := [(2, .int 0), (3, .int 4), (0, .ref h), (1, .int 3)]) hx hb dX7_bargesOfFate_28 rfl hl (by decide) rfl (fun ls hl => ?_)
  refine lv_iinc (v := 5) (lv' := [(3, .int 5), (2, .int 0), (0, .ref h), (1, .int 3)]) hx hb dX7_bargesOfFate_29 hl (k := 1) rfl (by decide +kernel) (by decide) rfl (fun ls hl => ?_)
  refine lv_goto (tgt := 4) hx hb dX7_bargesOfFate_32 (by decide) ?_
  refine lv_iload_n hx hb dX7_bargesOfFate_4 rfl (lv_at hl 0 rfl) ?_
  refine lv_bipush (v := 7) hx hb dX7_bargesOfFate_5 (by decide) ?_
  refine lv_icmp_ge (tgt := 35) hx hb dX7_bargesOfFate_7 (by decide) (fun c_31 => absurd c_31 (by decide +kernel)) (fun c_31 => ?_)
  refine lv_iload_n hx hb dX7_bargesOfFate_10 rfl (lv_at hl 1 rfl) ?_
  refine lv_aload_n hx hb dX7_bargesOfFate_11 rfl (lv_at hl 2 rfl) ?_
  refine lv_iload_n hx hb dX7_bargesOfFate_12 rfl (lv_at hl 0 rfl) ?_
  refine cVi (wr := []) (rest := [.int 0]) (k_fateOf h a (cB2 z0 7) 5) okV_X7_fateOf wd_140 hx hb hml hown hts hK hP hD hS hA hN hl.1 [0, 1] [] rfl rfl rfl rfl (by decide) rfl rfl rfl (Nat.le_of_ble_eq_true rfl) (Nat.le_of_ble_eq_true rfl) (Nat.le_of_ble_eq_true rfl) (Nat.le_of_ble_eq_true rfl) (Nat.le_of_ble_eq_true rfl) dX7_bargesOfFate_13 (fun r_33 u_32 H locs hw_u_32 hP hD hS => ?_)
  obtain rfl := hw_u_32
  have hP : va_P D classes [(h, .inr (7, [.ref a])), (a, .inl (cI, 41, .inl (cB2 z0 7)))] H := hP
  have hD : va_D A [(h, .inr (7, [.ref a])), (a, .inl (cI, 41, .inl (cB2 z0 7)))] := hD
  refine lv_topi (fun z_34 ez_34 => ?_)
  obtain rfl : z_34 = 0 := ez_34.trans (by decide +kernel)
  refine lv_iload_n hx hb dX7_bargesOfFate_16 rfl (lv_at hl 3 rfl) ?_
  refine lv_icmp_ne (tgt := 26) hx hb dX7_bargesOfFate_17 (by decide) (fun c_35 => ?_) (fun c_35 => absurd c_35 (by decide +kernel))
  refine lv_iconst (v := 0) hx hb dX7_bargesOfFate_26 (by decide) ?_
  refine lv_ior hx hb dX7_bargesOfFate_27 ?_
  refine lv_topi (fun z_36 ez_36 => ?_)
  obtain rfl : z_36 = 0 := ez_36.trans (by decide +kernel)
  refine lv_istore_n (lv' := [(2, .int 0), (3, .int 5), (0, .ref h), (1, .int 3)]) hx hb dX7_bargesOfFate_28 rfl hl (by decide) rfl (fun ls hl => ?_)
  refine lv_iinc (v := 6) (lv' := [(3, .int 6), (2, .int 0), (0, .ref h), (1, .int 3)]) hx hb dX7_bargesOfFate_29 hl (k := 1) rfl (by decide +kernel) (by decide) rfl (fun ls hl => ?_)
  refine lv_goto (tgt := 4) hx hb dX7_bargesOfFate_32 (by decide) ?_
  refine lv_iload_n hx hb dX7_bargesOfFate_4 rfl (lv_at hl 0 rfl) ?_
  refine lv_bipush (v := 7) hx hb dX7_bargesOfFate_5 (by decide) ?_
  refine lv_icmp_ge (tgt := 35) hx hb dX7_bargesOfFate_7 (by decide) (fun c_37 => absurd c_37 (by decide +kernel)) (fun c_37 => ?_)
  refine lv_iload_n hx hb dX7_bargesOfFate_10 rfl (lv_at hl 1 rfl) ?_
  refine lv_aload_n hx hb dX7_bargesOfFate_11 rfl (lv_at hl 2 rfl) ?_
  refine lv_iload_n hx hb dX7_bargesOfFate_12 rfl (lv_at hl 0 rfl) ?_
  refine cVi (wr := []) (rest := [.int 0]) (k_fateOf h a (cB2 z0 7) 6) okV_X7_fateOf wd_140 hx hb hml hown hts hK hP hD hS hA hN hl.1 [0, 1] [] rfl rfl rfl rfl (by decide) rfl rfl rfl (Nat.le_of_ble_eq_true rfl) (Nat.le_of_ble_eq_true rfl) (Nat.le_of_ble_eq_true rfl) (Nat.le_of_ble_eq_true rfl) (Nat.le_of_ble_eq_true rfl) dX7_bargesOfFate_13 (fun r_39 u_38 H locs hw_u_38 hP hD hS => ?_)
  obtain rfl := hw_u_38
  have hP : va_P D classes [(h, .inr (7, [.ref a])), (a, .inl (cI, 41, .inl (cB2 z0 7)))] H := hP
  have hD : va_D A [(h, .inr (7, [.ref a])), (a, .inl (cI, 41, .inl (cB2 z0 7)))] := hD
  refine lv_topi (fun z_40 ez_40 => ?_)
  obtain rfl : z_40 = 0 := ez_40.trans (by decide +kernel)
  refine lv_iload_n hx hb dX7_bargesOfFate_16 rfl (lv_at hl 3 rfl) ?_
  refine lv_icmp_ne (tgt := 26) hx hb dX7_bargesOfFate_17 (by decide) (fun c_41 => ?_) (fun c_41 => absurd c_41 (by decide +kernel))
  refine lv_iconst (v := 0) hx hb dX7_bargesOfFate_26 (by decide) ?_
  refine lv_ior hx hb dX7_bargesOfFate_27 ?_
  refine lv_topi (fun z_42 ez_42 => ?_)
  obtain rfl : z_42 = 0 := ez_42.trans (by decide +kernel)
  refine lv_istore_n (lv' := [(2, .int 0), (3, .int 6), (0, .ref h), (1, .int 3)]) hx hb dX7_bargesOfFate_28 rfl hl (by decide) rfl (fun ls hl => ?_)
  refine lv_iinc (v := 7) (lv' := [(3, .int 7), (2, .int 0), (0, .ref h), (1, .int 3)]) hx hb dX7_bargesOfFate_29 hl (k := 1) rfl (by decide +kernel) (by decide) rfl (fun ls hl => ?_)
  refine lv_goto (tgt := 4) hx hb dX7_bargesOfFate_32 (by decide) ?_
  refine lv_iload_n hx hb dX7_bargesOfFate_4 rfl (lv_at hl 0 rfl) ?_
  refine lv_bipush (v := 7) hx hb dX7_bargesOfFate_5 (by decide) ?_
  refine lv_icmp_ge (tgt := 35) hx hb dX7_bargesOfFate_7 (by decide) (fun c_43 => ?_) (fun c_43 => absurd (by decide +kernel) c_43)
  refine lv_iload_n hx hb dX7_bargesOfFate_35 rfl (lv_at hl 1 rfl) ?_
  exact hret 0 () _ _ _ _ dX7_bargesOfFate_36 rfl rfl (cutP (isC := [0, 1]) hP rfl) (cutD (isC := [0, 1]) hD rfl rfl) hS
def rm_k_grievanceOfSet63 : Room := { frames := 2, cells := 0, slots := 0, locals := 42 }
set_option maxHeartbeats 4000000 in
set_option maxRecDepth 100000 in
theorem k_grievanceOfSet63 {l : Launch} {D : va_G} {cI cZ : ClassId} {sz : Nat} (h a : Nat) : KI l yX7_grievanceOfSet cX7_grievanceOfSet 4 (some .int) rm_k_grievanceOfSet63 D cI cZ [.ref h, .int 63] sz [(h, .inr (7, [.ref a])), (a, .inl (cI, 41, .inl (cB2 z0 7)))] (fun (r : Int32) (_ : Unit) => r = 0) (fun (_ : Unit) => [(h, .inr (7, [.ref a])), (a, .inl (cI, 41, .inl (cB2 z0 7)))]) := by
  refine KI.go rfl (Nat.le_of_ble_eq_true rfl) ?_
  intro p e s m args below meth c ls A Q hx hb hml hts hown hin hP hK hD hS hA hN hl hret
  have hl : lv_has ls 4 [(0, .ref h), (1, .int 63)] := hl
  refine lv_iconst (v := 0) hx hb dX7_grievanceOfSet_0 (by decide) ?_
  refine lv_istore_n (lv' := [(2, .int 0), (0, .ref h), (1, .int 63)]) hx hb dX7_grievanceOfSet_1 rfl hl (by decide) rfl (fun ls hl => ?_)
  refine lv_iconst (v := 0) hx hb dX7_grievanceOfSet_2 (by decide) ?_
  refine lv_istore_n (lv' := [(3, .int 0), (2, .int 0), (0, .ref h), (1, .int 63)]) hx hb dX7_grievanceOfSet_3 rfl hl (by decide) rfl (fun ls hl => ?_)
  refine lv_iload_n hx hb dX7_grievanceOfSet_4 rfl (lv_at hl 0 rfl) ?_
  refine lv_bipush (v := 6) hx hb dX7_grievanceOfSet_5 (by decide) ?_
  refine lv_icmp_ge (tgt := 30) hx hb dX7_grievanceOfSet_7 (by decide) (fun c_1 => absurd c_1 (by decide +kernel)) (fun c_1 => ?_)
  refine lv_iload_n hx hb dX7_grievanceOfSet_10 rfl (lv_at hl 1 rfl) ?_
  refine lv_iload_n hx hb dX7_grievanceOfSet_11 rfl (lv_at hl 3 rfl) ?_
  refine lv_iload_n hx hb dX7_grievanceOfSet_12 rfl (lv_at hl 0 rfl) ?_
  refine lv_ishr hx hb dX7_grievanceOfSet_13 ?_
  refine lv_topi (fun z_2 ez_2 => ?_)
  obtain rfl : z_2 = 63 := ez_2.trans (by decide +kernel)
  refine lv_iconst (v := 1) hx hb dX7_grievanceOfSet_14 (by decide) ?_
  refine lv_iand hx hb dX7_grievanceOfSet_15 ?_
  refine lv_topi (fun z_3 ez_3 => ?_)
  obtain rfl : z_3 = 1 := ez_3.trans (by decide +kernel)
  refine lv_aload_n hx hb dX7_grievanceOfSet_16 rfl (lv_at hl 2 rfl) ?_
  refine lv_iload_n hx hb dX7_grievanceOfSet_17 rfl (lv_at hl 0 rfl) ?_
  refine cVi (wr := []) (rest := [.int 1, .int 0]) (k_grievanceOf h a (cB2 z0 7) 0) okV_X7_grievanceOf wd_144 hx hb hml hown hts hK hP hD hS hA hN hl.1 [0, 1] [] rfl rfl rfl rfl (by decide) rfl rfl rfl (Nat.le_of_ble_eq_true rfl) (Nat.le_of_ble_eq_true rfl) (Nat.le_of_ble_eq_true rfl) (Nat.le_of_ble_eq_true rfl) (Nat.le_of_ble_eq_true rfl) dX7_grievanceOfSet_18 (fun r_5 u_4 H locs hw_u_4 hP hD hS => ?_)
  obtain rfl := hw_u_4
  have hP : va_P D classes [(h, .inr (7, [.ref a])), (a, .inl (cI, 41, .inl (cB2 z0 7)))] H := hP
  have hD : va_D A [(h, .inr (7, [.ref a])), (a, .inl (cI, 41, .inl (cB2 z0 7)))] := hD
  refine lv_topi (fun z_6 ez_6 => ?_)
  obtain rfl : z_6 = 0 := ez_6.trans (by decide +kernel)
  refine lv_imul hx hb dX7_grievanceOfSet_21 ?_
  refine lv_topi (fun z_7 ez_7 => ?_)
  obtain rfl : z_7 = 0 := ez_7.trans (by decide +kernel)
  refine lv_iadd hx hb dX7_grievanceOfSet_22 ?_
  refine lv_topi (fun z_8 ez_8 => ?_)
  obtain rfl : z_8 = 0 := ez_8.trans (by decide +kernel)
  refine lv_istore_n (lv' := [(2, .int 0), (3, .int 0), (0, .ref h), (1, .int 63)]) hx hb dX7_grievanceOfSet_23 rfl hl (by decide) rfl (fun ls hl => ?_)
  refine lv_iinc (v := 1) (lv' := [(3, .int 1), (2, .int 0), (0, .ref h), (1, .int 63)]) hx hb dX7_grievanceOfSet_24 hl (k := 1) rfl (by decide +kernel) (by decide) rfl (fun ls hl => ?_)
  refine lv_goto (tgt := 4) hx hb dX7_grievanceOfSet_27 (by decide) ?_
  refine lv_iload_n hx hb dX7_grievanceOfSet_4 rfl (lv_at hl 0 rfl) ?_
  refine lv_bipush (v := 6) hx hb dX7_grievanceOfSet_5 (by decide) ?_
  refine lv_icmp_ge (tgt := 30) hx hb dX7_grievanceOfSet_7 (by decide) (fun c_9 => absurd c_9 (by decide +kernel)) (fun c_9 => ?_)
  refine lv_iload_n hx hb dX7_grievanceOfSet_10 rfl (lv_at hl 1 rfl) ?_
  refine lv_iload_n hx hb dX7_grievanceOfSet_11 rfl (lv_at hl 3 rfl) ?_
  refine lv_iload_n hx hb dX7_grievanceOfSet_12 rfl (lv_at hl 0 rfl) ?_
  refine lv_ishr hx hb dX7_grievanceOfSet_13 ?_
  refine lv_topi (fun z_10 ez_10 => ?_)
  obtain rfl : z_10 = 31 := ez_10.trans (by decide +kernel)
  refine lv_iconst (v := 1) hx hb dX7_grievanceOfSet_14 (by decide) ?_
  refine lv_iand hx hb dX7_grievanceOfSet_15 ?_
  refine lv_topi (fun z_11 ez_11 => ?_)
  obtain rfl : z_11 = 1 := ez_11.trans (by decide +kernel)
  refine lv_aload_n hx hb dX7_grievanceOfSet_16 rfl (lv_at hl 2 rfl) ?_
  refine lv_iload_n hx hb dX7_grievanceOfSet_17 rfl (lv_at hl 0 rfl) ?_
  refine cVi (wr := []) (rest := [.int 1, .int 0]) (k_grievanceOf h a (cB2 z0 7) 1) okV_X7_grievanceOf wd_144 hx hb hml hown hts hK hP hD hS hA hN hl.1 [0, 1] [] rfl rfl rfl rfl (by decide) rfl rfl rfl (Nat.le_of_ble_eq_true rfl) (Nat.le_of_ble_eq_true rfl) (Nat.le_of_ble_eq_true rfl) (Nat.le_of_ble_eq_true rfl) (Nat.le_of_ble_eq_true rfl) dX7_grievanceOfSet_18 (fun r_13 u_12 H locs hw_u_12 hP hD hS => ?_)
  obtain rfl := hw_u_12
  have hP : va_P D classes [(h, .inr (7, [.ref a])), (a, .inl (cI, 41, .inl (cB2 z0 7)))] H := hP
  have hD : va_D A [(h, .inr (7, [.ref a])), (a, .inl (cI, 41, .inl (cB2 z0 7)))] := hD
  refine lv_topi (fun z_14 ez_14 => ?_)
  obtain rfl : z_14 = 0 := ez_14.trans (by decide +kernel)
  refine lv_imul hx hb dX7_grievanceOfSet_21 ?_
  refine lv_topi (fun z_15 ez_15 => ?_)
  obtain rfl : z_15 = 0 := ez_15.trans (by decide +kernel)
  refine lv_iadd hx hb dX7_grievanceOfSet_22 ?_
  refine lv_topi (fun z_16 ez_16 => ?_)
  obtain rfl : z_16 = 0 := ez_16.trans (by decide +kernel)
  refine lv_istore_n (lv' := [(2, .int 0), (3, .int 1), (0, .ref h), (1, .int 63)]) hx hb dX7_grievanceOfSet_23 rfl hl (by decide) rfl (fun ls hl => ?_)
  refine lv_iinc (v := 2) (lv' := [(3, .int 2), (2, .int 0), (0, .ref h), (1, .int 63)]) hx hb dX7_grievanceOfSet_24 hl (k := 1) rfl (by decide +kernel) (by decide) rfl (fun ls hl => ?_)
  refine lv_goto (tgt := 4) hx hb dX7_grievanceOfSet_27 (by decide) ?_
  refine lv_iload_n hx hb dX7_grievanceOfSet_4 rfl (lv_at hl 0 rfl) ?_
  refine lv_bipush (v := 6) hx hb dX7_grievanceOfSet_5 (by decide) ?_
  refine lv_icmp_ge (tgt := 30) hx hb dX7_grievanceOfSet_7 (by decide) (fun c_17 => absurd c_17 (by decide +kernel)) (fun c_17 => ?_)
  refine lv_iload_n hx hb dX7_grievanceOfSet_10 rfl (lv_at hl 1 rfl) ?_
  refine lv_iload_n hx hb dX7_grievanceOfSet_11 rfl (lv_at hl 3 rfl) ?_
  refine lv_iload_n hx hb dX7_grievanceOfSet_12 rfl (lv_at hl 0 rfl) ?_
  refine lv_ishr hx hb dX7_grievanceOfSet_13 ?_
  refine lv_topi (fun z_18 ez_18 => ?_)
  obtain rfl : z_18 = 15 := ez_18.trans (by decide +kernel)
  refine lv_iconst (v := 1) hx hb dX7_grievanceOfSet_14 (by decide) ?_
  refine lv_iand hx hb dX7_grievanceOfSet_15 ?_
  refine lv_topi (fun z_19 ez_19 => ?_)
  obtain rfl : z_19 = 1 := ez_19.trans (by decide +kernel)
  refine lv_aload_n hx hb dX7_grievanceOfSet_16 rfl (lv_at hl 2 rfl) ?_
  refine lv_iload_n hx hb dX7_grievanceOfSet_17 rfl (lv_at hl 0 rfl) ?_
  refine cVi (wr := []) (rest := [.int 1, .int 0]) (k_grievanceOf h a (cB2 z0 7) 2) okV_X7_grievanceOf wd_144 hx hb hml hown hts hK hP hD hS hA hN hl.1 [0, 1] [] rfl rfl rfl rfl (by decide) rfl rfl rfl (Nat.le_of_ble_eq_true rfl) (Nat.le_of_ble_eq_true rfl) (Nat.le_of_ble_eq_true rfl) (Nat.le_of_ble_eq_true rfl) (Nat.le_of_ble_eq_true rfl) dX7_grievanceOfSet_18 (fun r_21 u_20 H locs hw_u_20 hP hD hS => ?_)
  obtain rfl := hw_u_20
  have hP : va_P D classes [(h, .inr (7, [.ref a])), (a, .inl (cI, 41, .inl (cB2 z0 7)))] H := hP
  have hD : va_D A [(h, .inr (7, [.ref a])), (a, .inl (cI, 41, .inl (cB2 z0 7)))] := hD
  refine lv_topi (fun z_22 ez_22 => ?_)
  obtain rfl : z_22 = 0 := ez_22.trans (by decide +kernel)
  refine lv_imul hx hb dX7_grievanceOfSet_21 ?_
  refine lv_topi (fun z_23 ez_23 => ?_)
  obtain rfl : z_23 = 0 := ez_23.trans (by decide +kernel)
  refine lv_iadd hx hb dX7_grievanceOfSet_22 ?_
  refine lv_topi (fun z_24 ez_24 => ?_)
  obtain rfl : z_24 = 0 := ez_24.trans (by decide +kernel)
  refine lv_istore_n (lv' := [(2, .int 0), (3, .int 2), (0, .ref h), (1, .int 63)]) hx hb dX7_grievanceOfSet_23 rfl hl (by decide) rfl (fun ls hl => ?_)
  refine lv_iinc (v := 3) (lv' := [(3, .int 3), (2, .int 0), (0, .ref h), (1, .int 63)]) hx hb dX7_grievanceOfSet_24 hl (k := 1) rfl (by decide +kernel) (by decide) rfl (fun ls hl => ?_)
  refine lv_goto (tgt := 4) hx hb dX7_grievanceOfSet_27 (by decide) ?_
  refine lv_iload_n hx hb dX7_grievanceOfSet_4 rfl (lv_at hl 0 rfl) ?_
  refine lv_bipush (v := 6) hx hb dX7_grievanceOfSet_5 (by decide) ?_
  refine lv_icmp_ge (tgt := 30) hx hb dX7_grievanceOfSet_7 (by decide) (fun c_25 => absurd c_25 (by decide +kernel)) (fun c_25 => ?_)
  refine lv_iload_n hx hb dX7_grievanceOfSet_10 rfl (lv_at hl 1 rfl) ?_
  refine lv_iload_n hx hb dX7_grievanceOfSet_11 rfl (lv_at hl 3 rfl) ?_
  refine lv_iload_n hx hb dX7_grievanceOfSet_12 rfl (lv_at hl 0 rfl) ?_
  refine lv_ishr hx hb dX7_grievanceOfSet_13 ?_
  refine lv_topi (fun z_26 ez_26 => ?_)
  obtain rfl : z_26 = 7 := ez_26.trans (by decide +kernel)
  refine lv_iconst (v := 1) hx hb dX7_grievanceOfSet_14 (by decide) ?_
  refine lv_iand hx hb dX7_grievanceOfSet_15 ?_
  refine lv_topi (fun z_27 ez_27 => ?_)
  obtain rfl : z_27 = 1 := ez_27.trans (by decide +kernel)
  refine lv_aload_n hx hb dX7_grievanceOfSet_16 rfl (lv_at hl 2 rfl) ?_
  refine lv_iload_n hx hb dX7_grievanceOfSet_17 rfl (lv_at hl 0 rfl) ?_
  refine cVi (wr := []) (rest := [.int 1, .int 0]) (k_grievanceOf h a (cB2 z0 7) 3) okV_X7_grievanceOf wd_144 hx hb hml hown hts hK hP hD hS hA hN hl.1 [0, 1] [] rfl rfl rfl rfl (by decide) rfl rfl rfl (Nat.le_of_ble_eq_true rfl) (Nat.le_of_ble_eq_true rfl) (Nat.le_of_ble_eq_true rfl) (Nat.le_of_ble_eq_true rfl) (Nat.le_of_ble_eq_true rfl) dX7_grievanceOfSet_18 (fun r_29 u_28 H locs hw_u_28 hP hD hS => ?_)
  obtain rfl := hw_u_28
  have hP : va_P D classes [(h, .inr (7, [.ref a])), (a, .inl (cI, 41, .inl (cB2 z0 7)))] H := hP
  have hD : va_D A [(h, .inr (7, [.ref a])), (a, .inl (cI, 41, .inl (cB2 z0 7)))] := hD
  refine lv_topi (fun z_30 ez_30 => ?_)
  obtain rfl : z_30 = 0 := ez_30.trans (by decide +kernel)
  refine lv_imul hx hb dX7_grievanceOfSet_21 ?_
  refine lv_topi (fun z_31 ez_31 => ?_)
  obtain rfl : z_31 = 0 := ez_31.trans (by decide +kernel)
  refine lv_iadd hx hb dX7_grievanceOfSet_22 ?_
  refine lv_topi (fun z_32 ez_32 => ?_)
  obtain rfl : z_32 = 0 := ez_32.trans (by decide +kernel)
  refine lv_istore_n (lv' := [(2, .int 0), (3, .int 3), (0, .ref h), (1, .int 63)]) hx hb dX7_grievanceOfSet_23 rfl hl (by decide) rfl (fun ls hl => ?_)
  refine lv_iinc (v := 4) (lv' := [(3, .int 4), (2, .int 0), (0, .ref h), (1, .int 63)]) hx hb dX7_grievanceOfSet_24 hl (k := 1) rfl (by decide +kernel) (by decide) rfl (fun ls hl => ?_)
  refine lv_goto (tgt := 4) hx hb dX7_grievanceOfSet_27 (by decide) ?_
  refine lv_iload_n hx hb dX7_grievanceOfSet_4 rfl (lv_at hl 0 rfl) ?_
  refine lv_bipush (v := 6) hx hb dX7_grievanceOfSet_5 (by decide) ?_
  refine lv_icmp_ge (tgt := 30) hx hb dX7_grievanceOfSet_7 (by decide) (fun c_33 => absurd c_33 (by decide +kernel)) (fun c_33 => ?_)
  refine lv_iload_n hx hb dX7_grievanceOfSet_10 rfl (lv_at hl 1 rfl) ?_
  refine lv_iload_n hx hb dX7_grievanceOfSet_11 rfl (lv_at hl 3 rfl) ?_
  refine lv_iload_n hx hb dX7_grievanceOfSet_12 rfl (lv_at hl 0 rfl) ?_
  refine lv_ishr hx hb dX7_grievanceOfSet_13 ?_
  refine lv_topi (fun z_34 ez_34 => ?_)
  obtain rfl : z_34 = 3 := ez_34.trans (by decide +kernel)
  refine lv_iconst (v := 1) hx hb dX7_grievanceOfSet_14 (by decide) ?_
  refine lv_iand hx hb dX7_grievanceOfSet_15 ?_
  refine lv_topi (fun z_35 ez_35 => ?_)
  obtain rfl : z_35 = 1 := ez_35.trans (by decide +kernel)
  refine lv_aload_n hx hb dX7_grievanceOfSet_16 rfl (lv_at hl 2 rfl) ?_
  refine lv_iload_n hx hb dX7_grievanceOfSet_17 rfl (lv_at hl 0 rfl) ?_
  refine cVi (wr := []) (rest := [.int 1, .int 0]) (k_grievanceOf h a (cB2 z0 7) 4) okV_X7_grievanceOf wd_144 hx hb hml hown hts hK hP hD hS hA hN hl.1 [0, 1] [] rfl rfl rfl rfl (by decide) rfl rfl rfl (Nat.le_of_ble_eq_true rfl) (Nat.le_of_ble_eq_true rfl) (Nat.le_of_ble_eq_true rfl) (Nat.le_of_ble_eq_true rfl) (Nat.le_of_ble_eq_true rfl) dX7_grievanceOfSet_18 (fun r_37 u_36 H locs hw_u_36 hP hD hS => ?_)
  obtain rfl := hw_u_36
  have hP : va_P D classes [(h, .inr (7, [.ref a])), (a, .inl (cI, 41, .inl (cB2 z0 7)))] H := hP
  have hD : va_D A [(h, .inr (7, [.ref a])), (a, .inl (cI, 41, .inl (cB2 z0 7)))] := hD
  refine lv_topi (fun z_38 ez_38 => ?_)
  obtain rfl : z_38 = 0 := ez_38.trans (by decide +kernel)
  refine lv_imul hx hb dX7_grievanceOfSet_21 ?_
  refine lv_topi (fun z_39 ez_39 => ?_)
  obtain rfl : z_39 = 0 := ez_39.trans (by decide +kernel)
  refine lv_iadd hx hb dX7_grievanceOfSet_22 ?_
  refine lv_topi (fun z_40 ez_40 => ?_)
  obtain rfl : z_40 = 0 := ez_40.trans (by decide +kernel)
  refine lv_istore_n (lv' := [(2, .int 0), (3, .int 4), (0, .ref h), (1, .int 63)]) hx hb dX7_grievanceOfSet_23 rfl hl (by decide) rfl (fun ls hl => ?_)
  refine lv_iinc (v := 5) (lv' := [(3, .int 5), (2, .int 0), (0, .ref h), (1, .int 63)]) hx hb dX7_grievanceOfSet_24 hl (k := 1) rfl (by decide +kernel) (by decide) rfl (fun ls hl => ?_)
  refine lv_goto (tgt := 4) hx hb dX7_grievanceOfSet_27 (by decide) ?_
  refine lv_iload_n hx hb dX7_grievanceOfSet_4 rfl (lv_at hl 0 rfl) ?_
  refine lv_bipush (v := 6) hx hb dX7_grievanceOfSet_5 (by decide) ?_
  refine lv_icmp_ge (tgt := 30) hx hb dX7_grievanceOfSet_7 (by decide) (fun c_41 => absurd c_41 (by decide +kernel)) (fun c_41 => ?_)
  refine lv_iload_n hx hb dX7_grievanceOfSet_10 rfl (lv_at hl 1 rfl) ?_
  refine lv_iload_n hx hb dX7_grievanceOfSet_11 rfl (lv_at hl 3 rfl) ?_
  refine lv_iload_n hx hb dX7_grievanceOfSet_12 rfl (lv_at hl 0 rfl) ?_
  refine lv_ishr hx hb dX7_grievanceOfSet_13 ?_
  refine lv_topi (fun z_42 ez_42 => ?_)
  obtain rfl : z_42 = 1 := ez_42.trans (by decide +kernel)
  refine lv_iconst (v := 1) hx hb dX7_grievanceOfSet_14 (by decide) ?_
  refine lv_iand hx hb dX7_grievanceOfSet_15 ?_
  refine lv_topi (fun z_43 ez_43 => ?_)
  obtain rfl : z_43 = 1 := ez_43.trans (by decide +kernel)
  refine lv_aload_n hx hb dX7_grievanceOfSet_16 rfl (lv_at hl 2 rfl) ?_
  refine lv_iload_n hx hb dX7_grievanceOfSet_17 rfl (lv_at hl 0 rfl) ?_
  refine cVi (wr := []) (rest := [.int 1, .int 0]) (k_grievanceOf h a (cB2 z0 7) 5) okV_X7_grievanceOf wd_144 hx hb hml hown hts hK hP hD hS hA hN hl.1 [0, 1] [] rfl rfl rfl rfl (by decide) rfl rfl rfl (Nat.le_of_ble_eq_true rfl) (Nat.le_of_ble_eq_true rfl) (Nat.le_of_ble_eq_true rfl) (Nat.le_of_ble_eq_true rfl) (Nat.le_of_ble_eq_true rfl) dX7_grievanceOfSet_18 (fun r_45 u_44 H locs hw_u_44 hP hD hS => ?_)
  obtain rfl := hw_u_44
  have hP : va_P D classes [(h, .inr (7, [.ref a])), (a, .inl (cI, 41, .inl (cB2 z0 7)))] H := hP
  have hD : va_D A [(h, .inr (7, [.ref a])), (a, .inl (cI, 41, .inl (cB2 z0 7)))] := hD
  refine lv_topi (fun z_46 ez_46 => ?_)
  obtain rfl : z_46 = 0 := ez_46.trans (by decide +kernel)
  refine lv_imul hx hb dX7_grievanceOfSet_21 ?_
  refine lv_topi (fun z_47 ez_47 => ?_)
  obtain rfl : z_47 = 0 := ez_47.trans (by decide +kernel)
  refine lv_iadd hx hb dX7_grievanceOfSet_22 ?_
  refine lv_topi (fun z_48 ez_48 => ?_)
  obtain rfl : z_48 = 0 := ez_48.trans (by decide +kernel)
  refine lv_istore_n (lv' := [(2, .int 0), (3, .int 5), (0, .ref h), (1, .int 63)]) hx hb dX7_grievanceOfSet_23 rfl hl (by decide) rfl (fun ls hl => ?_)
  refine lv_iinc (v := 6) (lv' := [(3, .int 6), (2, .int 0), (0, .ref h), (1, .int 63)]) hx hb dX7_grievanceOfSet_24 hl (k := 1) rfl (by decide +kernel) (by decide) rfl (fun ls hl => ?_)
  refine lv_goto (tgt := 4) hx hb dX7_grievanceOfSet_27 (by decide) ?_
  refine lv_iload_n hx hb dX7_grievanceOfSet_4 rfl (lv_at hl 0 rfl) ?_
  refine lv_bipush (v := 6) hx hb dX7_grievanceOfSet_5 (by decide) ?_
  refine lv_icmp_ge (tgt := 30) hx hb dX7_grievanceOfSet_7 (by decide) (fun c_49 => ?_) (fun c_49 => absurd (by decide +kernel) c_49)
  refine lv_iload_n hx hb dX7_grievanceOfSet_30 rfl (lv_at hl 1 rfl) ?_
  exact hret 0 () _ _ _ _ dX7_grievanceOfSet_31 rfl rfl (cutP (isC := [0, 1]) hP rfl) (cutD (isC := [0, 1]) hD rfl rfl) hS
def rm_k_grievanceOfSet0 : Room := { frames := 2, cells := 0, slots := 0, locals := 42 }
set_option maxHeartbeats 4000000 in
set_option maxRecDepth 100000 in
theorem k_grievanceOfSet0 {l : Launch} {D : va_G} {cI cZ : ClassId} {sz : Nat} (h a : Nat) : KI l yX7_grievanceOfSet cX7_grievanceOfSet 4 (some .int) rm_k_grievanceOfSet0 D cI cZ [.ref h, .int 0] sz [(h, .inr (7, [.ref a])), (a, .inl (cI, 41, .inl (cB2 z0 7)))] (fun (r : Int32) (_ : Unit) => r = 0) (fun (_ : Unit) => [(h, .inr (7, [.ref a])), (a, .inl (cI, 41, .inl (cB2 z0 7)))]) := by
  refine KI.go rfl (Nat.le_of_ble_eq_true rfl) ?_
  intro p e s m args below meth c ls A Q hx hb hml hts hown hin hP hK hD hS hA hN hl hret
  have hl : lv_has ls 4 [(0, .ref h), (1, .int 0)] := hl
  refine lv_iconst (v := 0) hx hb dX7_grievanceOfSet_0 (by decide) ?_
  refine lv_istore_n (lv' := [(2, .int 0), (0, .ref h), (1, .int 0)]) hx hb dX7_grievanceOfSet_1 rfl hl (by decide) rfl (fun ls hl => ?_)
  refine lv_iconst (v := 0) hx hb dX7_grievanceOfSet_2 (by decide) ?_
  refine lv_istore_n (lv' := [(3, .int 0), (2, .int 0), (0, .ref h), (1, .int 0)]) hx hb dX7_grievanceOfSet_3 rfl hl (by decide) rfl (fun ls hl => ?_)
  refine lv_iload_n hx hb dX7_grievanceOfSet_4 rfl (lv_at hl 0 rfl) ?_
  refine lv_bipush (v := 6) hx hb dX7_grievanceOfSet_5 (by decide) ?_
  refine lv_icmp_ge (tgt := 30) hx hb dX7_grievanceOfSet_7 (by decide) (fun c_1 => absurd c_1 (by decide +kernel)) (fun c_1 => ?_)
  refine lv_iload_n hx hb dX7_grievanceOfSet_10 rfl (lv_at hl 1 rfl) ?_
  refine lv_iload_n hx hb dX7_grievanceOfSet_11 rfl (lv_at hl 3 rfl) ?_
  refine lv_iload_n hx hb dX7_grievanceOfSet_12 rfl (lv_at hl 0 rfl) ?_
  refine lv_ishr hx hb dX7_grievanceOfSet_13 ?_
  refine lv_topi (fun z_2 ez_2 => ?_)
  obtain rfl : z_2 = 0 := ez_2.trans (by decide +kernel)
  refine lv_iconst (v := 1) hx hb dX7_grievanceOfSet_14 (by decide) ?_
  refine lv_iand hx hb dX7_grievanceOfSet_15 ?_
  refine lv_topi (fun z_3 ez_3 => ?_)
  obtain rfl : z_3 = 0 := ez_3.trans (by decide +kernel)
  refine lv_aload_n hx hb dX7_grievanceOfSet_16 rfl (lv_at hl 2 rfl) ?_
  refine lv_iload_n hx hb dX7_grievanceOfSet_17 rfl (lv_at hl 0 rfl) ?_
  refine cVi (wr := []) (rest := [.int 0, .int 0]) (k_grievanceOf h a (cB2 z0 7) 0) okV_X7_grievanceOf wd_144 hx hb hml hown hts hK hP hD hS hA hN hl.1 [0, 1] [] rfl rfl rfl rfl (by decide) rfl rfl rfl (Nat.le_of_ble_eq_true rfl) (Nat.le_of_ble_eq_true rfl) (Nat.le_of_ble_eq_true rfl) (Nat.le_of_ble_eq_true rfl) (Nat.le_of_ble_eq_true rfl) dX7_grievanceOfSet_18 (fun r_5 u_4 H locs hw_u_4 hP hD hS => ?_)
  obtain rfl := hw_u_4
  have hP : va_P D classes [(h, .inr (7, [.ref a])), (a, .inl (cI, 41, .inl (cB2 z0 7)))] H := hP
  have hD : va_D A [(h, .inr (7, [.ref a])), (a, .inl (cI, 41, .inl (cB2 z0 7)))] := hD
  refine lv_topi (fun z_6 ez_6 => ?_)
  obtain rfl : z_6 = 0 := ez_6.trans (by decide +kernel)
  refine lv_imul hx hb dX7_grievanceOfSet_21 ?_
  refine lv_topi (fun z_7 ez_7 => ?_)
  obtain rfl : z_7 = 0 := ez_7.trans (by decide +kernel)
  refine lv_iadd hx hb dX7_grievanceOfSet_22 ?_
  refine lv_topi (fun z_8 ez_8 => ?_)
  obtain rfl : z_8 = 0 := ez_8.trans (by decide +kernel)
  refine lv_istore_n (lv' := [(2, .int 0), (3, .int 0), (0, .ref h), (1, .int 0)]) hx hb dX7_grievanceOfSet_23 rfl hl (by decide) rfl (fun ls hl => ?_)
  refine lv_iinc (v := 1) (lv' := [(3, .int 1), (2, .int 0), (0, .ref h), (1, .int 0)]) hx hb dX7_grievanceOfSet_24 hl (k := 1) rfl (by decide +kernel) (by decide) rfl (fun ls hl => ?_)
  refine lv_goto (tgt := 4) hx hb dX7_grievanceOfSet_27 (by decide) ?_
  refine lv_iload_n hx hb dX7_grievanceOfSet_4 rfl (lv_at hl 0 rfl) ?_
  refine lv_bipush (v := 6) hx hb dX7_grievanceOfSet_5 (by decide) ?_
  refine lv_icmp_ge (tgt := 30) hx hb dX7_grievanceOfSet_7 (by decide) (fun c_9 => absurd c_9 (by decide +kernel)) (fun c_9 => ?_)
  refine lv_iload_n hx hb dX7_grievanceOfSet_10 rfl (lv_at hl 1 rfl) ?_
  refine lv_iload_n hx hb dX7_grievanceOfSet_11 rfl (lv_at hl 3 rfl) ?_
  refine lv_iload_n hx hb dX7_grievanceOfSet_12 rfl (lv_at hl 0 rfl) ?_
  refine lv_ishr hx hb dX7_grievanceOfSet_13 ?_
  refine lv_topi (fun z_10 ez_10 => ?_)
  obtain rfl : z_10 = 0 := ez_10.trans (by decide +kernel)
  refine lv_iconst (v := 1) hx hb dX7_grievanceOfSet_14 (by decide) ?_
  refine lv_iand hx hb dX7_grievanceOfSet_15 ?_
  refine lv_topi (fun z_11 ez_11 => ?_)
  obtain rfl : z_11 = 0 := ez_11.trans (by decide +kernel)
  refine lv_aload_n hx hb dX7_grievanceOfSet_16 rfl (lv_at hl 2 rfl) ?_
  refine lv_iload_n hx hb dX7_grievanceOfSet_17 rfl (lv_at hl 0 rfl) ?_
  refine cVi (wr := []) (rest := [.int 0, .int 0]) (k_grievanceOf h a (cB2 z0 7) 1) okV_X7_grievanceOf wd_144 hx hb hml hown hts hK hP hD hS hA hN hl.1 [0, 1] [] rfl rfl rfl rfl (by decide) rfl rfl rfl (Nat.le_of_ble_eq_true rfl) (Nat.le_of_ble_eq_true rfl) (Nat.le_of_ble_eq_true rfl) (Nat.le_of_ble_eq_true rfl) (Nat.le_of_ble_eq_true rfl) dX7_grievanceOfSet_18 (fun r_13 u_12 H locs hw_u_12 hP hD hS => ?_)
  obtain rfl := hw_u_12
  have hP : va_P D classes [(h, .inr (7, [.ref a])), (a, .inl (cI, 41, .inl (cB2 z0 7)))] H := hP
  have hD : va_D A [(h, .inr (7, [.ref a])), (a, .inl (cI, 41, .inl (cB2 z0 7)))] := hD
  refine lv_topi (fun z_14 ez_14 => ?_)
  obtain rfl : z_14 = 0 := ez_14.trans (by decide +kernel)
  refine lv_imul hx hb dX7_grievanceOfSet_21 ?_
  refine lv_topi (fun z_15 ez_15 => ?_)
  obtain rfl : z_15 = 0 := ez_15.trans (by decide +kernel)
  refine lv_iadd hx hb dX7_grievanceOfSet_22 ?_
  refine lv_topi (fun z_16 ez_16 => ?_)
  obtain rfl : z_16 = 0 := ez_16.trans (by decide +kernel)
  refine lv_istore_n (lv' := [(2, .int 0), (3, .int 1), (0, .ref h), (1, .int 0)]) hx hb dX7_grievanceOfSet_23 rfl hl (by decide) rfl (fun ls hl => ?_)
  refine lv_iinc (v := 2) (lv' := [(3, .int 2), (2, .int 0), (0, .ref h), (1, .int 0)]) hx hb dX7_grievanceOfSet_24 hl (k := 1) rfl (by decide +kernel) (by decide) rfl (fun ls hl => ?_)
  refine lv_goto (tgt := 4) hx hb dX7_grievanceOfSet_27 (by decide) ?_
  refine lv_iload_n hx hb dX7_grievanceOfSet_4 rfl (lv_at hl 0 rfl) ?_
  refine lv_bipush (v := 6) hx hb dX7_grievanceOfSet_5 (by decide) ?_
  refine lv_icmp_ge (tgt := 30) hx hb dX7_grievanceOfSet_7 (by decide) (fun c_17 => absurd c_17 (by decide +kernel)) (fun c_17 => ?_)
  refine lv_iload_n hx hb dX7_grievanceOfSet_10 rfl (lv_at hl 1 rfl) ?_
  refine lv_iload_n hx hb dX7_grievanceOfSet_11 rfl (lv_at hl 3 rfl) ?_
  refine lv_iload_n hx hb dX7_grievanceOfSet_12 rfl (lv_at hl 0 rfl) ?_
  refine lv_ishr hx hb dX7_grievanceOfSet_13 ?_
  refine lv_topi (fun z_18 ez_18 => ?_)
  obtain rfl : z_18 = 0 := ez_18.trans (by decide +kernel)
  refine lv_iconst (v := 1) hx hb dX7_grievanceOfSet_14 (by decide) ?_
  refine lv_iand hx hb dX7_grievanceOfSet_15 ?_
  refine lv_topi (fun z_19 ez_19 => ?_)
  obtain rfl : z_19 = 0 := ez_19.trans (by decide +kernel)
  refine lv_aload_n hx hb dX7_grievanceOfSet_16 rfl (lv_at hl 2 rfl) ?_
  refine lv_iload_n hx hb dX7_grievanceOfSet_17 rfl (lv_at hl 0 rfl) ?_
  refine cVi (wr := []) (rest := [.int 0, .int 0]) (k_grievanceOf h a (cB2 z0 7) 2) okV_X7_grievanceOf wd_144 hx hb hml hown hts hK hP hD hS hA hN hl.1 [0, 1] [] rfl rfl rfl rfl (by decide) rfl rfl rfl (Nat.le_of_ble_eq_true rfl) (Nat.le_of_ble_eq_true rfl) (Nat.le_of_ble_eq_true rfl) (Nat.le_of_ble_eq_true rfl) (Nat.le_of_ble_eq_true rfl) dX7_grievanceOfSet_18 (fun r_21 u_20 H locs hw_u_20 hP hD hS => ?_)
  obtain rfl := hw_u_20
  have hP : va_P D classes [(h, .inr (7, [.ref a])), (a, .inl (cI, 41, .inl (cB2 z0 7)))] H := hP
  have hD : va_D A [(h, .inr (7, [.ref a])), (a, .inl (cI, 41, .inl (cB2 z0 7)))] := hD
  refine lv_topi (fun z_22 ez_22 => ?_)
  obtain rfl : z_22 = 0 := ez_22.trans (by decide +kernel)
  refine lv_imul hx hb dX7_grievanceOfSet_21 ?_
  refine lv_topi (fun z_23 ez_23 => ?_)
  obtain rfl : z_23 = 0 := ez_23.trans (by decide +kernel)
  refine lv_iadd hx hb dX7_grievanceOfSet_22 ?_
  refine lv_topi (fun z_24 ez_24 => ?_)
  obtain rfl : z_24 = 0 := ez_24.trans (by decide +kernel)
  refine lv_istore_n (lv' := [(2, .int 0), (3, .int 2), (0, .ref h), (1, .int 0)]) hx hb dX7_grievanceOfSet_23 rfl hl (by decide) rfl (fun ls hl => ?_)
  refine lv_iinc (v := 3) (lv' := [(3, .int 3), (2, .int 0), (0, .ref h), (1, .int 0)]) hx hb dX7_grievanceOfSet_24 hl (k := 1) rfl (by decide +kernel) (by decide) rfl (fun ls hl => ?_)
  refine lv_goto (tgt := 4) hx hb dX7_grievanceOfSet_27 (by decide) ?_
  refine lv_iload_n hx hb dX7_grievanceOfSet_4 rfl (lv_at hl 0 rfl) ?_
  refine lv_bipush (v := 6) hx hb dX7_grievanceOfSet_5 (by decide) ?_
  refine lv_icmp_ge (tgt := 30) hx hb dX7_grievanceOfSet_7 (by decide) (fun c_25 => absurd c_25 (by decide +kernel)) (fun c_25 => ?_)
  refine lv_iload_n hx hb dX7_grievanceOfSet_10 rfl (lv_at hl 1 rfl) ?_
  refine lv_iload_n hx hb dX7_grievanceOfSet_11 rfl (lv_at hl 3 rfl) ?_
  refine lv_iload_n hx hb dX7_grievanceOfSet_12 rfl (lv_at hl 0 rfl) ?_
  refine lv_ishr hx hb dX7_grievanceOfSet_13 ?_
  refine lv_topi (fun z_26 ez_26 => ?_)
  obtain rfl : z_26 = 0 := ez_26.trans (by decide +kernel)
  refine lv_iconst (v := 1) hx hb dX7_grievanceOfSet_14 (by decide) ?_
  refine lv_iand hx hb dX7_grievanceOfSet_15 ?_
  refine lv_topi (fun z_27 ez_27 => ?_)
  obtain rfl : z_27 = 0 := ez_27.trans (by decide +kernel)
  refine lv_aload_n hx hb dX7_grievanceOfSet_16 rfl (lv_at hl 2 rfl) ?_
  refine lv_iload_n hx hb dX7_grievanceOfSet_17 rfl (lv_at hl 0 rfl) ?_
  refine cVi (wr := []) (rest := [.int 0, .int 0]) (k_grievanceOf h a (cB2 z0 7) 3) okV_X7_grievanceOf wd_144 hx hb hml hown hts hK hP hD hS hA hN hl.1 [0, 1] [] rfl rfl rfl rfl (by decide) rfl rfl rfl (Nat.le_of_ble_eq_true rfl) (Nat.le_of_ble_eq_true rfl) (Nat.le_of_ble_eq_true rfl) (Nat.le_of_ble_eq_true rfl) (Nat.le_of_ble_eq_true rfl) dX7_grievanceOfSet_18 (fun r_29 u_28 H locs hw_u_28 hP hD hS => ?_)
  obtain rfl := hw_u_28
  have hP : va_P D classes [(h, .inr (7, [.ref a])), (a, .inl (cI, 41, .inl (cB2 z0 7)))] H := hP
  have hD : va_D A [(h, .inr (7, [.ref a])), (a, .inl (cI, 41, .inl (cB2 z0 7)))] := hD
  refine lv_topi (fun z_30 ez_30 => ?_)
  obtain rfl : z_30 = 0 := ez_30.trans (by decide +kernel)
  refine lv_imul hx hb dX7_grievanceOfSet_21 ?_
  refine lv_topi (fun z_31 ez_31 => ?_)
  obtain rfl : z_31 = 0 := ez_31.trans (by decide +kernel)
  refine lv_iadd hx hb dX7_grievanceOfSet_22 ?_
  refine lv_topi (fun z_32 ez_32 => ?_)
  obtain rfl : z_32 = 0 := ez_32.trans (by decide +kernel)
  refine lv_istore_n (lv' := [(2, .int 0), (3, .int 3), (0, .ref h), (1, .int 0)]) hx hb dX7_grievanceOfSet_23 rfl hl (by decide) rfl (fun ls hl => ?_)
  refine lv_iinc (v := 4) (lv' := [(3, .int 4), (2, .int 0), (0, .ref h), (1, .int 0)]) hx hb dX7_grievanceOfSet_24 hl (k := 1) rfl (by decide +kernel) (by decide) rfl (fun ls hl => ?_)
  refine lv_goto (tgt := 4) hx hb dX7_grievanceOfSet_27 (by decide) ?_
  refine lv_iload_n hx hb dX7_grievanceOfSet_4 rfl (lv_at hl 0 rfl) ?_
  refine lv_bipush (v := 6) hx hb dX7_grievanceOfSet_5 (by decide) ?_
  refine lv_icmp_ge (tgt := 30) hx hb dX7_grievanceOfSet_7 (by decide) (fun c_33 => absurd c_33 (by decide +kernel)) (fun c_33 => ?_)
  refine lv_iload_n hx hb dX7_grievanceOfSet_10 rfl (lv_at hl 1 rfl) ?_
  refine lv_iload_n hx hb dX7_grievanceOfSet_11 rfl (lv_at hl 3 rfl) ?_
  refine lv_iload_n hx hb dX7_grievanceOfSet_12 rfl (lv_at hl 0 rfl) ?_
  refine lv_ishr hx hb dX7_grievanceOfSet_13 ?_
  refine lv_topi (fun z_34 ez_34 => ?_)
  obtain rfl : z_34 = 0 := ez_34.trans (by decide +kernel)
  refine lv_iconst (v := 1) hx hb dX7_grievanceOfSet_14 (by decide) ?_
  refine lv_iand hx hb dX7_grievanceOfSet_15 ?_
  refine lv_topi (fun z_35 ez_35 => ?_)
  obtain rfl : z_35 = 0 := ez_35.trans (by decide +kernel)
  refine lv_aload_n hx hb dX7_grievanceOfSet_16 rfl (lv_at hl 2 rfl) ?_
  refine lv_iload_n hx hb dX7_grievanceOfSet_17 rfl (lv_at hl 0 rfl) ?_
  refine cVi (wr := []) (rest := [.int 0, .int 0]) (k_grievanceOf h a (cB2 z0 7) 4) okV_X7_grievanceOf wd_144 hx hb hml hown hts hK hP hD hS hA hN hl.1 [0, 1] [] rfl rfl rfl rfl (by decide) rfl rfl rfl (Nat.le_of_ble_eq_true rfl) (Nat.le_of_ble_eq_true rfl) (Nat.le_of_ble_eq_true rfl) (Nat.le_of_ble_eq_true rfl) (Nat.le_of_ble_eq_true rfl) dX7_grievanceOfSet_18 (fun r_37 u_36 H locs hw_u_36 hP hD hS => ?_)
  obtain rfl := hw_u_36
  have hP : va_P D classes [(h, .inr (7, [.ref a])), (a, .inl (cI, 41, .inl (cB2 z0 7)))] H := hP
  have hD : va_D A [(h, .inr (7, [.ref a])), (a, .inl (cI, 41, .inl (cB2 z0 7)))] := hD
  refine lv_topi (fun z_38 ez_38 => ?_)
  obtain rfl : z_38 = 0 := ez_38.trans (by decide +kernel)
  refine lv_imul hx hb dX7_grievanceOfSet_21 ?_
  refine lv_topi (fun z_39 ez_39 => ?_)
  obtain rfl : z_39 = 0 := ez_39.trans (by decide +kernel)
  refine lv_iadd hx hb dX7_grievanceOfSet_22 ?_
  refine lv_topi (fun z_40 ez_40 => ?_)
  obtain rfl : z_40 = 0 := ez_40.trans (by decide +kernel)
  refine lv_istore_n (lv' := [(2, .int 0), (3, .int 4), (0, .ref h), (1, .int 0)]) hx hb dX7_grievanceOfSet_23 rfl hl (by decide) rfl (fun ls hl => ?_)
  refine lv_iinc (v := 5) (lv' := [(3, .int 5), (2, .int 0), (0, .ref h), (1, .int 0)]) hx hb dX7_grievanceOfSet_24 hl (k := 1) rfl (by decide +kernel) (by decide) rfl (fun ls hl => ?_)
  refine lv_goto (tgt := 4) hx hb dX7_grievanceOfSet_27 (by decide) ?_
  refine lv_iload_n hx hb dX7_grievanceOfSet_4 rfl (lv_at hl 0 rfl) ?_
  refine lv_bipush (v := 6) hx hb dX7_grievanceOfSet_5 (by decide) ?_
  refine lv_icmp_ge (tgt := 30) hx hb dX7_grievanceOfSet_7 (by decide) (fun c_41 => absurd c_41 (by decide +kernel)) (fun c_41 => ?_)
  refine lv_iload_n hx hb dX7_grievanceOfSet_10 rfl (lv_at hl 1 rfl) ?_
  refine lv_iload_n hx hb dX7_grievanceOfSet_11 rfl (lv_at hl 3 rfl) ?_
  refine lv_iload_n hx hb dX7_grievanceOfSet_12 rfl (lv_at hl 0 rfl) ?_
  refine lv_ishr hx hb dX7_grievanceOfSet_13 ?_
  refine lv_topi (fun z_42 ez_42 => ?_)
  obtain rfl : z_42 = 0 := ez_42.trans (by decide +kernel)
  refine lv_iconst (v := 1) hx hb dX7_grievanceOfSet_14 (by decide) ?_
  refine lv_iand hx hb dX7_grievanceOfSet_15 ?_
  refine lv_topi (fun z_43 ez_43 => ?_)
  obtain rfl : z_43 = 0 := ez_43.trans (by decide +kernel)
  refine lv_aload_n hx hb dX7_grievanceOfSet_16 rfl (lv_at hl 2 rfl) ?_
  refine lv_iload_n hx hb dX7_grievanceOfSet_17 rfl (lv_at hl 0 rfl) ?_
  refine cVi (wr := []) (rest := [.int 0, .int 0]) (k_grievanceOf h a (cB2 z0 7) 5) okV_X7_grievanceOf wd_144 hx hb hml hown hts hK hP hD hS hA hN hl.1 [0, 1] [] rfl rfl rfl rfl (by decide) rfl rfl rfl (Nat.le_of_ble_eq_true rfl) (Nat.le_of_ble_eq_true rfl) (Nat.le_of_ble_eq_true rfl) (Nat.le_of_ble_eq_true rfl) (Nat.le_of_ble_eq_true rfl) dX7_grievanceOfSet_18 (fun r_45 u_44 H locs hw_u_44 hP hD hS => ?_)
  obtain rfl := hw_u_44
  have hP : va_P D classes [(h, .inr (7, [.ref a])), (a, .inl (cI, 41, .inl (cB2 z0 7)))] H := hP
  have hD : va_D A [(h, .inr (7, [.ref a])), (a, .inl (cI, 41, .inl (cB2 z0 7)))] := hD
  refine lv_topi (fun z_46 ez_46 => ?_)
  obtain rfl : z_46 = 0 := ez_46.trans (by decide +kernel)
  refine lv_imul hx hb dX7_grievanceOfSet_21 ?_
  refine lv_topi (fun z_47 ez_47 => ?_)
  obtain rfl : z_47 = 0 := ez_47.trans (by decide +kernel)
  refine lv_iadd hx hb dX7_grievanceOfSet_22 ?_
  refine lv_topi (fun z_48 ez_48 => ?_)
  obtain rfl : z_48 = 0 := ez_48.trans (by decide +kernel)
  refine lv_istore_n (lv' := [(2, .int 0), (3, .int 5), (0, .ref h), (1, .int 0)]) hx hb dX7_grievanceOfSet_23 rfl hl (by decide) rfl (fun ls hl => ?_)
  refine lv_iinc (v := 6) (lv' := [(3, .int 6), (2, .int 0), (0, .ref h), (1, .int 0)]) hx hb dX7_grievanceOfSet_24 hl (k := 1) rfl (by decide +kernel) (by decide) rfl (fun ls hl => ?_)
  refine lv_goto (tgt := 4) hx hb dX7_grievanceOfSet_27 (by decide) ?_
  refine lv_iload_n hx hb dX7_grievanceOfSet_4 rfl (lv_at hl 0 rfl) ?_
  refine lv_bipush (v := 6) hx hb dX7_grievanceOfSet_5 (by decide) ?_
  refine lv_icmp_ge (tgt := 30) hx hb dX7_grievanceOfSet_7 (by decide) (fun c_49 => ?_) (fun c_49 => absurd (by decide +kernel) c_49)
  refine lv_iload_n hx hb dX7_grievanceOfSet_30 rfl (lv_at hl 1 rfl) ?_
  exact hret 0 () _ _ _ _ dX7_grievanceOfSet_31 rfl rfl (cutP (isC := [0, 1]) hP rfl) (cutD (isC := [0, 1]) hD rfl rfl) hS
def rm_k_grievanceOfAll : Room := { frames := 3, cells := 0, slots := 0, locals := 65 }
set_option maxHeartbeats 4000000 in
set_option maxRecDepth 100000 in
theorem k_grievanceOfAll {l : Launch} {D : va_G} {cI cZ : ClassId} {sz : Nat} (h a : Nat) : KI l yX7_grievanceOfAll cX7_grievanceOfAll 1 (some .int) rm_k_grievanceOfAll D cI cZ [.ref h] sz [(h, .inr (7, [.ref a])), (a, .inl (cI, 41, .inl (cB2 z0 7)))] (fun (r : Int32) (_ : Unit) => r = 0) (fun (_ : Unit) => [(h, .inr (7, [.ref a])), (a, .inl (cI, 41, .inl (cB2 z0 7)))]) := by
  refine KI.go rfl (Nat.le_of_ble_eq_true rfl) ?_
  intro p e s m args below meth c ls A Q hx hb hml hts hown hin hP hK hD hS hA hN hl hret
  have hl : lv_has ls 1 [(0, .ref h)] := hl
  refine lv_aload_n hx hb dX7_grievanceOfAll_0 rfl (lv_at hl 0 rfl) ?_
  refine lv_bipush (v := 63) hx hb dX7_grievanceOfAll_1 (by decide) ?_
  refine cVi (wr := []) (rest := []) (k_grievanceOfSet63 h a) okV_X7_grievanceOfSet wd_148 hx hb hml hown hts hK hP hD hS hA hN hl.1 [0, 1] [] rfl rfl rfl rfl (by decide) rfl rfl rfl (Nat.le_of_ble_eq_true rfl) (Nat.le_of_ble_eq_true rfl) (Nat.le_of_ble_eq_true rfl) (Nat.le_of_ble_eq_true rfl) (Nat.le_of_ble_eq_true rfl) dX7_grievanceOfAll_3 (fun r_2 u_1 H locs hw_u_1 hP hD hS => ?_)
  obtain rfl := hw_u_1
  have hP : va_P D classes [(h, .inr (7, [.ref a])), (a, .inl (cI, 41, .inl (cB2 z0 7)))] H := hP
  have hD : va_D A [(h, .inr (7, [.ref a])), (a, .inl (cI, 41, .inl (cB2 z0 7)))] := hD
  exact hret 0 () _ _ _ _ dX7_grievanceOfAll_6 rfl rfl (cutP (isC := [0, 1]) hP rfl) (cutD (isC := [0, 1]) hD rfl rfl) hS
def rm_k_coupleAt0 : Room := { frames := 2, cells := 0, slots := 0, locals := 42 }
set_option maxHeartbeats 4000000 in
set_option maxRecDepth 100000 in
theorem k_coupleAt0 {l : Launch} {D : va_G} {cI cZ : ClassId} {sz : Nat} (h a : Nat) : KI l yX7_coupleAt cX7_coupleAt 3 (some .int) rm_k_coupleAt0 D cI cZ [.ref h, .int 0] sz [(h, .inr (7, [.ref a])), (a, .inl (cI, 41, .inl (cB2 z0 7)))] (fun (r : Int32) (_ : Unit) => r = (-1)) (fun (_ : Unit) => [(h, .inr (7, [.ref a])), (a, .inl (cI, 41, .inl (cB2 z0 7)))]) := by
  refine KI.go rfl (Nat.le_of_ble_eq_true rfl) ?_
  intro p e s m args below meth c ls A Q hx hb hml hts hown hin hP hK hD hS hA hN hl hret
  have hl : lv_has ls 3 [(0, .ref h), (1, .int 0)] := hl
  refine lv_iconst (v := 0) hx hb dX7_coupleAt_0 (by decide) ?_
  refine lv_istore_n (lv' := [(2, .int 0), (0, .ref h), (1, .int 0)]) hx hb dX7_coupleAt_1 rfl hl (by decide) rfl (fun ls hl => ?_)
  refine lv_iload_n hx hb dX7_coupleAt_2 rfl (lv_at hl 0 rfl) ?_
  refine lv_bipush (v := 6) hx hb dX7_coupleAt_3 (by decide) ?_
  refine lv_icmp_ge (tgt := 25) hx hb dX7_coupleAt_5 (by decide) (fun c_1 => absurd c_1 (by decide +kernel)) (fun c_1 => ?_)
  refine lv_aload_n hx hb dX7_coupleAt_8 rfl (lv_at hl 1 rfl) ?_
  refine lv_iload_n hx hb dX7_coupleAt_9 rfl (lv_at hl 0 rfl) ?_
  refine cVi (wr := []) (rest := []) (k_bridgeOf h a (cB2 z0 7) 0) okV_X7_bridgeOf wd_152 hx hb hml hown hts hK hP hD hS hA hN hl.1 [0, 1] [] rfl rfl rfl rfl (by decide) rfl rfl rfl (Nat.le_of_ble_eq_true rfl) (Nat.le_of_ble_eq_true rfl) (Nat.le_of_ble_eq_true rfl) (Nat.le_of_ble_eq_true rfl) (Nat.le_of_ble_eq_true rfl) dX7_coupleAt_10 (fun r_3 u_2 H locs hw_u_2 hP hD hS => ?_)
  obtain rfl := hw_u_2
  have hP : va_P D classes [(h, .inr (7, [.ref a])), (a, .inl (cI, 41, .inl (cB2 z0 7)))] H := hP
  have hD : va_D A [(h, .inr (7, [.ref a])), (a, .inl (cI, 41, .inl (cB2 z0 7)))] := hD
  refine lv_topi (fun z_4 ez_4 => ?_)
  obtain rfl : z_4 = (-1) := ez_4.trans (by decide +kernel)
  refine lv_iload_n hx hb dX7_coupleAt_13 rfl (lv_at hl 2 rfl) ?_
  refine lv_icmp_ne (tgt := 19) hx hb dX7_coupleAt_14 (by decide) (fun c_5 => ?_) (fun c_5 => absurd c_5 (by decide +kernel))
  refine lv_iinc (v := 1) (lv' := [(2, .int 1), (0, .ref h), (1, .int 0)]) hx hb dX7_coupleAt_19 hl (k := 0) rfl (by decide +kernel) (by decide) rfl (fun ls hl => ?_)
  refine lv_goto (tgt := 2) hx hb dX7_coupleAt_22 (by decide) ?_
  refine lv_iload_n hx hb dX7_coupleAt_2 rfl (lv_at hl 0 rfl) ?_
  refine lv_bipush (v := 6) hx hb dX7_coupleAt_3 (by decide) ?_
  refine lv_icmp_ge (tgt := 25) hx hb dX7_coupleAt_5 (by decide) (fun c_6 => absurd c_6 (by decide +kernel)) (fun c_6 => ?_)
  refine lv_aload_n hx hb dX7_coupleAt_8 rfl (lv_at hl 1 rfl) ?_
  refine lv_iload_n hx hb dX7_coupleAt_9 rfl (lv_at hl 0 rfl) ?_
  refine cVi (wr := []) (rest := []) (k_bridgeOf h a (cB2 z0 7) 1) okV_X7_bridgeOf wd_152 hx hb hml hown hts hK hP hD hS hA hN hl.1 [0, 1] [] rfl rfl rfl rfl (by decide) rfl rfl rfl (Nat.le_of_ble_eq_true rfl) (Nat.le_of_ble_eq_true rfl) (Nat.le_of_ble_eq_true rfl) (Nat.le_of_ble_eq_true rfl) (Nat.le_of_ble_eq_true rfl) dX7_coupleAt_10 (fun r_8 u_7 H locs hw_u_7 hP hD hS => ?_)
  obtain rfl := hw_u_7
  have hP : va_P D classes [(h, .inr (7, [.ref a])), (a, .inl (cI, 41, .inl (cB2 z0 7)))] H := hP
  have hD : va_D A [(h, .inr (7, [.ref a])), (a, .inl (cI, 41, .inl (cB2 z0 7)))] := hD
  refine lv_topi (fun z_9 ez_9 => ?_)
  obtain rfl : z_9 = (-1) := ez_9.trans (by decide +kernel)
  refine lv_iload_n hx hb dX7_coupleAt_13 rfl (lv_at hl 2 rfl) ?_
  refine lv_icmp_ne (tgt := 19) hx hb dX7_coupleAt_14 (by decide) (fun c_10 => ?_) (fun c_10 => absurd c_10 (by decide +kernel))
  refine lv_iinc (v := 2) (lv' := [(2, .int 2), (0, .ref h), (1, .int 0)]) hx hb dX7_coupleAt_19 hl (k := 0) rfl (by decide +kernel) (by decide) rfl (fun ls hl => ?_)
  refine lv_goto (tgt := 2) hx hb dX7_coupleAt_22 (by decide) ?_
  refine lv_iload_n hx hb dX7_coupleAt_2 rfl (lv_at hl 0 rfl) ?_
  refine lv_bipush (v := 6) hx hb dX7_coupleAt_3 (by decide) ?_
  refine lv_icmp_ge (tgt := 25) hx hb dX7_coupleAt_5 (by decide) (fun c_11 => absurd c_11 (by decide +kernel)) (fun c_11 => ?_)
  refine lv_aload_n hx hb dX7_coupleAt_8 rfl (lv_at hl 1 rfl) ?_
  refine lv_iload_n hx hb dX7_coupleAt_9 rfl (lv_at hl 0 rfl) ?_
  refine cVi (wr := []) (rest := []) (k_bridgeOf h a (cB2 z0 7) 2) okV_X7_bridgeOf wd_152 hx hb hml hown hts hK hP hD hS hA hN hl.1 [0, 1] [] rfl rfl rfl rfl (by decide) rfl rfl rfl (Nat.le_of_ble_eq_true rfl) (Nat.le_of_ble_eq_true rfl) (Nat.le_of_ble_eq_true rfl) (Nat.le_of_ble_eq_true rfl) (Nat.le_of_ble_eq_true rfl) dX7_coupleAt_10 (fun r_13 u_12 H locs hw_u_12 hP hD hS => ?_)
  obtain rfl := hw_u_12
  have hP : va_P D classes [(h, .inr (7, [.ref a])), (a, .inl (cI, 41, .inl (cB2 z0 7)))] H := hP
  have hD : va_D A [(h, .inr (7, [.ref a])), (a, .inl (cI, 41, .inl (cB2 z0 7)))] := hD
  refine lv_topi (fun z_14 ez_14 => ?_)
  obtain rfl : z_14 = (-1) := ez_14.trans (by decide +kernel)
  refine lv_iload_n hx hb dX7_coupleAt_13 rfl (lv_at hl 2 rfl) ?_
  refine lv_icmp_ne (tgt := 19) hx hb dX7_coupleAt_14 (by decide) (fun c_15 => ?_) (fun c_15 => absurd c_15 (by decide +kernel))
  refine lv_iinc (v := 3) (lv' := [(2, .int 3), (0, .ref h), (1, .int 0)]) hx hb dX7_coupleAt_19 hl (k := 0) rfl (by decide +kernel) (by decide) rfl (fun ls hl => ?_)
  refine lv_goto (tgt := 2) hx hb dX7_coupleAt_22 (by decide) ?_
  refine lv_iload_n hx hb dX7_coupleAt_2 rfl (lv_at hl 0 rfl) ?_
  refine lv_bipush (v := 6) hx hb dX7_coupleAt_3 (by decide) ?_
  refine lv_icmp_ge (tgt := 25) hx hb dX7_coupleAt_5 (by decide) (fun c_16 => absurd c_16 (by decide +kernel)) (fun c_16 => ?_)
  refine lv_aload_n hx hb dX7_coupleAt_8 rfl (lv_at hl 1 rfl) ?_
  refine lv_iload_n hx hb dX7_coupleAt_9 rfl (lv_at hl 0 rfl) ?_
  refine cVi (wr := []) (rest := []) (k_bridgeOf h a (cB2 z0 7) 3) okV_X7_bridgeOf wd_152 hx hb hml hown hts hK hP hD hS hA hN hl.1 [0, 1] [] rfl rfl rfl rfl (by decide) rfl rfl rfl (Nat.le_of_ble_eq_true rfl) (Nat.le_of_ble_eq_true rfl) (Nat.le_of_ble_eq_true rfl) (Nat.le_of_ble_eq_true rfl) (Nat.le_of_ble_eq_true rfl) dX7_coupleAt_10 (fun r_18 u_17 H locs hw_u_17 hP hD hS => ?_)
  obtain rfl := hw_u_17
  have hP : va_P D classes [(h, .inr (7, [.ref a])), (a, .inl (cI, 41, .inl (cB2 z0 7)))] H := hP
  have hD : va_D A [(h, .inr (7, [.ref a])), (a, .inl (cI, 41, .inl (cB2 z0 7)))] := hD
  refine lv_topi (fun z_19 ez_19 => ?_)
  obtain rfl : z_19 = (-1) := ez_19.trans (by decide +kernel)
  refine lv_iload_n hx hb dX7_coupleAt_13 rfl (lv_at hl 2 rfl) ?_
  refine lv_icmp_ne (tgt := 19) hx hb dX7_coupleAt_14 (by decide) (fun c_20 => ?_) (fun c_20 => absurd c_20 (by decide +kernel))
  refine lv_iinc (v := 4) (lv' := [(2, .int 4), (0, .ref h), (1, .int 0)]) hx hb dX7_coupleAt_19 hl (k := 0) rfl (by decide +kernel) (by decide) rfl (fun ls hl => ?_)
  refine lv_goto (tgt := 2) hx hb dX7_coupleAt_22 (by decide) ?_
  refine lv_iload_n hx hb dX7_coupleAt_2 rfl (lv_at hl 0 rfl) ?_
  refine lv_bipush (v := 6) hx hb dX7_coupleAt_3 (by decide) ?_
  refine lv_icmp_ge (tgt := 25) hx hb dX7_coupleAt_5 (by decide) (fun c_21 => absurd c_21 (by decide +kernel)) (fun c_21 => ?_)
  refine lv_aload_n hx hb dX7_coupleAt_8 rfl (lv_at hl 1 rfl) ?_
  refine lv_iload_n hx hb dX7_coupleAt_9 rfl (lv_at hl 0 rfl) ?_
  refine cVi (wr := []) (rest := []) (k_bridgeOf h a (cB2 z0 7) 4) okV_X7_bridgeOf wd_152 hx hb hml hown hts hK hP hD hS hA hN hl.1 [0, 1] [] rfl rfl rfl rfl (by decide) rfl rfl rfl (Nat.le_of_ble_eq_true rfl) (Nat.le_of_ble_eq_true rfl) (Nat.le_of_ble_eq_true rfl) (Nat.le_of_ble_eq_true rfl) (Nat.le_of_ble_eq_true rfl) dX7_coupleAt_10 (fun r_23 u_22 H locs hw_u_22 hP hD hS => ?_)
  obtain rfl := hw_u_22
  have hP : va_P D classes [(h, .inr (7, [.ref a])), (a, .inl (cI, 41, .inl (cB2 z0 7)))] H := hP
  have hD : va_D A [(h, .inr (7, [.ref a])), (a, .inl (cI, 41, .inl (cB2 z0 7)))] := hD
  refine lv_topi (fun z_24 ez_24 => ?_)
  obtain rfl : z_24 = (-1) := ez_24.trans (by decide +kernel)
  refine lv_iload_n hx hb dX7_coupleAt_13 rfl (lv_at hl 2 rfl) ?_
  refine lv_icmp_ne (tgt := 19) hx hb dX7_coupleAt_14 (by decide) (fun c_25 => ?_) (fun c_25 => absurd c_25 (by decide +kernel))
  refine lv_iinc (v := 5) (lv' := [(2, .int 5), (0, .ref h), (1, .int 0)]) hx hb dX7_coupleAt_19 hl (k := 0) rfl (by decide +kernel) (by decide) rfl (fun ls hl => ?_)
  refine lv_goto (tgt := 2) hx hb dX7_coupleAt_22 (by decide) ?_
  refine lv_iload_n hx hb dX7_coupleAt_2 rfl (lv_at hl 0 rfl) ?_
  refine lv_bipush (v := 6) hx hb dX7_coupleAt_3 (by decide) ?_
  refine lv_icmp_ge (tgt := 25) hx hb dX7_coupleAt_5 (by decide) (fun c_26 => absurd c_26 (by decide +kernel)) (fun c_26 => ?_)
  refine lv_aload_n hx hb dX7_coupleAt_8 rfl (lv_at hl 1 rfl) ?_
  refine lv_iload_n hx hb dX7_coupleAt_9 rfl (lv_at hl 0 rfl) ?_
  refine cVi (wr := []) (rest := []) (k_bridgeOf h a (cB2 z0 7) 5) okV_X7_bridgeOf wd_152 hx hb hml hown hts hK hP hD hS hA hN hl.1 [0, 1] [] rfl rfl rfl rfl (by decide) rfl rfl rfl (Nat.le_of_ble_eq_true rfl) (Nat.le_of_ble_eq_true rfl) (Nat.le_of_ble_eq_true rfl) (Nat.le_of_ble_eq_true rfl) (Nat.le_of_ble_eq_true rfl) dX7_coupleAt_10 (fun r_28 u_27 H locs hw_u_27 hP hD hS => ?_)
  obtain rfl := hw_u_27
  have hP : va_P D classes [(h, .inr (7, [.ref a])), (a, .inl (cI, 41, .inl (cB2 z0 7)))] H := hP
  have hD : va_D A [(h, .inr (7, [.ref a])), (a, .inl (cI, 41, .inl (cB2 z0 7)))] := hD
  refine lv_topi (fun z_29 ez_29 => ?_)
  obtain rfl : z_29 = (-1) := ez_29.trans (by decide +kernel)
  refine lv_iload_n hx hb dX7_coupleAt_13 rfl (lv_at hl 2 rfl) ?_
  refine lv_icmp_ne (tgt := 19) hx hb dX7_coupleAt_14 (by decide) (fun c_30 => ?_) (fun c_30 => absurd c_30 (by decide +kernel))
  refine lv_iinc (v := 6) (lv' := [(2, .int 6), (0, .ref h), (1, .int 0)]) hx hb dX7_coupleAt_19 hl (k := 0) rfl (by decide +kernel) (by decide) rfl (fun ls hl => ?_)
  refine lv_goto (tgt := 2) hx hb dX7_coupleAt_22 (by decide) ?_
  refine lv_iload_n hx hb dX7_coupleAt_2 rfl (lv_at hl 0 rfl) ?_
  refine lv_bipush (v := 6) hx hb dX7_coupleAt_3 (by decide) ?_
  refine lv_icmp_ge (tgt := 25) hx hb dX7_coupleAt_5 (by decide) (fun c_31 => ?_) (fun c_31 => absurd (by decide +kernel) c_31)
  refine lv_iconst (v := (-1)) hx hb dX7_coupleAt_25 (by decide) ?_
  exact hret (-1) () _ _ _ _ dX7_coupleAt_26 rfl rfl (cutP (isC := [0, 1]) hP rfl) (cutD (isC := [0, 1]) hD rfl rfl) hS
def rm_k_needOfAll : Room := { frames := 0, cells := 0, slots := 0, locals := 0 }
set_option maxHeartbeats 4000000 in
set_option maxRecDepth 100000 in
theorem k_needOfAll {l : Launch} {D : va_G} {cI cZ : ClassId} {sz : Nat} (t : Nat) (ta tb tc td te : Nat) : KI l yX8_needOfAll cX8_needOfAll 3 (some .int) rm_k_needOfAll D cI cZ [.ref t] sz [(t, .inr (8, [.int 0, .int 1, .int 0, .int 0, .int 0, .ref ta, .ref tb, .ref tc, .ref td, .ref te]))] (fun (r : Int32) (_ : Unit) => r = 0) (fun (_ : Unit) => [(t, .inr (8, [.int 0, .int 1, .int 0, .int 0, .int 0, .ref ta, .ref tb, .ref tc, .ref td, .ref te]))]) := by
  refine KI.go rfl (Nat.le_of_ble_eq_true rfl) ?_
  intro p e s m args below meth c ls A Q hx hb hml hts hown hin hP hK hD hS hA hN hl hret
  have hl : lv_has ls 3 [(0, .ref t)] := hl
  refine lv_iconst (v := 0) hx hb dX8_needOfAll_0 (by decide) ?_
  refine lv_istore_n (lv' := [(1, .int 0), (0, .ref t)]) hx hb dX8_needOfAll_1 rfl hl (by decide) rfl (fun ls hl => ?_)
  refine lv_iconst (v := 0) hx hb dX8_needOfAll_2 (by decide) ?_
  refine lv_istore_n (lv' := [(2, .int 0), (1, .int 0), (0, .ref t)]) hx hb dX8_needOfAll_3 rfl hl (by decide) rfl (fun ls hl => ?_)
  refine lv_iload_n hx hb dX8_needOfAll_4 rfl (lv_at hl 0 rfl) ?_
  refine lv_aload_n hx hb dX8_needOfAll_5 rfl (lv_at hl 2 rfl) ?_
  refine va_get (D := D) (ci := 8) (v := .int 0) (C := RX8) (T := TX8) (N := 10) hx hb hts iX8 hown hK hP 0 rfl rfl 0 (by decide) (hts _ wd_3) (fun _ h9 => h9) rfl dX8_needOfAll_6 ?_
  refine lv_icmp_ge (tgt := 29) hx hb dX8_needOfAll_9 (by decide) (fun c_1 => ?_) (fun c_1 => absurd (by decide +kernel) c_1)
  refine lv_iload_n hx hb dX8_needOfAll_29 rfl (lv_at hl 1 rfl) ?_
  exact hret 0 () _ _ _ _ dX8_needOfAll_30 rfl rfl hP hD hS
def rm_k_clear : Room := { frames := 0, cells := 0, slots := 0, locals := 0 }
set_option maxHeartbeats 4000000 in
set_option maxRecDepth 100000 in
theorem k_clear {l : Launch} {D : va_G} {cI cZ : ClassId} {sz : Nat} (t : Nat) (t0 t1 t2 t3 t4 : Int32) (ta tb tc td te : Nat) : KV l yX8_clear cX8_clear 1 rm_k_clear D cI cZ [.ref t] sz [(t, .inr (8, [.int t0, .int t1, .int t2, .int t3, .int t4, .ref ta, .ref tb, .ref tc, .ref td, .ref te]))] (fun (_ : Unit) => True) (fun (_ : Unit) => [(t, .inr (8, [.int 0, .int 1, .int 0, .int 0, .int 0, .ref ta, .ref tb, .ref tc, .ref td, .ref te]))]) := by
  refine KV.go rfl (Nat.le_of_ble_eq_true rfl) ?_
  intro p e s m args below meth c ls A Q hx hb hml hts hown hin hP hK hD hS hA hN hl hret
  have hl : lv_has ls 1 [(0, .ref t)] := hl
  refine lv_aload_n hx hb dX8_clear_0 rfl (lv_at hl 0 rfl) ?_
  refine lv_iconst (v := 0) hx hb dX8_clear_1 (by decide) ?_
  refine va_put (D := D) (ci := 8) (v := .int 0) (ty := .int) (C := RX8) (T := TX8) (N := 10) hx hb hts iX8 tyX8 tyX8_ok nmX8 hown hK hP hD hS 0 rfl rfl 0 (by decide) (hts _ wd_3) (fun _ h9 => h9) rfl (by decide +kernel) rfl rfl (Nat.le_of_ble_eq_true rfl) dX8_clear_2 (fun H locs hP hD hS => ?_)
  have hP : va_P D classes [(t, .inr (8, [.int 0, .int t1, .int t2, .int t3, .int t4, .ref ta, .ref tb, .ref tc, .ref td, .ref te]))] H := hP
  have hD : va_D A [(t, .inr (8, [.int 0, .int t1, .int t2, .int t3, .int t4, .ref ta, .ref tb, .ref tc, .ref td, .ref te]))] := hD
  refine lv_aload_n hx hb dX8_clear_5 rfl (lv_at hl 0 rfl) ?_
  refine lv_iconst (v := 1) hx hb dX8_clear_6 (by decide) ?_
  refine va_put (D := D) (ci := 8) (v := .int 1) (ty := .int) (C := RX8) (T := TX8) (N := 10) hx hb hts iX8 tyX8 tyX8_ok nmX8 hown hK hP hD hS 0 rfl rfl 1 (by decide) (hts _ wd_4) (fun _ h9 => h9) rfl (by decide +kernel) rfl rfl (Nat.le_of_ble_eq_true rfl) dX8_clear_7 (fun H locs hP hD hS => ?_)
  have hP : va_P D classes [(t, .inr (8, [.int 0, .int 1, .int t2, .int t3, .int t4, .ref ta, .ref tb, .ref tc, .ref td, .ref te]))] H := hP
  have hD : va_D A [(t, .inr (8, [.int 0, .int 1, .int t2, .int t3, .int t4, .ref ta, .ref tb, .ref tc, .ref td, .ref te]))] := hD
  refine lv_aload_n hx hb dX8_clear_10 rfl (lv_at hl 0 rfl) ?_
  refine lv_iconst (v := 0) hx hb dX8_clear_11 (by decide) ?_
  refine va_put (D := D) (ci := 8) (v := .int 0) (ty := .int) (C := RX8) (T := TX8) (N := 10) hx hb hts iX8 tyX8 tyX8_ok nmX8 hown hK hP hD hS 0 rfl rfl 2 (by decide) (hts _ wd_5) (fun _ h9 => h9) rfl (by decide +kernel) rfl rfl (Nat.le_of_ble_eq_true rfl) dX8_clear_12 (fun H locs hP hD hS => ?_)
  have hP : va_P D classes [(t, .inr (8, [.int 0, .int 1, .int 0, .int t3, .int t4, .ref ta, .ref tb, .ref tc, .ref td, .ref te]))] H := hP
  have hD : va_D A [(t, .inr (8, [.int 0, .int 1, .int 0, .int t3, .int t4, .ref ta, .ref tb, .ref tc, .ref td, .ref te]))] := hD
  refine lv_aload_n hx hb dX8_clear_15 rfl (lv_at hl 0 rfl) ?_
  refine lv_iconst (v := 0) hx hb dX8_clear_16 (by decide) ?_
  refine va_put (D := D) (ci := 8) (v := .int 0) (ty := .int) (C := RX8) (T := TX8) (N := 10) hx hb hts iX8 tyX8 tyX8_ok nmX8 hown hK hP hD hS 0 rfl rfl 3 (by decide) (hts _ wd_6) (fun _ h9 => h9) rfl (by decide +kernel) rfl rfl (Nat.le_of_ble_eq_true rfl) dX8_clear_17 (fun H locs hP hD hS => ?_)
  have hP : va_P D classes [(t, .inr (8, [.int 0, .int 1, .int 0, .int 0, .int t4, .ref ta, .ref tb, .ref tc, .ref td, .ref te]))] H := hP
  have hD : va_D A [(t, .inr (8, [.int 0, .int 1, .int 0, .int 0, .int t4, .ref ta, .ref tb, .ref tc, .ref td, .ref te]))] := hD
  refine lv_aload_n hx hb dX8_clear_20 rfl (lv_at hl 0 rfl) ?_
  refine lv_iconst (v := 0) hx hb dX8_clear_21 (by decide) ?_
  refine va_put (D := D) (ci := 8) (v := .int 0) (ty := .int) (C := RX8) (T := TX8) (N := 10) hx hb hts iX8 tyX8 tyX8_ok nmX8 hown hK hP hD hS 0 rfl rfl 4 (by decide) (hts _ wd_7) (fun _ h9 => h9) rfl (by decide +kernel) rfl rfl (Nat.le_of_ble_eq_true rfl) dX8_clear_22 (fun H locs hP hD hS => ?_)
  have hP : va_P D classes [(t, .inr (8, [.int 0, .int 1, .int 0, .int 0, .int 0, .ref ta, .ref tb, .ref tc, .ref td, .ref te]))] H := hP
  have hD : va_D A [(t, .inr (8, [.int 0, .int 1, .int 0, .int 0, .int 0, .ref ta, .ref tb, .ref tc, .ref td, .ref te]))] := hD
  exact hret () _ _ _ _ dX8_clear_25 trivial hP hD hS
def rm_k_forget : Room := { frames := 0, cells := 0, slots := 0, locals := 0 }
set_option maxHeartbeats 4000000 in
set_option maxRecDepth 100000 in
theorem k_forget {l : Launch} {D : va_G} {cI cZ : ClassId} {sz : Nat} (t : Nat) (t0 t1 : Int32) (ta : Nat) : KV l yX2_forget cX2_forget 1 rm_k_forget D cI cZ [.ref t] sz [(t, .inr (2, [.ref ta, .int t0, .int t1]))] (fun (_ : Unit) => True) (fun (_ : Unit) => [(t, .inr (2, [.ref ta, .int t0, .int 0]))]) := by
  refine KV.go rfl (Nat.le_of_ble_eq_true rfl) ?_
  intro p e s m args below meth c ls A Q hx hb hml hts hown hin hP hK hD hS hA hN hl hret
  have hl : lv_has ls 1 [(0, .ref t)] := hl
  refine lv_aload_n hx hb dX2_forget_0 rfl (lv_at hl 0 rfl) ?_
  refine lv_iconst (v := 0) hx hb dX2_forget_1 (by decide) ?_
  refine va_put (D := D) (ci := 2) (v := .int 0) (ty := .int) (C := RX2) (T := TX2) (N := 3) hx hb hts iX2 tyX2 tyX2_ok nmX2 hown hK hP hD hS 0 rfl rfl 2 (by decide) (hts _ wd_65) (fun _ h9 => h9) rfl (by decide +kernel) rfl rfl (Nat.le_of_ble_eq_true rfl) dX2_forget_2 (fun H locs hP hD hS => ?_)
  have hP : va_P D classes [(t, .inr (2, [.ref ta, .int t0, .int 0]))] H := hP
  have hD : va_D A [(t, .inr (2, [.ref ta, .int t0, .int 0]))] := hD
  exact hret () _ _ _ _ dX2_forget_5 trivial hP hD hS
def rm_k_bookclear : Room := { frames := 0, cells := 0, slots := 0, locals := 0 }
set_option maxHeartbeats 4000000 in
set_option maxRecDepth 100000 in
theorem k_bookclear {l : Launch} {D : va_G} {cI cZ : ClassId} {sz : Nat} (t : Nat) (t0 : Int32) (ta tb : Nat) : KV l yX0_clear cX0_clear 1 rm_k_bookclear D cI cZ [.ref t] sz [(t, .inr (0, [.int t0, .ref ta, .ref tb]))] (fun (_ : Unit) => True) (fun (_ : Unit) => [(t, .inr (0, [.int 0, .ref ta, .ref tb]))]) := by
  refine KV.go rfl (Nat.le_of_ble_eq_true rfl) ?_
  intro p e s m args below meth c ls A Q hx hb hml hts hown hin hP hK hD hS hA hN hl hret
  have hl : lv_has ls 1 [(0, .ref t)] := hl
  refine lv_aload_n hx hb dX0_clear_0 rfl (lv_at hl 0 rfl) ?_
  refine lv_iconst (v := 0) hx hb dX0_clear_1 (by decide) ?_
  refine va_put (D := D) (ci := 0) (v := .int 0) (ty := .int) (C := RX0) (T := TX0) (N := 3) hx hb hts iX0 tyX0 tyX0_ok nmX0 hown hK hP hD hS 0 rfl rfl 0 (by decide) (hts _ wd_17) (fun _ h9 => h9) rfl (by decide +kernel) rfl rfl (Nat.le_of_ble_eq_true rfl) dX0_clear_2 (fun H locs hP hD hS => ?_)
  have hP : va_P D classes [(t, .inr (0, [.int 0, .ref ta, .ref tb]))] H := hP
  have hD : va_D A [(t, .inr (0, [.int 0, .ref ta, .ref tb]))] := hD
  exact hret () _ _ _ _ dX0_clear_5 trivial hP hD hS
def rm_k_letter : Room := { frames := 0, cells := 0, slots := 0, locals := 0 }
set_option maxHeartbeats 4000000 in
set_option maxRecDepth 100000 in
theorem k_letter {l : Launch} {D : va_G} {cI cZ : ClassId} {sz : Nat} (h x : Nat) (f : Nat → Int32) : KI l yX5_letter cX5_letter 1 (some .int) rm_k_letter D cI cZ [.ref h] sz [(h, .inr (5, [.int 0, .int (-1), .ref x, .int 0, .int 0, .int 0, .int 0])), (x, .inl (cI, 240, .inl f))] (fun (r : Int32) (_ : Unit) => r = (-1)) (fun (_ : Unit) => [(h, .inr (5, [.int 0, .int (-1), .ref x, .int 0, .int 0, .int 0, .int 0])), (x, .inl (cI, 240, .inl f))]) := by
  refine KI.go rfl (Nat.le_of_ble_eq_true rfl) ?_
  intro p e s m args below meth c ls A Q hx hb hml hts hown hin hP hK hD hS hA hN hl hret
  have hl : lv_has ls 1 [(0, .ref h)] := hl
  refine lv_aload_n hx hb dX5_letter_0 rfl (lv_at hl 0 rfl) ?_
  refine va_get (D := D) (ci := 5) (v := .int 0) (C := RX5) (T := TX5) (N := 7) hx hb hts iX5 hown hK hP 0 rfl rfl 4 (by decide) (hts _ wd_46) (fun _ h9 => h9) rfl dX5_letter_1 ?_
  refine lv_if_lt (tgt := 42) hx hb dX5_letter_4 (by decide) (fun c_1 => absurd c_1 (by decide +kernel)) (fun c_1 => ?_)
  refine lv_aload_n hx hb dX5_letter_7 rfl (lv_at hl 0 rfl) ?_
  refine va_get (D := D) (ci := 5) (v := .int 0) (C := RX5) (T := TX5) (N := 7) hx hb hts iX5 hown hK hP 0 rfl rfl 4 (by decide) (hts _ wd_46) (fun _ h9 => h9) rfl dX5_letter_8 ?_
  refine lv_aload_n hx hb dX5_letter_11 rfl (lv_at hl 0 rfl) ?_
  refine va_get (D := D) (ci := 5) (v := .int 0) (C := RX5) (T := TX5) (N := 7) hx hb hts iX5 hown hK hP 0 rfl rfl 3 (by decide) (hts _ wd_45) (fun _ h9 => h9) rfl dX5_letter_12 ?_
  refine lv_icmp_ge (tgt := 42) hx hb dX5_letter_15 (by decide) (fun c_2 => ?_) (fun c_2 => absurd (by decide +kernel) c_2)
  refine lv_iconst (v := (-1)) hx hb dX5_letter_42 (by decide) ?_
  exact hret (-1) () _ _ _ _ dX5_letter_43 rfl rfl hP hD hS
def rm_k_next : Room := { frames := 1, cells := 0, slots := 0, locals := 20 }
set_option maxHeartbeats 4000000 in
set_option maxRecDepth 100000 in
theorem k_next {l : Launch} {D : va_G} {cI cZ : ClassId} {sz : Nat} (h x : Nat) (f : Nat → Int32) : KI l yX5_next cX5_next 2 (some .int) rm_k_next D cI cZ [.ref h] sz [(h, .inr (5, [.int 0, .int (-1), .ref x, .int 0, .int 0, .int 0, .int 0])), (x, .inl (cI, 240, .inl f))] (fun (r : Int32) (_ : Unit) => r = (-1)) (fun (_ : Unit) => [(h, .inr (5, [.int 0, .int (-1), .ref x, .int 0, .int 0, .int 0, .int 0])), (x, .inl (cI, 240, .inl f))]) := by
  refine KI.go rfl (Nat.le_of_ble_eq_true rfl) ?_
  intro p e s m args below meth c ls A Q hx hb hml hts hown hin hP hK hD hS hA hN hl hret
  have hl : lv_has ls 2 [(0, .ref h)] := hl
  refine lv_iconst (v := 0) hx hb dX5_next_0 (by decide) ?_
  refine lv_istore_n (lv' := [(1, .int 0), (0, .ref h)]) hx hb dX5_next_1 rfl hl (by decide) rfl (fun ls hl => ?_)
  refine lv_iload_n hx hb dX5_next_2 rfl (lv_at hl 0 rfl) ?_
  refine lv_sipush (v := 240) hx hb dX5_next_3 (by decide) ?_
  refine lv_icmp_ge (tgt := 34) hx hb dX5_next_6 (by decide) (fun c_1 => absurd c_1 (by decide +kernel)) (fun c_1 => ?_)
  refine lv_aload_n hx hb dX5_next_9 rfl (lv_at hl 1 rfl) ?_
  refine cVi (wr := []) (rest := []) (k_letter h x f) okV_X5_letter wd_156 hx hb hml hown hts hK hP hD hS hA hN hl.1 [0, 1] [] rfl rfl rfl rfl (by decide) rfl rfl rfl (Nat.le_of_ble_eq_true rfl) (Nat.le_of_ble_eq_true rfl) (Nat.le_of_ble_eq_true rfl) (Nat.le_of_ble_eq_true rfl) (Nat.le_of_ble_eq_true rfl) dX5_next_10 (fun r_3 u_2 H locs hw_u_2 hP hD hS => ?_)
  obtain rfl := hw_u_2
  have hP : va_P D classes [(h, .inr (5, [.int 0, .int (-1), .ref x, .int 0, .int 0, .int 0, .int 0])), (x, .inl (cI, 240, .inl f))] H := hP
  have hD : va_D A [(h, .inr (5, [.int 0, .int (-1), .ref x, .int 0, .int 0, .int 0, .int 0])), (x, .inl (cI, 240, .inl f))] := hD
  refine lv_bipush (v := 32) hx hb dX5_next_13 (by decide) ?_
  refine lv_icmp_ne (tgt := 34) hx hb dX5_next_15 (by decide) (fun c_4 => ?_) (fun c_4 => absurd c_4 (by decide +kernel))
  refine lv_aload_n hx hb dX5_next_34 rfl (lv_at hl 1 rfl) ?_
  refine cVi (wr := []) (rest := []) (k_letter h x f) okV_X5_letter wd_156 hx hb hml hown hts hK hP hD hS hA hN hl.1 [0, 1] [] rfl rfl rfl rfl (by decide) rfl rfl rfl (Nat.le_of_ble_eq_true rfl) (Nat.le_of_ble_eq_true rfl) (Nat.le_of_ble_eq_true rfl) (Nat.le_of_ble_eq_true rfl) (Nat.le_of_ble_eq_true rfl) dX5_next_35 (fun r_6 u_5 H locs hw_u_5 hP hD hS => ?_)
  obtain rfl := hw_u_5
  have hP : va_P D classes [(h, .inr (5, [.int 0, .int (-1), .ref x, .int 0, .int 0, .int 0, .int 0])), (x, .inl (cI, 240, .inl f))] H := hP
  have hD : va_D A [(h, .inr (5, [.int 0, .int (-1), .ref x, .int 0, .int 0, .int 0, .int 0])), (x, .inl (cI, 240, .inl f))] := hD
  exact hret (-1) () _ _ _ _ dX5_next_38 rfl rfl (cutP (isC := [0, 1]) hP rfl) (cutD (isC := [0, 1]) hD rfl rfl) hS
def rm_k_read : Room := { frames := 2, cells := 0, slots := 0, locals := 41 }
set_option maxHeartbeats 4000000 in
set_option maxRecDepth 100000 in
theorem k_read {l : Launch} {D : va_G} {cI cZ : ClassId} {sz : Nat} (h x u0 : Nat) (f : Nat → Int32) (t : Nat) (t0 t1 t2 t3 t4 : Int32) (ta tb tc td te : Nat) : KV l yX5_read cX5_read 5 rm_k_read D cI cZ [.ref h, .ref x, .int 0, .ref t] sz [(h, .inr (5, [.int 0, .int (-1), .ref u0, .int 0, .int 0, .int 0, .int 0])), (x, .inl (cI, 240, .inl f)), (t, .inr (8, [.int t0, .int t1, .int t2, .int t3, .int t4, .ref ta, .ref tb, .ref tc, .ref td, .ref te]))] (fun (_ : Unit) => True) (fun (_ : Unit) => [(t, .inr (8, [.int 0, .int 1, .int 0, .int 0, .int 0, .ref ta, .ref tb, .ref tc, .ref td, .ref te])), (h, .inr (5, [.int 0, .int (-1), .ref x, .int 0, .int 0, .int 0, .int 0])), (x, .inl (cI, 240, .inl f))]) := by
  refine KV.go rfl (Nat.le_of_ble_eq_true rfl) ?_
  intro p e s m args below meth c ls A Q hx hb hml hts hown hin hP hK hD hS hA hN hl hret
  have hl : lv_has ls 5 [(0, .ref h), (1, .ref x), (2, .int 0), (3, .ref t)] := hl
  refine lv_aload_n hx hb dX5_read_0 rfl (lv_at hl 0 rfl) ?_
  refine lv_aload_n hx hb dX5_read_1 rfl (lv_at hl 1 rfl) ?_
  refine va_put (D := D) (ci := 5) (v := .ref x) (ty := (.array .int)) (C := RX5) (T := TX5) (N := 7) hx hb hts iX5 tyX5 tyX5_ok nmX5 hown hK hP hD hS 0 rfl rfl 2 (by decide) (hts _ wd_44) (fun _ h9 => h9) rfl (by decide +kernel) rfl rfl (Nat.le_of_ble_eq_true rfl) dX5_read_2 (fun H locs hP hD hS => ?_)
  have hP : va_P D classes [(h, .inr (5, [.int 0, .int (-1), .ref x, .int 0, .int 0, .int 0, .int 0])), (x, .inl (cI, 240, .inl f)), (t, .inr (8, [.int t0, .int t1, .int t2, .int t3, .int t4, .ref ta, .ref tb, .ref tc, .ref td, .ref te]))] H := hP
  have hD : va_D A [(h, .inr (5, [.int 0, .int (-1), .ref x, .int 0, .int 0, .int 0, .int 0])), (x, .inl (cI, 240, .inl f)), (t, .inr (8, [.int t0, .int t1, .int t2, .int t3, .int t4, .ref ta, .ref tb, .ref tc, .ref td, .ref te]))] := hD
  refine lv_aload_n hx hb dX5_read_5 rfl (lv_at hl 0 rfl) ?_
  refine lv_iload_n hx hb dX5_read_6 rfl (lv_at hl 2 rfl) ?_
  refine va_put (D := D) (ci := 5) (v := .int 0) (ty := .int) (C := RX5) (T := TX5) (N := 7) hx hb hts iX5 tyX5 tyX5_ok nmX5 hown hK hP hD hS 0 rfl rfl 3 (by decide) (hts _ wd_45) (fun _ h9 => h9) rfl (by decide +kernel) rfl rfl (Nat.le_of_ble_eq_true rfl) dX5_read_7 (fun H locs hP hD hS => ?_)
  have hP : va_P D classes [(h, .inr (5, [.int 0, .int (-1), .ref x, .int 0, .int 0, .int 0, .int 0])), (x, .inl (cI, 240, .inl f)), (t, .inr (8, [.int t0, .int t1, .int t2, .int t3, .int t4, .ref ta, .ref tb, .ref tc, .ref td, .ref te]))] H := hP
  have hD : va_D A [(h, .inr (5, [.int 0, .int (-1), .ref x, .int 0, .int 0, .int 0, .int 0])), (x, .inl (cI, 240, .inl f)), (t, .inr (8, [.int t0, .int t1, .int t2, .int t3, .int t4, .ref ta, .ref tb, .ref tc, .ref td, .ref te]))] := hD
  refine lv_aload_n hx hb dX5_read_10 rfl (lv_at hl 0 rfl) ?_
  refine lv_iconst (v := 0) hx hb dX5_read_11 (by decide) ?_
  refine va_put (D := D) (ci := 5) (v := .int 0) (ty := .int) (C := RX5) (T := TX5) (N := 7) hx hb hts iX5 tyX5 tyX5_ok nmX5 hown hK hP hD hS 0 rfl rfl 4 (by decide) (hts _ wd_46) (fun _ h9 => h9) rfl (by decide +kernel) rfl rfl (Nat.le_of_ble_eq_true rfl) dX5_read_12 (fun H locs hP hD hS => ?_)
  have hP : va_P D classes [(h, .inr (5, [.int 0, .int (-1), .ref x, .int 0, .int 0, .int 0, .int 0])), (x, .inl (cI, 240, .inl f)), (t, .inr (8, [.int t0, .int t1, .int t2, .int t3, .int t4, .ref ta, .ref tb, .ref tc, .ref td, .ref te]))] H := hP
  have hD : va_D A [(h, .inr (5, [.int 0, .int (-1), .ref x, .int 0, .int 0, .int 0, .int 0])), (x, .inl (cI, 240, .inl f)), (t, .inr (8, [.int t0, .int t1, .int t2, .int t3, .int t4, .ref ta, .ref tb, .ref tc, .ref td, .ref te]))] := hD
  refine lv_aload_n hx hb dX5_read_15 rfl (lv_at hl 0 rfl) ?_
  refine lv_iconst (v := 0) hx hb dX5_read_16 (by decide) ?_
  refine va_put (D := D) (ci := 5) (v := .int 0) (ty := .int) (C := RX5) (T := TX5) (N := 7) hx hb hts iX5 tyX5 tyX5_ok nmX5 hown hK hP hD hS 0 rfl rfl 0 (by decide) (hts _ wd_42) (fun _ h9 => h9) rfl (by decide +kernel) rfl rfl (Nat.le_of_ble_eq_true rfl) dX5_read_17 (fun H locs hP hD hS => ?_)
  have hP : va_P D classes [(h, .inr (5, [.int 0, .int (-1), .ref x, .int 0, .int 0, .int 0, .int 0])), (x, .inl (cI, 240, .inl f)), (t, .inr (8, [.int t0, .int t1, .int t2, .int t3, .int t4, .ref ta, .ref tb, .ref tc, .ref td, .ref te]))] H := hP
  have hD : va_D A [(h, .inr (5, [.int 0, .int (-1), .ref x, .int 0, .int 0, .int 0, .int 0])), (x, .inl (cI, 240, .inl f)), (t, .inr (8, [.int t0, .int t1, .int t2, .int t3, .int t4, .ref ta, .ref tb, .ref tc, .ref td, .ref te]))] := hD
  refine lv_aload_n hx hb dX5_read_20 rfl (lv_at hl 0 rfl) ?_
  refine lv_iconst (v := (-1)) hx hb dX5_read_21 (by decide) ?_
  refine va_put (D := D) (ci := 5) (v := .int (-1)) (ty := .int) (C := RX5) (T := TX5) (N := 7) hx hb hts iX5 tyX5 tyX5_ok nmX5 hown hK hP hD hS 0 rfl rfl 1 (by decide) (hts _ wd_43) (fun _ h9 => h9) rfl (by decide +kernel) rfl rfl (Nat.le_of_ble_eq_true rfl) dX5_read_22 (fun H locs hP hD hS => ?_)
  have hP : va_P D classes [(h, .inr (5, [.int 0, .int (-1), .ref x, .int 0, .int 0, .int 0, .int 0])), (x, .inl (cI, 240, .inl f)), (t, .inr (8, [.int t0, .int t1, .int t2, .int t3, .int t4, .ref ta, .ref tb, .ref tc, .ref td, .ref te]))] H := hP
  have hD : va_D A [(h, .inr (5, [.int 0, .int (-1), .ref x, .int 0, .int 0, .int 0, .int 0])), (x, .inl (cI, 240, .inl f)), (t, .inr (8, [.int t0, .int t1, .int t2, .int t3, .int t4, .ref ta, .ref tb, .ref tc, .ref td, .ref te]))] := hD
  refine lv_aload_n hx hb dX5_read_25 rfl (lv_at hl 0 rfl) ?_
  refine lv_iconst (v := 0) hx hb dX5_read_26 (by decide) ?_
  refine va_put (D := D) (ci := 5) (v := .int 0) (ty := .boolean) (C := RX5) (T := TX5) (N := 7) hx hb hts iX5 tyX5 tyX5_ok nmX5 hown hK hP hD hS 0 rfl rfl 5 (by decide) (hts _ wd_47) (fun _ h9 => h9) rfl (by decide +kernel) rfl rfl (Nat.le_of_ble_eq_true rfl) dX5_read_27 (fun H locs hP hD hS => ?_)
  have hP : va_P D classes [(h, .inr (5, [.int 0, .int (-1), .ref x, .int 0, .int 0, .int 0, .int 0])), (x, .inl (cI, 240, .inl f)), (t, .inr (8, [.int t0, .int t1, .int t2, .int t3, .int t4, .ref ta, .ref tb, .ref tc, .ref td, .ref te]))] H := hP
  have hD : va_D A [(h, .inr (5, [.int 0, .int (-1), .ref x, .int 0, .int 0, .int 0, .int 0])), (x, .inl (cI, 240, .inl f)), (t, .inr (8, [.int t0, .int t1, .int t2, .int t3, .int t4, .ref ta, .ref tb, .ref tc, .ref td, .ref te]))] := hD
  refine lv_aload_n hx hb dX5_read_30 rfl (lv_at hl 0 rfl) ?_
  refine lv_iconst (v := 0) hx hb dX5_read_31 (by decide) ?_
  refine va_put (D := D) (ci := 5) (v := .int 0) (ty := .boolean) (C := RX5) (T := TX5) (N := 7) hx hb hts iX5 tyX5 tyX5_ok nmX5 hown hK hP hD hS 0 rfl rfl 6 (by decide) (hts _ wd_48) (fun _ h9 => h9) rfl (by decide +kernel) rfl rfl (Nat.le_of_ble_eq_true rfl) dX5_read_32 (fun H locs hP hD hS => ?_)
  have hP : va_P D classes [(h, .inr (5, [.int 0, .int (-1), .ref x, .int 0, .int 0, .int 0, .int 0])), (x, .inl (cI, 240, .inl f)), (t, .inr (8, [.int t0, .int t1, .int t2, .int t3, .int t4, .ref ta, .ref tb, .ref tc, .ref td, .ref te]))] H := hP
  have hD : va_D A [(h, .inr (5, [.int 0, .int (-1), .ref x, .int 0, .int 0, .int 0, .int 0])), (x, .inl (cI, 240, .inl f)), (t, .inr (8, [.int t0, .int t1, .int t2, .int t3, .int t4, .ref ta, .ref tb, .ref tc, .ref td, .ref te]))] := hD
  refine lv_aload_n hx hb dX5_read_35 rfl (lv_at hl 3 rfl) ?_
  refine cVv (wr := [(h, .inr (5, [.int 0, .int (-1), .ref x, .int 0, .int 0, .int 0, .int 0])), (x, .inl (cI, 240, .inl f))]) (rest := []) (k_clear t t0 t1 t2 t3 t4 ta tb tc td te) okV_X8_clear wd_160 hx hb hml hown hts hK hP hD hS hA hN hl.1 [2] [0, 1] rfl rfl rfl rfl (by decide) rfl rfl rfl (Nat.le_of_ble_eq_true rfl) (Nat.le_of_ble_eq_true rfl) (Nat.le_of_ble_eq_true rfl) (Nat.le_of_ble_eq_true rfl) (Nat.le_of_ble_eq_true rfl) dX5_read_36 (fun u_1 H locs hw_u_1 hP hD hS => ?_)
  have hP : va_P D classes [(h, .inr (5, [.int 0, .int (-1), .ref x, .int 0, .int 0, .int 0, .int 0])), (x, .inl (cI, 240, .inl f)), (t, .inr (8, [.int 0, .int 1, .int 0, .int 0, .int 0, .ref ta, .ref tb, .ref tc, .ref td, .ref te]))] H := hP
  have hD : va_D A [(h, .inr (5, [.int 0, .int (-1), .ref x, .int 0, .int 0, .int 0, .int 0])), (x, .inl (cI, 240, .inl f)), (t, .inr (8, [.int 0, .int 1, .int 0, .int 0, .int 0, .ref ta, .ref tb, .ref tc, .ref td, .ref te]))] := hD
  refine lv_iconst (v := 0) hx hb dX5_read_39 (by decide) ?_
  refine lv_istore (lv' := [(4, .int 0), (0, .ref h), (1, .ref x), (2, .int 0), (3, .ref t)]) hx hb dX5_read_40 hl (by decide) rfl (fun ls hl => ?_)
  refine lv_iload hx hb dX5_read_42 (lv_at hl 0 rfl) ?_
  refine lv_sipush (v := 240) hx hb dX5_read_44 (by decide) ?_
  refine lv_icmp_ge (tgt := 76) hx hb dX5_read_47 (by decide) (fun c_3 => absurd c_3 (by decide +kernel)) (fun c_3 => ?_)
  refine lv_aload_n hx hb dX5_read_50 rfl (lv_at hl 1 rfl) ?_
  refine va_get (D := D) (ci := 5) (v := .int 0) (C := RX5) (T := TX5) (N := 7) hx hb hts iX5 hown hK hP 0 rfl rfl 0 (by decide) (hts _ wd_42) (fun _ h9 => h9) rfl dX5_read_51 ?_
  refine lv_if_ne (tgt := 76) hx hb dX5_read_54 (by decide) (fun c_4 => absurd (by decide +kernel) c_4) (fun c_4 => ?_)
  refine lv_aload_n hx hb dX5_read_57 rfl (lv_at hl 1 rfl) ?_
  refine cVi (wr := [(t, .inr (8, [.int 0, .int 1, .int 0, .int 0, .int 0, .ref ta, .ref tb, .ref tc, .ref td, .ref te]))]) (rest := []) (k_next h x f) okV_X5_next wd_164 hx hb hml hown hts hK hP hD hS hA hN hl.1 [0, 1] [2] rfl rfl rfl rfl (by decide) rfl rfl rfl (Nat.le_of_ble_eq_true rfl) (Nat.le_of_ble_eq_true rfl) (Nat.le_of_ble_eq_true rfl) (Nat.le_of_ble_eq_true rfl) (Nat.le_of_ble_eq_true rfl) dX5_read_58 (fun r_6 u_5 H locs hw_u_5 hP hD hS => ?_)
  obtain rfl := hw_u_5
  have hP : va_P D classes [(t, .inr (8, [.int 0, .int 1, .int 0, .int 0, .int 0, .ref ta, .ref tb, .ref tc, .ref td, .ref te])), (h, .inr (5, [.int 0, .int (-1), .ref x, .int 0, .int 0, .int 0, .int 0])), (x, .inl (cI, 240, .inl f))] H := hP
  have hD : va_D A [(t, .inr (8, [.int 0, .int 1, .int 0, .int 0, .int 0, .ref ta, .ref tb, .ref tc, .ref td, .ref te])), (h, .inr (5, [.int 0, .int (-1), .ref x, .int 0, .int 0, .int 0, .int 0])), (x, .inl (cI, 240, .inl f))] := hD
  refine lv_iconst (v := (-1)) hx hb dX5_read_61 (by decide) ?_
  refine lv_icmp_eq (tgt := 76) hx hb dX5_read_62 (by decide) (fun c_7 => ?_) (fun c_7 => absurd (by decide +kernel) c_7)
  exact hret () _ _ _ _ dX5_read_76 trivial hP hD hS
end
section
theorem dX1_minuteBehind_0 : decode cX1_minuteBehind 0 = .ok (.aload_n 0, 1) := by decide +kernel
theorem dX1_minuteBehind_1 : decode cX1_minuteBehind 1 = .ok (.getfield 40, 3) := by decide +kernel
theorem dX1_minuteBehind_4 : decode cX1_minuteBehind 4 = .ok (.ifnull 14, 3) := by decide +kernel
theorem dX1_minuteBehind_7 : decode cX1_minuteBehind 7 = .ok (.iload_n 1, 1) := by decide +kernel
theorem dX1_minuteBehind_8 : decode cX1_minuteBehind 8 = .ok (.aload_n 0, 1) := by decide +kernel
theorem dX1_minuteBehind_9 : decode cX1_minuteBehind 9 = .ok (.getfield 34, 3) := by decide +kernel
theorem dX1_minuteBehind_12 : decode cX1_minuteBehind 12 = .ok (.iconst (-1), 1) := by decide +kernel
theorem dX1_minuteBehind_13 : decode cX1_minuteBehind 13 = .ok (.ixor, 1) := by decide +kernel
theorem dX1_minuteBehind_14 : decode cX1_minuteBehind 14 = .ok (.iand, 1) := by decide +kernel
theorem dX1_minuteBehind_15 : decode cX1_minuteBehind 15 = .ok (.ifCond .eq 5, 3) := by decide +kernel
theorem dX1_minuteBehind_20 : decode cX1_minuteBehind 20 = .ok (.aload_n 0, 1) := by decide +kernel
theorem dX1_minuteBehind_21 : decode cX1_minuteBehind 21 = .ok (.getfield 37, 3) := by decide +kernel
theorem dX1_minuteBehind_24 : decode cX1_minuteBehind 24 = .ok (.istore_n 2, 1) := by decide +kernel
theorem dX1_minuteBehind_25 : decode cX1_minuteBehind 25 = .ok (.iconst 0, 1) := by decide +kernel
theorem dX1_minuteBehind_26 : decode cX1_minuteBehind 26 = .ok (.istore_n 3, 1) := by decide +kernel
theorem dX1_minuteBehind_27 : decode cX1_minuteBehind 27 = .ok (.iload_n 3, 1) := by decide +kernel
theorem dX1_minuteBehind_28 : decode cX1_minuteBehind 28 = .ok (.aload_n 0, 1) := by decide +kernel
theorem dX1_minuteBehind_29 : decode cX1_minuteBehind 29 = .ok (.getfield 40, 3) := by decide +kernel
theorem wd_168 : Cond.fieldLink RX1 83 "QuarrelBridges$Town" "bridges" "I" ∈ BG := BG_in (by decide +kernel) rfl
theorem dX1_minuteBehind_32 : decode cX1_minuteBehind 32 = .ok (.getfield 83, 3) := by decide +kernel
theorem dX1_minuteBehind_35 : decode cX1_minuteBehind 35 = .ok (.if_icmp .ge 95, 3) := by decide +kernel
theorem dX1_minuteBehind_130 : decode cX1_minuteBehind 130 = .ok (.iload_n 2, 1) := by decide +kernel
theorem dX1_minuteBehind_131 : decode cX1_minuteBehind 131 = .ok (.ireturn, 1) := by decide +kernel
theorem dX1_minuteBehind_18 : decode cX1_minuteBehind 18 = .ok (.iconst (-1), 1) := by decide +kernel
theorem dX1_minuteBehind_19 : decode cX1_minuteBehind 19 = .ok (.ireturn, 1) := by decide +kernel
theorem dX1_weigh_0 : decode cX1_weigh 0 = .ok (.iload_n 1, 1) := by decide +kernel
theorem dX1_weigh_1 : decode cX1_weigh 1 = .ok (.iconst 1, 1) := by decide +kernel
theorem dX1_weigh_2 : decode cX1_weigh 2 = .ok (.iload_n 2, 1) := by decide +kernel
theorem dX1_weigh_3 : decode cX1_weigh 3 = .ok (.ishl, 1) := by decide +kernel
theorem dX1_weigh_4 : decode cX1_weigh 4 = .ok (.ior, 1) := by decide +kernel
theorem dX1_weigh_5 : decode cX1_weigh 5 = .ok (.istore_n 3, 1) := by decide +kernel
theorem dX1_weigh_6 : decode cX1_weigh 6 = .ok (.aload_n 0, 1) := by decide +kernel
theorem dX1_weigh_7 : decode cX1_weigh 7 = .ok (.getfield 25, 3) := by decide +kernel
theorem dX1_weigh_10 : decode cX1_weigh 10 = .ok (.iload_n 3, 1) := by decide +kernel
theorem dX1_weigh_11 : decode cX1_weigh 11 = .ok (.invokestatic 65, 3) := by decide +kernel
theorem dX1_weigh_14 : decode cX1_weigh 14 = .ok (.istore 4, 2) := by decide +kernel
theorem dX1_weigh_16 : decode cX1_weigh 16 = .ok (.aload_n 0, 1) := by decide +kernel
theorem dX1_weigh_17 : decode cX1_weigh 17 = .ok (.getfield 40, 3) := by decide +kernel
theorem dX1_weigh_20 : decode cX1_weigh 20 = .ok (.ifnull 14, 3) := by decide +kernel
theorem dX1_weigh_23 : decode cX1_weigh 23 = .ok (.iload_n 3, 1) := by decide +kernel
theorem dX1_weigh_24 : decode cX1_weigh 24 = .ok (.iload_n 1, 1) := by decide +kernel
theorem dX1_weigh_25 : decode cX1_weigh 25 = .ok (.if_icmp .eq 9, 3) := by decide +kernel
theorem dX1_weigh_34 : decode cX1_weigh 34 = .ok (.return_, 1) := by decide +kernel
theorem dX1_weigh_28 : decode cX1_weigh 28 = .ok (.iload 4, 2) := by decide +kernel
theorem dX1_weigh_30 : decode cX1_weigh 30 = .ok (.iconst (-1), 1) := by decide +kernel
theorem dX1_weigh_31 : decode cX1_weigh 31 = .ok (.if_icmp .ne 4, 3) := by decide +kernel
theorem dX1_layOutRow_0 : decode cX1_layOutRow 0 = .ok (.iconst 0, 1) := by decide +kernel
theorem dX1_layOutRow_1 : decode cX1_layOutRow 1 = .ok (.istore_n 1, 1) := by decide +kernel
theorem dX1_layOutRow_2 : decode cX1_layOutRow 2 = .ok (.aload_n 0, 1) := by decide +kernel
theorem dX1_layOutRow_3 : decode cX1_layOutRow 3 = .ok (.iconst 0, 1) := by decide +kernel
theorem dX1_layOutRow_4 : decode cX1_layOutRow 4 = .ok (.putfield 9, 3) := by decide +kernel
theorem dX1_layOutRow_7 : decode cX1_layOutRow 7 = .ok (.iconst 0, 1) := by decide +kernel
theorem dX1_layOutRow_8 : decode cX1_layOutRow 8 = .ok (.istore_n 2, 1) := by decide +kernel
theorem dX1_layOutRow_9 : decode cX1_layOutRow 9 = .ok (.iload_n 2, 1) := by decide +kernel
theorem dX1_layOutRow_10 : decode cX1_layOutRow 10 = .ok (.bipush 7, 2) := by decide +kernel
theorem dX1_layOutRow_12 : decode cX1_layOutRow 12 = .ok (.if_icmp .ge 58, 3) := by decide +kernel
theorem dX1_layOutRow_15 : decode cX1_layOutRow 15 = .ok (.aload_n 0, 1) := by decide +kernel
theorem dX1_layOutRow_16 : decode cX1_layOutRow 16 = .ok (.getfield 31, 3) := by decide +kernel
theorem dX1_layOutRow_19 : decode cX1_layOutRow 19 = .ok (.iload_n 1, 1) := by decide +kernel
theorem dX1_layOutRow_20 : decode cX1_layOutRow 20 = .ok (.invokestatic 65, 3) := by decide +kernel
theorem dX1_layOutRow_23 : decode cX1_layOutRow 23 = .ok (.iconst (-1), 1) := by decide +kernel
theorem dX1_layOutRow_24 : decode cX1_layOutRow 24 = .ok (.if_icmp .eq 46, 3) := by decide +kernel
theorem dX1_layOutRow_70 : decode cX1_layOutRow 70 = .ok (.return_, 1) := by decide +kernel
theorem dX1_solve_0 : decode cX1_solve 0 = .ok (.bipush 127, 2) := by decide +kernel
theorem dX1_solve_2 : decode cX1_solve 2 = .ok (.istore_n 1, 1) := by decide +kernel
theorem dX1_solve_3 : decode cX1_solve 3 = .ok (.iload_n 1, 1) := by decide +kernel
theorem dX1_solve_4 : decode cX1_solve 4 = .ok (.ifCond .lt 60, 3) := by decide +kernel
theorem dX1_solve_64 : decode cX1_solve 64 = .ok (.aload_n 0, 1) := by decide +kernel
theorem dX1_solve_65 : decode cX1_solve 65 = .ok (.invokevirtual 80, 3) := by decide +kernel
theorem wd_169 : Cond.methodLink RX1 80 yX1_layOutRow ∈ BG := BG_in (by decide +kernel) rfl
theorem wd_170 : Cond.code yX1_layOutRow cX1_layOutRow 4 none ∈ BG := BG_in (by decide +kernel) rfl
theorem wd_171 : Cond.instanceMethod yX1_layOutRow ∈ BG := BG_in (by decide +kernel) rfl
theorem wd_172 : Cond.selects RX1 yX1_layOutRow yX1_layOutRow ∈ BG := BG_in (by decide +kernel) rfl
theorem okV_X1_layOutRow : okV yX1_layOutRow cX1_layOutRow 4 none 0 := ⟨⟨wd_170, wd_129, by decide +kernel⟩, wd_171, wd_172⟩
theorem dX1_solve_68 : decode cX1_solve 68 = .ok (.return_, 1) := by decide +kernel
theorem dX1_solve_7 : decode cX1_solve 7 = .ok (.aload_n 0, 1) := by decide +kernel
theorem dX1_solve_8 : decode cX1_solve 8 = .ok (.getfield 25, 3) := by decide +kernel
theorem dX1_solve_11 : decode cX1_solve 11 = .ok (.iload_n 1, 1) := by decide +kernel
theorem dX1_solve_12 : decode cX1_solve 12 = .ok (.aload_n 0, 1) := by decide +kernel
theorem dX1_solve_13 : decode cX1_solve 13 = .ok (.iload_n 1, 1) := by decide +kernel
theorem dX1_solve_14 : decode cX1_solve 14 = .ok (.invokevirtual 73, 3) := by decide +kernel
theorem wd_173 : Cond.methodLink RX1 73 yX1_minuteBehind ∈ BG := BG_in (by decide +kernel) rfl
theorem wd_174 : Cond.code yX1_minuteBehind cX1_minuteBehind 6 (some .int) ∈ BG := BG_in (by decide +kernel) rfl
theorem wd_175 : Cond.instanceMethod yX1_minuteBehind ∈ BG := BG_in (by decide +kernel) rfl
theorem wd_176 : Cond.selects RX1 yX1_minuteBehind yX1_minuteBehind ∈ BG := BG_in (by decide +kernel) rfl
theorem okV_X1_minuteBehind : okV yX1_minuteBehind cX1_minuteBehind 6 (some .int) 1 := ⟨⟨wd_174, wd_129, by decide +kernel⟩, wd_175, wd_176⟩
theorem dX1_solve_17 : decode cX1_solve 17 = .ok (.invokestatic 69, 3) := by decide +kernel
theorem dX1_solve_20 : decode cX1_solve 20 = .ok (.aload_n 0, 1) := by decide +kernel
theorem dX1_solve_21 : decode cX1_solve 21 = .ok (.getfield 28, 3) := by decide +kernel
theorem dX1_solve_24 : decode cX1_solve 24 = .ok (.iload_n 1, 1) := by decide +kernel
theorem dX1_solve_25 : decode cX1_solve 25 = .ok (.iconst 0, 1) := by decide +kernel
theorem dX1_solve_26 : decode cX1_solve 26 = .ok (.invokestatic 69, 3) := by decide +kernel
theorem dX1_solve_29 : decode cX1_solve 29 = .ok (.aload_n 0, 1) := by decide +kernel
theorem dX1_solve_30 : decode cX1_solve 30 = .ok (.getfield 31, 3) := by decide +kernel
theorem dX1_solve_33 : decode cX1_solve 33 = .ok (.iload_n 1, 1) := by decide +kernel
theorem dX1_solve_34 : decode cX1_solve 34 = .ok (.iconst (-1), 1) := by decide +kernel
theorem dX1_solve_35 : decode cX1_solve 35 = .ok (.invokestatic 69, 3) := by decide +kernel
theorem dX1_solve_38 : decode cX1_solve 38 = .ok (.iconst 0, 1) := by decide +kernel
theorem dX1_solve_39 : decode cX1_solve 39 = .ok (.istore_n 2, 1) := by decide +kernel
theorem dX1_solve_40 : decode cX1_solve 40 = .ok (.iload_n 2, 1) := by decide +kernel
theorem dX1_solve_41 : decode cX1_solve 41 = .ok (.bipush 7, 2) := by decide +kernel
theorem dX1_solve_43 : decode cX1_solve 43 = .ok (.if_icmp .ge 15, 3) := by decide +kernel
theorem dX1_solve_58 : decode cX1_solve 58 = .ok (.iinc 1 (-1), 3) := by decide +kernel
theorem dX1_solve_61 : decode cX1_solve 61 = .ok (.goto (-58), 3) := by decide +kernel
theorem dX1_solve_46 : decode cX1_solve 46 = .ok (.aload_n 0, 1) := by decide +kernel
theorem dX1_solve_47 : decode cX1_solve 47 = .ok (.iload_n 1, 1) := by decide +kernel
theorem dX1_solve_48 : decode cX1_solve 48 = .ok (.iload_n 2, 1) := by decide +kernel
theorem dX1_solve_49 : decode cX1_solve 49 = .ok (.invokevirtual 76, 3) := by decide +kernel
theorem wd_177 : Cond.methodLink RX1 76 yX1_weigh ∈ BG := BG_in (by decide +kernel) rfl
theorem wd_178 : Cond.code yX1_weigh cX1_weigh 6 none ∈ BG := BG_in (by decide +kernel) rfl
theorem wd_179 : Cond.instanceMethod yX1_weigh ∈ BG := BG_in (by decide +kernel) rfl
theorem wd_180 : Cond.selects RX1 yX1_weigh yX1_weigh ∈ BG := BG_in (by decide +kernel) rfl
theorem okV_X1_weigh : okV yX1_weigh cX1_weigh 6 none 2 := ⟨⟨wd_178, wd_129, by decide +kernel⟩, wd_179, wd_180⟩
theorem dX1_solve_52 : decode cX1_solve 52 = .ok (.iinc 2 1, 3) := by decide +kernel
theorem dX1_solve_55 : decode cX1_solve 55 = .ok (.goto (-15), 3) := by decide +kernel
theorem dX1_gather_0 : decode cX1_gather 0 = .ok (.aload_n 0, 1) := by decide +kernel
theorem dX1_gather_1 : decode cX1_gather 1 = .ok (.aload_n 1, 1) := by decide +kernel
theorem dX1_gather_2 : decode cX1_gather 2 = .ok (.putfield 40, 3) := by decide +kernel
theorem dX1_gather_5 : decode cX1_gather 5 = .ok (.aload_n 0, 1) := by decide +kernel
theorem dX1_gather_6 : decode cX1_gather 6 = .ok (.aload_n 2, 1) := by decide +kernel
theorem dX1_gather_7 : decode cX1_gather 7 = .ok (.invokevirtual 44, 3) := by decide +kernel
theorem wd_181 : Cond.methodLink RX1 44 yX7_minutes ∈ BG := BG_in (by decide +kernel) rfl
theorem wd_182 : Cond.code yX7_minutes cX7_minutes 1 (some .int) ∈ BG := BG_in (by decide +kernel) rfl
theorem wd_183 : Cond.instanceMethod yX7_minutes ∈ BG := BG_in (by decide +kernel) rfl
theorem wd_184 : Cond.selects RX7 yX7_minutes yX7_minutes ∈ BG := BG_in (by decide +kernel) rfl
theorem okV_X7_minutes : okV yX7_minutes cX7_minutes 1 (some .int) 0 := ⟨⟨wd_182, wd_93, by decide +kernel⟩, wd_183, wd_184⟩
theorem dX1_gather_10 : decode cX1_gather 10 = .ok (.putfield 37, 3) := by decide +kernel
theorem dX1_gather_13 : decode cX1_gather 13 = .ok (.aload_n 0, 1) := by decide +kernel
theorem dX1_gather_14 : decode cX1_gather 14 = .ok (.aload_n 2, 1) := by decide +kernel
theorem dX1_gather_15 : decode cX1_gather 15 = .ok (.iconst 0, 1) := by decide +kernel
theorem dX1_gather_16 : decode cX1_gather 16 = .ok (.invokevirtual 50, 3) := by decide +kernel
theorem wd_185 : Cond.methodLink RX1 50 yX7_bargesOfFate ∈ BG := BG_in (by decide +kernel) rfl
theorem wd_186 : Cond.code yX7_bargesOfFate cX7_bargesOfFate 4 (some .int) ∈ BG := BG_in (by decide +kernel) rfl
theorem wd_187 : Cond.instanceMethod yX7_bargesOfFate ∈ BG := BG_in (by decide +kernel) rfl
theorem wd_188 : Cond.selects RX7 yX7_bargesOfFate yX7_bargesOfFate ∈ BG := BG_in (by decide +kernel) rfl
theorem okV_X7_bargesOfFate : okV yX7_bargesOfFate cX7_bargesOfFate 4 (some .int) 1 := ⟨⟨wd_186, wd_93, by decide +kernel⟩, wd_187, wd_188⟩
theorem dX1_gather_19 : decode cX1_gather 19 = .ok (.iconst 1, 1) := by decide +kernel
theorem dX1_gather_20 : decode cX1_gather 20 = .ok (.aload_n 1, 1) := by decide +kernel
theorem wd_189 : Cond.fieldLink RX1 54 "QuarrelBridges$Town" "barges" "I" ∈ BG := BG_in (by decide +kernel) rfl
theorem dX1_gather_21 : decode cX1_gather 21 = .ok (.getfield 54, 3) := by decide +kernel
theorem dX1_gather_24 : decode cX1_gather 24 = .ok (.ishl, 1) := by decide +kernel
theorem dX1_gather_25 : decode cX1_gather 25 = .ok (.iconst 1, 1) := by decide +kernel
theorem dX1_gather_26 : decode cX1_gather 26 = .ok (.isub, 1) := by decide +kernel
theorem dX1_gather_27 : decode cX1_gather 27 = .ok (.iand, 1) := by decide +kernel
theorem dX1_gather_28 : decode cX1_gather 28 = .ok (.putfield 34, 3) := by decide +kernel
theorem dX1_gather_31 : decode cX1_gather 31 = .ok (.aload_n 0, 1) := by decide +kernel
theorem dX1_gather_32 : decode cX1_gather 32 = .ok (.getfield 19, 3) := by decide +kernel
theorem dX1_gather_35 : decode cX1_gather 35 = .ok (.iconst 0, 1) := by decide +kernel
theorem dX1_gather_36 : decode cX1_gather 36 = .ok (.invokestatic 59, 3) := by decide +kernel
theorem wd_190 : Cond.methodLink RX1 59 yJ7_fill_53178 ∈ BG := BG_in (by decide +kernel) rfl
theorem dX1_gather_39 : decode cX1_gather 39 = .ok (.aload_n 0, 1) := by decide +kernel
theorem dX1_gather_40 : decode cX1_gather 40 = .ok (.getfield 22, 3) := by decide +kernel
theorem dX1_gather_43 : decode cX1_gather 43 = .ok (.iconst 0, 1) := by decide +kernel
theorem dX1_gather_44 : decode cX1_gather 44 = .ok (.invokestatic 59, 3) := by decide +kernel
theorem dX1_gather_47 : decode cX1_gather 47 = .ok (.return_, 1) := by decide +kernel
def gF (k : Nat) : Int32 := 127 - nI k
theorem gF_dec (k : Nat) : gF k + Int32.ofInt (-1) = gF (k + 1) := by
  show 127 - nI k + -1 = 127 - nI (k + 1)
  rw [nI_succ, Int32.sub_eq_add_neg, Int32.sub_eq_add_neg, Int32.neg_add, Int32.sub_eq_add_neg, Int32.add_assoc]
theorem gF_nI : ∀ k : Fin 128, gF k.1 = nI (127 - k.1) := by decide +kernel
def mbF (g : Int32) : Int32 := if (g &&& (-1)) = 0 then 0 else -1
theorem mbF_nI : ∀ k : Fin 128, mbF (gF k.1) = if 127 - k.1 = 0 then 0 else -1 := by decide +kernel
def bB (f : Nat → Int32) : Nat → Nat → Int32
  | 0 => f
  | k + 1 => putF 128 (bB f k) (gF k) (mbF (gF k))
def mM (f : Nat → Int32) : Nat → Nat → Int32
  | 0 => f
  | k + 1 => putF 128 (mM f k) (gF k) 0
def cC (f : Nat → Int32) : Nat → Nat → Int32
  | 0 => f
  | k + 1 => putF 128 (cC f k) (gF k) (-1)
theorem bB_at (f : Nat → Int32) : ∀ k, k ≤ 128 → ∀ i, 128 - k ≤ i → i < 128 → i ≠ 0 → bB f k i = -1
  | 0, _, i, h1, h2, _ => absurd h1 (by omega)
  | k + 1, hk, i, h1, h2, h3 => by
    have e1 := gF_nI ⟨k, by omega⟩
    have e2 := mbF_nI ⟨k, by omega⟩
    have hin : vp_in (gF k) 128 := by rw [e1]; exact nI_in (by omega) (by decide)
    show putF 128 (bB f k) (gF k) (mbF (gF k)) i = -1
    rw [← putF_in hin, e2, e1, nI_clamp (by omega)]
    unfold upd
    by_cases hi : i = 127 - k
    · rw [if_pos hi, if_neg (by show ¬ (127 - k = 0); omega)]
    · rw [if_neg hi]
      exact bB_at f k (by omega) i (by omega) h2 h3
theorem wq_dec : ∀ (k : Fin 128) (j : Fin 7), (gF k.1 ||| (1 <<< (nI j.1 &&& 31))) = gF k.1 ∨ (¬ ((gF k.1 ||| (1 <<< (nI j.1 &&& 31))) < 0) ∧ 128 - (k.1 + 1) ≤ (gF k.1 ||| (1 <<< (nI j.1 &&& 31))).toNatClampNeg ∧ (gF k.1 ||| (1 <<< (nI j.1 &&& 31))).toNatClampNeg < 128 ∧ (gF k.1 ||| (1 <<< (nI j.1 &&& 31))).toNatClampNeg ≠ 0) := by decide +kernel
theorem wq (f : Nat → Int32) {k j : Nat} (hk : k < 128) (hj : j < 7) : (gF k ||| (1 <<< (nI j &&& 31))) = gF k ∨ atF 128 (putF 128 (bB f k) (gF k) (mbF (gF k))) (gF k ||| (1 <<< (nI j &&& 31))) = -1 := by
  rcases wq_dec ⟨k, hk⟩ ⟨j, hj⟩ with h | ⟨h1, h2, h3, h4⟩
  · exact Or.inl h
  · refine Or.inr ?_
    rw [← atF_in (show vp_in _ 128 from fun h => h.elim h1 (by omega))]
    exact bB_at f (k + 1) (by omega) _ h2 h3 h4
theorem cC_0 : atF 128 (cC z0 128) 0 = -1 := by decide +kernel
theorem gF_lt {k : Nat} (h : k < 128) : ¬ gF k < 0 := by
  rw [gF_nI ⟨k, h⟩]
  exact nI_pos (by omega)
def rm_k_minuteBehind : Room := { frames := 0, cells := 0, slots := 0, locals := 0 }
set_option maxHeartbeats 4000000 in
set_option maxRecDepth 100000 in
theorem k_minuteBehind {l : Launch} {D : va_G} {cI cZ : ClassId} {sz : Nat} (h : Nat) (ln : Int32) (c1 c2 c3 c4 c5 c6 t : Nat) (ta tb tc td te : Nat) (g : Int32) : KI l yX1_minuteBehind cX1_minuteBehind 6 (some .int) rm_k_minuteBehind D cI cZ [.ref h, .int g] sz [(h, .inr (1, [.int ln, .ref c1, .ref c2, .ref c3, .ref c4, .ref c5, .ref c6, .int 0, .int 0, .ref t])), (t, .inr (8, [.int 0, .int 1, .int 0, .int 0, .int 0, .ref ta, .ref tb, .ref tc, .ref td, .ref te]))] (fun (r : Int32) (_ : Unit) => r = mbF g) (fun (_ : Unit) => [(h, .inr (1, [.int ln, .ref c1, .ref c2, .ref c3, .ref c4, .ref c5, .ref c6, .int 0, .int 0, .ref t])), (t, .inr (8, [.int 0, .int 1, .int 0, .int 0, .int 0, .ref ta, .ref tb, .ref tc, .ref td, .ref te]))]) := by
  refine KI.go rfl (Nat.le_of_ble_eq_true rfl) ?_
  intro p e s m args below meth c ls A Q hx hb hml hts hown hin hP hK hD hS hA hN hl hret
  have hl : lv_has ls 6 [(0, .ref h), (1, .int g)] := hl
  refine lv_aload_n hx hb dX1_minuteBehind_0 rfl (lv_at hl 0 rfl) ?_
  refine va_get (D := D) (ci := 1) (v := .ref t) (C := RX1) (T := TX1) (N := 10) hx hb hts iX1 hown hK hP 0 rfl rfl 9 (by decide) (hts _ wd_40) (fun _ h9 => h9) rfl dX1_minuteBehind_1 ?_
  refine lv_ifnull hx hb dX1_minuteBehind_4 ?_
  refine lv_iload_n hx hb dX1_minuteBehind_7 rfl (lv_at hl 1 rfl) ?_
  refine lv_aload_n hx hb dX1_minuteBehind_8 rfl (lv_at hl 0 rfl) ?_
  refine va_get (D := D) (ci := 1) (v := .int 0) (C := RX1) (T := TX1) (N := 10) hx hb hts iX1 hown hK hP 0 rfl rfl 7 (by decide) (hts _ wd_38) (fun _ h9 => h9) rfl dX1_minuteBehind_9 ?_
  refine lv_iconst (v := (-1)) hx hb dX1_minuteBehind_12 (by decide) ?_
  refine lv_ixor hx hb dX1_minuteBehind_13 ?_
  refine lv_topi (fun z_1 ez_1 => ?_)
  obtain rfl : z_1 = (-1) := ez_1.trans (by decide +kernel)
  refine lv_iand hx hb dX1_minuteBehind_14 ?_
  refine lv_if_eq (tgt := 20) hx hb dX1_minuteBehind_15 (by decide) (fun c_2 => ?_) (fun c_2 => ?_)
  · refine lv_aload_n hx hb dX1_minuteBehind_20 rfl (lv_at hl 0 rfl) ?_
    refine va_get (D := D) (ci := 1) (v := .int 0) (C := RX1) (T := TX1) (N := 10) hx hb hts iX1 hown hK hP 0 rfl rfl 8 (by decide) (hts _ wd_39) (fun _ h9 => h9) rfl dX1_minuteBehind_21 ?_
    refine lv_istore_n (lv' := [(2, .int 0), (0, .ref h), (1, .int g)]) hx hb dX1_minuteBehind_24 rfl hl (by decide) rfl (fun ls hl => ?_)
    refine lv_iconst (v := 0) hx hb dX1_minuteBehind_25 (by decide) ?_
    refine lv_istore_n (lv' := [(3, .int 0), (2, .int 0), (0, .ref h), (1, .int g)]) hx hb dX1_minuteBehind_26 rfl hl (by decide) rfl (fun ls hl => ?_)
    refine lv_iload_n hx hb dX1_minuteBehind_27 rfl (lv_at hl 0 rfl) ?_
    refine lv_aload_n hx hb dX1_minuteBehind_28 rfl (lv_at hl 2 rfl) ?_
    refine va_get (D := D) (ci := 1) (v := .ref t) (C := RX1) (T := TX1) (N := 10) hx hb hts iX1 hown hK hP 0 rfl rfl 9 (by decide) (hts _ wd_40) (fun _ h9 => h9) rfl dX1_minuteBehind_29 ?_
    refine va_get (D := D) (ci := 8) (v := .int 0) (C := RX8) (T := TX8) (N := 10) hx hb hts iX8 hown hK hP 1 rfl rfl 0 (by decide) (hts _ wd_168) (fun _ h9 => h9) rfl dX1_minuteBehind_32 ?_
    refine lv_icmp_ge (tgt := 130) hx hb dX1_minuteBehind_35 (by decide) (fun c_3 => ?_) (fun c_3 => absurd (by decide +kernel) c_3)
    refine lv_iload_n hx hb dX1_minuteBehind_130 rfl (lv_at hl 1 rfl) ?_
    exact hret 0 () _ _ _ _ dX1_minuteBehind_131 rfl (if_pos c_2).symm hP hD hS
  · refine lv_iconst (v := (-1)) hx hb dX1_minuteBehind_18 (by decide) ?_
    exact hret (-1) () _ _ _ _ dX1_minuteBehind_19 rfl (if_neg c_2).symm hP hD hS
def rm_k_weigh : Room := { frames := 1, cells := 0, slots := 0, locals := 21 }
set_option maxHeartbeats 4000000 in
set_option maxRecDepth 100000 in
theorem k_weigh {l : Launch} {D : va_G} {cI cZ : ClassId} {sz : Nat} (h : Nat) (ln : Int32) (c1 c2 c3 c4 c5 c6 t : Nat) (f : Nat → Int32) (g v : Int32) (hq : (g ||| (1 <<< (v &&& 31))) = g ∨ atF 128 f (g ||| (1 <<< (v &&& 31))) = -1) : KV l yX1_weigh cX1_weigh 6 rm_k_weigh D cI cZ [.ref h, .int g, .int v] sz [(h, .inr (1, [.int ln, .ref c1, .ref c2, .ref c3, .ref c4, .ref c5, .ref c6, .int 0, .int 0, .ref t])), (c4, .inl (cI, 128, .inl f))] (fun (_ : Unit) => True) (fun (_ : Unit) => [(h, .inr (1, [.int ln, .ref c1, .ref c2, .ref c3, .ref c4, .ref c5, .ref c6, .int 0, .int 0, .ref t])), (c4, .inl (cI, 128, .inl f))]) := by
  refine KV.go rfl (Nat.le_of_ble_eq_true rfl) ?_
  intro p e s m args below meth c ls A Q hx hb hml hts hown hin hP hK hD hS hA hN hl hret
  have hl : lv_has ls 6 [(0, .ref h), (1, .int g), (2, .int v)] := hl
  refine lv_iload_n hx hb dX1_weigh_0 rfl (lv_at hl 1 rfl) ?_
  refine lv_iconst (v := 1) hx hb dX1_weigh_1 (by decide) ?_
  refine lv_iload_n hx hb dX1_weigh_2 rfl (lv_at hl 2 rfl) ?_
  refine lv_ishl hx hb dX1_weigh_3 ?_
  refine lv_ior hx hb dX1_weigh_4 ?_
  refine lv_istore_n (lv' := [(3, .int (g ||| (1 <<< (v &&& 31)))), (0, .ref h), (1, .int g), (2, .int v)]) hx hb dX1_weigh_5 rfl hl (by decide) rfl (fun ls hl => ?_)
  refine lv_aload_n hx hb dX1_weigh_6 rfl (lv_at hl 1 rfl) ?_
  refine va_get (D := D) (ci := 1) (v := .ref c4) (C := RX1) (T := TX1) (N := 10) hx hb hts iX1 hown hK hP 0 rfl rfl 4 (by decide) (hts _ wd_35) (fun _ h9 => h9) rfl dX1_weigh_7 ?_
  refine lv_iload_n hx hb dX1_weigh_10 rfl (lv_at hl 0 rfl) ?_
  refine cNi (wr := [(h, .inr (1, [.int ln, .ref c1, .ref c2, .ref c3, .ref c4, .ref c5, .ref c6, .int 0, .int 0, .ref t]))]) (rest := []) (k_at c4 128 f (g ||| (1 <<< (v &&& 31))) (by decide)) okS_X9_at 10 rfl hx hb hml hown hts hK hP hD hS hA hN hl.1 [1] [0] rfl rfl rfl rfl (by decide) rfl (Nat.le_of_ble_eq_true rfl) (Nat.le_of_ble_eq_true rfl) (Nat.le_of_ble_eq_true rfl) (Nat.le_of_ble_eq_true rfl) (Nat.le_of_ble_eq_true rfl) dX1_weigh_11 (fun r_2 u_1 H locs hw_u_1 hP hD hS => ?_)
  obtain rfl := hw_u_1
  have hP : va_P D classes [(h, .inr (1, [.int ln, .ref c1, .ref c2, .ref c3, .ref c4, .ref c5, .ref c6, .int 0, .int 0, .ref t])), (c4, .inl (cI, 128, .inl f))] H := hP
  have hD : va_D A [(h, .inr (1, [.int ln, .ref c1, .ref c2, .ref c3, .ref c4, .ref c5, .ref c6, .int 0, .int 0, .ref t])), (c4, .inl (cI, 128, .inl f))] := hD
  refine lv_istore (lv' := [(4, .int (atF 128 f (g ||| (1 <<< (v &&& 31))))), (3, .int (g ||| (1 <<< (v &&& 31)))), (0, .ref h), (1, .int g), (2, .int v)]) hx hb dX1_weigh_14 hl (by decide) rfl (fun ls hl => ?_)
  refine lv_aload_n hx hb dX1_weigh_16 rfl (lv_at hl 2 rfl) ?_
  refine va_get (D := D) (ci := 1) (v := .ref t) (C := RX1) (T := TX1) (N := 10) hx hb hts iX1 hown hK hP 0 rfl rfl 9 (by decide) (hts _ wd_40) (fun _ h9 => h9) rfl dX1_weigh_17 ?_
  refine lv_ifnull hx hb dX1_weigh_20 ?_
  refine lv_iload_n hx hb dX1_weigh_23 rfl (lv_at hl 1 rfl) ?_
  refine lv_iload_n hx hb dX1_weigh_24 rfl (lv_at hl 3 rfl) ?_
  refine lv_icmp_eq (tgt := 34) hx hb dX1_weigh_25 (by decide) (fun c_3 => ?_) (fun c_3 => ?_)
  · exact hret () _ _ _ _ dX1_weigh_34 trivial (cutP (isC := [0, 1]) hP rfl) (cutD (isC := [0, 1]) hD rfl rfl) hS
  · refine lv_iload hx hb dX1_weigh_28 (lv_at hl 0 rfl) ?_
    refine lv_iconst (v := (-1)) hx hb dX1_weigh_30 (by decide) ?_
    refine lv_icmp_ne (tgt := 35) hx hb dX1_weigh_31 (by decide) (fun c_4 => absurd (hq.resolve_left c_3) c_4) (fun c_4 => ?_)
    exact hret () _ _ _ _ dX1_weigh_34 trivial (cutP (isC := [0, 1]) hP rfl) (cutD (isC := [0, 1]) hD rfl rfl) hS
def rm_k_layOutRow : Room := { frames := 1, cells := 0, slots := 0, locals := 21 }
set_option maxHeartbeats 4000000 in
set_option maxRecDepth 100000 in
theorem k_layOutRow {l : Launch} {D : va_G} {cI cZ : ClassId} {sz : Nat} (h : Nat) (ln : Int32) (c1 c2 c3 c4 c5 c6 t : Nat) (f : Nat → Int32) (h0 : atF 128 f 0 = -1) : KV l yX1_layOutRow cX1_layOutRow 4 rm_k_layOutRow D cI cZ [.ref h] sz [(h, .inr (1, [.int ln, .ref c1, .ref c2, .ref c3, .ref c4, .ref c5, .ref c6, .int 0, .int 0, .ref t])), (c6, .inl (cI, 128, .inl f))] (fun (_ : Unit) => True) (fun (_ : Unit) => [(h, .inr (1, [.int 0, .ref c1, .ref c2, .ref c3, .ref c4, .ref c5, .ref c6, .int 0, .int 0, .ref t])), (c6, .inl (cI, 128, .inl f))]) := by
  refine KV.go rfl (Nat.le_of_ble_eq_true rfl) ?_
  intro p e s m args below meth c ls A Q hx hb hml hts hown hin hP hK hD hS hA hN hl hret
  have hl : lv_has ls 4 [(0, .ref h)] := hl
  refine lv_iconst (v := 0) hx hb dX1_layOutRow_0 (by decide) ?_
  refine lv_istore_n (lv' := [(1, .int 0), (0, .ref h)]) hx hb dX1_layOutRow_1 rfl hl (by decide) rfl (fun ls hl => ?_)
  refine lv_aload_n hx hb dX1_layOutRow_2 rfl (lv_at hl 1 rfl) ?_
  refine lv_iconst (v := 0) hx hb dX1_layOutRow_3 (by decide) ?_
  refine va_put (D := D) (ci := 1) (v := .int 0) (ty := .int) (C := RX1) (T := TX1) (N := 10) hx hb hts iX1 tyX1 tyX1_ok nmX1 hown hK hP hD hS 0 rfl rfl 0 (by decide) (hts _ wd_31) (fun _ h9 => h9) rfl (by decide +kernel) rfl rfl (Nat.le_of_ble_eq_true rfl) dX1_layOutRow_4 (fun H locs hP hD hS => ?_)
  have hP : va_P D classes [(h, .inr (1, [.int 0, .ref c1, .ref c2, .ref c3, .ref c4, .ref c5, .ref c6, .int 0, .int 0, .ref t])), (c6, .inl (cI, 128, .inl f))] H := hP
  have hD : va_D A [(h, .inr (1, [.int 0, .ref c1, .ref c2, .ref c3, .ref c4, .ref c5, .ref c6, .int 0, .int 0, .ref t])), (c6, .inl (cI, 128, .inl f))] := hD
  refine lv_iconst (v := 0) hx hb dX1_layOutRow_7 (by decide) ?_
  refine lv_istore_n (lv' := [(2, .int 0), (1, .int 0), (0, .ref h)]) hx hb dX1_layOutRow_8 rfl hl (by decide) rfl (fun ls hl => ?_)
  refine lv_iload_n hx hb dX1_layOutRow_9 rfl (lv_at hl 0 rfl) ?_
  refine lv_bipush (v := 7) hx hb dX1_layOutRow_10 (by decide) ?_
  refine lv_icmp_ge (tgt := 70) hx hb dX1_layOutRow_12 (by decide) (fun c_1 => absurd c_1 (by decide +kernel)) (fun c_1 => ?_)
  refine lv_aload_n hx hb dX1_layOutRow_15 rfl (lv_at hl 2 rfl) ?_
  refine va_get (D := D) (ci := 1) (v := .ref c6) (C := RX1) (T := TX1) (N := 10) hx hb hts iX1 hown hK hP 0 rfl rfl 6 (by decide) (hts _ wd_37) (fun _ h9 => h9) rfl dX1_layOutRow_16 ?_
  refine lv_iload_n hx hb dX1_layOutRow_19 rfl (lv_at hl 1 rfl) ?_
  refine cNi (wr := [(h, .inr (1, [.int 0, .ref c1, .ref c2, .ref c3, .ref c4, .ref c5, .ref c6, .int 0, .int 0, .ref t]))]) (rest := []) (k_at c6 128 f 0 (by decide)) okS_X9_at 10 rfl hx hb hml hown hts hK hP hD hS hA hN hl.1 [1] [0] rfl rfl rfl rfl (by decide) rfl (Nat.le_of_ble_eq_true rfl) (Nat.le_of_ble_eq_true rfl) (Nat.le_of_ble_eq_true rfl) (Nat.le_of_ble_eq_true rfl) (Nat.le_of_ble_eq_true rfl) dX1_layOutRow_20 (fun r_3 u_2 H locs hw_u_2 hP hD hS => ?_)
  obtain rfl := hw_u_2
  have hP : va_P D classes [(h, .inr (1, [.int 0, .ref c1, .ref c2, .ref c3, .ref c4, .ref c5, .ref c6, .int 0, .int 0, .ref t])), (c6, .inl (cI, 128, .inl f))] H := hP
  have hD : va_D A [(h, .inr (1, [.int 0, .ref c1, .ref c2, .ref c3, .ref c4, .ref c5, .ref c6, .int 0, .int 0, .ref t])), (c6, .inl (cI, 128, .inl f))] := hD
  refine lv_topi (fun z_4 ez_4 => ?_)
  obtain rfl : z_4 = (-1) := ez_4.trans h0
  refine lv_iconst (v := (-1)) hx hb dX1_layOutRow_23 (by decide) ?_
  refine lv_icmp_eq (tgt := 70) hx hb dX1_layOutRow_24 (by decide) (fun c_5 => ?_) (fun c_5 => absurd (by decide +kernel) c_5)
  exact hret () _ _ _ _ dX1_layOutRow_70 trivial (cutP (isC := [0, 1]) hP rfl) (cutD (isC := [0, 1]) hD rfl rfl) hS
def rm_k_solve : Room := { frames := 2, cells := 0, slots := 0, locals := 46 }
set_option maxHeartbeats 4000000 in
set_option maxRecDepth 100000 in
theorem k_solve {l : Launch} {D : va_G} {cI cZ : ClassId} {sz : Nat} (h : Nat) (ln : Int32) (c1 c2 c3 c4 c5 c6 t : Nat) (ta tb tc td te : Nat) : KV l yX1_solve cX1_solve 3 rm_k_solve D cI cZ [.ref h] sz [(h, .inr (1, [.int ln, .ref c1, .ref c2, .ref c3, .ref c4, .ref c5, .ref c6, .int 0, .int 0, .ref t])), (c4, .inl (cI, 128, .inl z0)), (c5, .inl (cI, 128, .inl z0)), (c6, .inl (cI, 128, .inl z0)), (t, .inr (8, [.int 0, .int 1, .int 0, .int 0, .int 0, .ref ta, .ref tb, .ref tc, .ref td, .ref te]))] (fun (_ : Unit) => True) (fun (_ : Unit) => [(h, .inr (1, [.int 0, .ref c1, .ref c2, .ref c3, .ref c4, .ref c5, .ref c6, .int 0, .int 0, .ref t])), (t, .inr (8, [.int 0, .int 1, .int 0, .int 0, .int 0, .ref ta, .ref tb, .ref tc, .ref td, .ref te]))]) := by
  refine KV.go rfl (Nat.le_of_ble_eq_true rfl) ?_
  intro p e s m args below meth c ls A Q hx hb hml hts hown hin hP hK hD hS hA hN hl hret
  have hl : lv_has ls 3 [(0, .ref h)] := hl
  refine lv_bipush (v := 127) hx hb dX1_solve_0 (by decide) ?_
  refine lv_istore_n (lv' := [(1, .int 127), (0, .ref h)]) hx hb dX1_solve_2 rfl hl (by decide) rfl (fun ls hl => ?_)
  have lp_1 : ∀ (n k : Nat), k + n = 128 → ∀ (H : Heap) (locs : List Loc) (ls : Array Slot), va_P D classes [(h, .inr (1, [.int ln, .ref c1, .ref c2, .ref c3, .ref c4, .ref c5, .ref c6, .int 0, .int 0, .ref t])), (c4, .inl (cI, 128, .inl (bB z0 k))), (c5, .inl (cI, 128, .inl (mM z0 k))), (c6, .inl (cI, 128, .inl (cC z0 k))), (t, .inr (8, [.int 0, .int 1, .int 0, .int 0, .int 0, .ref ta, .ref tb, .ref tc, .ref td, .ref te]))] H → va_D A [(h, .inr (1, [.int ln, .ref c1, .ref c2, .ref c3, .ref c4, .ref c5, .ref c6, .int 0, .int 0, .ref t])), (c4, .inl (cI, 128, .inl (bB z0 k))), (c5, .inl (cI, 128, .inl (mM z0 k))), (c6, .inl (cI, 128, .inl (cC z0 k))), (t, .inr (8, [.int 0, .int 1, .int 0, .int 0, .int 0, .ref ta, .ref tb, .ref tc, .ref td, .ref te]))] → va_S A s.heap H locs → lv_has ls 3 [(1, .int (gF k)), (0, .ref h)] → W p l e rm_k_solve s m args below meth c H locs 0 0 Q (F0 m 3 ls []) := by
    intro n
    induction n with
    | zero =>
      intro k hk H locs ls hP hD hS hl
      obtain rfl : k = 128 := by omega
      refine lv_iload_n hx hb dX1_solve_3 rfl (lv_at hl 0 rfl) ?_
      refine lv_if_lt (tgt := 64) hx hb dX1_solve_4 (by decide) (fun c_2 => ?_) (fun c_2 => absurd (by decide +kernel) c_2)
      refine lv_aload_n hx hb dX1_solve_64 rfl (lv_at hl 1 rfl) ?_
      refine cVv (wr := [(c4, .inl (cI, 128, .inl (bB z0 128))), (c5, .inl (cI, 128, .inl (mM z0 128))), (t, .inr (8, [.int 0, .int 1, .int 0, .int 0, .int 0, .ref ta, .ref tb, .ref tc, .ref td, .ref te]))]) (rest := []) (k_layOutRow h ln c1 c2 c3 c4 c5 c6 t (cC z0 128) cC_0) okV_X1_layOutRow wd_169 hx hb hml hown hts hK hP hD hS hA hN hl.1 [0, 3] [1, 2, 4] rfl rfl rfl rfl (by decide) rfl rfl rfl (Nat.le_of_ble_eq_true rfl) (Nat.le_of_ble_eq_true rfl) (Nat.le_of_ble_eq_true rfl) (Nat.le_of_ble_eq_true rfl) (Nat.le_of_ble_eq_true rfl) dX1_solve_65 (fun u_3 H locs hw_u_3 hP hD hS => ?_)
      have hP : va_P D classes [(c4, .inl (cI, 128, .inl (bB z0 128))), (c5, .inl (cI, 128, .inl (mM z0 128))), (t, .inr (8, [.int 0, .int 1, .int 0, .int 0, .int 0, .ref ta, .ref tb, .ref tc, .ref td, .ref te])), (h, .inr (1, [.int 0, .ref c1, .ref c2, .ref c3, .ref c4, .ref c5, .ref c6, .int 0, .int 0, .ref t])), (c6, .inl (cI, 128, .inl (cC z0 128)))] H := hP
      have hD : va_D A [(c4, .inl (cI, 128, .inl (bB z0 128))), (c5, .inl (cI, 128, .inl (mM z0 128))), (t, .inr (8, [.int 0, .int 1, .int 0, .int 0, .int 0, .ref ta, .ref tb, .ref tc, .ref td, .ref te])), (h, .inr (1, [.int 0, .ref c1, .ref c2, .ref c3, .ref c4, .ref c5, .ref c6, .int 0, .int 0, .ref t])), (c6, .inl (cI, 128, .inl (cC z0 128)))] := hD
      exact hret () _ _ _ _ dX1_solve_68 trivial (cutP (isC := [3, 2]) hP rfl) (cutD (isC := [3, 2]) hD rfl rfl) hS
    | succ n ih_lp_1 =>
      intro k hk H locs ls hP hD hS hl
      have hkN_lp_1 : k < 128 := by omega
      refine lv_iload_n hx hb dX1_solve_3 rfl (lv_at hl 0 rfl) ?_
      refine lv_if_lt (tgt := 64) hx hb dX1_solve_4 (by decide) (fun c_5 => absurd c_5 (gF_lt hkN_lp_1)) (fun c_5 => ?_)
      refine lv_aload_n hx hb dX1_solve_7 rfl (lv_at hl 1 rfl) ?_
      refine va_get (D := D) (ci := 1) (v := .ref c4) (C := RX1) (T := TX1) (N := 10) hx hb hts iX1 hown hK hP 0 rfl rfl 4 (by decide) (hts _ wd_35) (fun _ h9 => h9) rfl dX1_solve_8 ?_
      refine lv_iload_n hx hb dX1_solve_11 rfl (lv_at hl 0 rfl) ?_
      refine lv_aload_n hx hb dX1_solve_12 rfl (lv_at hl 1 rfl) ?_
      refine lv_iload_n hx hb dX1_solve_13 rfl (lv_at hl 0 rfl) ?_
      refine cVi (wr := [(c4, .inl (cI, 128, .inl (bB z0 k))), (c5, .inl (cI, 128, .inl (mM z0 k))), (c6, .inl (cI, 128, .inl (cC z0 k)))]) (rest := [.int (gF k), .ref c4]) (k_minuteBehind h ln c1 c2 c3 c4 c5 c6 t ta tb tc td te (gF k)) okV_X1_minuteBehind wd_173 hx hb hml hown hts hK hP hD hS hA hN hl.1 [0, 4] [1, 2, 3] rfl rfl rfl rfl (by decide) rfl rfl rfl (Nat.le_of_ble_eq_true rfl) (Nat.le_of_ble_eq_true rfl) (Nat.le_of_ble_eq_true rfl) (Nat.le_of_ble_eq_true rfl) (Nat.le_of_ble_eq_true rfl) dX1_solve_14 (fun r_7 u_6 H locs hw_u_6 hP hD hS => ?_)
      obtain rfl := hw_u_6
      have hP : va_P D classes [(c4, .inl (cI, 128, .inl (bB z0 k))), (c5, .inl (cI, 128, .inl (mM z0 k))), (c6, .inl (cI, 128, .inl (cC z0 k))), (h, .inr (1, [.int ln, .ref c1, .ref c2, .ref c3, .ref c4, .ref c5, .ref c6, .int 0, .int 0, .ref t])), (t, .inr (8, [.int 0, .int 1, .int 0, .int 0, .int 0, .ref ta, .ref tb, .ref tc, .ref td, .ref te]))] H := hP
      have hD : va_D A [(c4, .inl (cI, 128, .inl (bB z0 k))), (c5, .inl (cI, 128, .inl (mM z0 k))), (c6, .inl (cI, 128, .inl (cC z0 k))), (h, .inr (1, [.int ln, .ref c1, .ref c2, .ref c3, .ref c4, .ref c5, .ref c6, .int 0, .int 0, .ref t])), (t, .inr (8, [.int 0, .int 1, .int 0, .int 0, .int 0, .ref ta, .ref tb, .ref tc, .ref td, .ref te]))] := hD
      refine cNv (wr := [(c5, .inl (cI, 128, .inl (mM z0 k))), (c6, .inl (cI, 128, .inl (cC z0 k))), (h, .inr (1, [.int ln, .ref c1, .ref c2, .ref c3, .ref c4, .ref c5, .ref c6, .int 0, .int 0, .ref t])), (t, .inr (8, [.int 0, .int 1, .int 0, .int 0, .int 0, .ref ta, .ref tb, .ref tc, .ref td, .ref te]))]) (rest := []) (k_put c4 128 (bB z0 k) (gF k) (mbF (gF k)) (by decide)) okS_X9_put 11 rfl hx hb hml hown hts hK hP hD hS hA hN hl.1 [0] [1, 2, 3, 4] rfl rfl rfl rfl (by decide) rfl (Nat.le_of_ble_eq_true rfl) (Nat.le_of_ble_eq_true rfl) (Nat.le_of_ble_eq_true rfl) (Nat.le_of_ble_eq_true rfl) (Nat.le_of_ble_eq_true rfl) dX1_solve_17 (fun u_8 H locs hw_u_8 hP hD hS => ?_)
      have hP : va_P D classes [(c5, .inl (cI, 128, .inl (mM z0 k))), (c6, .inl (cI, 128, .inl (cC z0 k))), (h, .inr (1, [.int ln, .ref c1, .ref c2, .ref c3, .ref c4, .ref c5, .ref c6, .int 0, .int 0, .ref t])), (t, .inr (8, [.int 0, .int 1, .int 0, .int 0, .int 0, .ref ta, .ref tb, .ref tc, .ref td, .ref te])), (c4, .inl (cI, 128, .inl (putF 128 (bB z0 k) (gF k) (mbF (gF k)))))] H := hP
      have hD : va_D A [(c5, .inl (cI, 128, .inl (mM z0 k))), (c6, .inl (cI, 128, .inl (cC z0 k))), (h, .inr (1, [.int ln, .ref c1, .ref c2, .ref c3, .ref c4, .ref c5, .ref c6, .int 0, .int 0, .ref t])), (t, .inr (8, [.int 0, .int 1, .int 0, .int 0, .int 0, .ref ta, .ref tb, .ref tc, .ref td, .ref te])), (c4, .inl (cI, 128, .inl (putF 128 (bB z0 k) (gF k) (mbF (gF k)))))] := hD
      refine lv_aload_n hx hb dX1_solve_20 rfl (lv_at hl 1 rfl) ?_
      refine va_get (D := D) (ci := 1) (v := .ref c5) (C := RX1) (T := TX1) (N := 10) hx hb hts iX1 hown hK hP 2 rfl rfl 5 (by decide) (hts _ wd_36) (fun _ h9 => h9) rfl dX1_solve_21 ?_
      refine lv_iload_n hx hb dX1_solve_24 rfl (lv_at hl 0 rfl) ?_
      refine lv_iconst (v := 0) hx hb dX1_solve_25 (by decide) ?_
      refine cNv (wr := [(c6, .inl (cI, 128, .inl (cC z0 k))), (h, .inr (1, [.int ln, .ref c1, .ref c2, .ref c3, .ref c4, .ref c5, .ref c6, .int 0, .int 0, .ref t])), (t, .inr (8, [.int 0, .int 1, .int 0, .int 0, .int 0, .ref ta, .ref tb, .ref tc, .ref td, .ref te])), (c4, .inl (cI, 128, .inl (putF 128 (bB z0 k) (gF k) (mbF (gF k)))))]) (rest := []) (k_put c5 128 (mM z0 k) (gF k) 0 (by decide)) okS_X9_put 11 rfl hx hb hml hown hts hK hP hD hS hA hN hl.1 [0] [1, 2, 3, 4] rfl rfl rfl rfl (by decide) rfl (Nat.le_of_ble_eq_true rfl) (Nat.le_of_ble_eq_true rfl) (Nat.le_of_ble_eq_true rfl) (Nat.le_of_ble_eq_true rfl) (Nat.le_of_ble_eq_true rfl) dX1_solve_26 (fun u_10 H locs hw_u_10 hP hD hS => ?_)
      have hP : va_P D classes [(c6, .inl (cI, 128, .inl (cC z0 k))), (h, .inr (1, [.int ln, .ref c1, .ref c2, .ref c3, .ref c4, .ref c5, .ref c6, .int 0, .int 0, .ref t])), (t, .inr (8, [.int 0, .int 1, .int 0, .int 0, .int 0, .ref ta, .ref tb, .ref tc, .ref td, .ref te])), (c4, .inl (cI, 128, .inl (putF 128 (bB z0 k) (gF k) (mbF (gF k))))), (c5, .inl (cI, 128, .inl (putF 128 (mM z0 k) (gF k) 0)))] H := hP
      have hD : va_D A [(c6, .inl (cI, 128, .inl (cC z0 k))), (h, .inr (1, [.int ln, .ref c1, .ref c2, .ref c3, .ref c4, .ref c5, .ref c6, .int 0, .int 0, .ref t])), (t, .inr (8, [.int 0, .int 1, .int 0, .int 0, .int 0, .ref ta, .ref tb, .ref tc, .ref td, .ref te])), (c4, .inl (cI, 128, .inl (putF 128 (bB z0 k) (gF k) (mbF (gF k))))), (c5, .inl (cI, 128, .inl (putF 128 (mM z0 k) (gF k) 0)))] := hD
      refine lv_aload_n hx hb dX1_solve_29 rfl (lv_at hl 1 rfl) ?_
      refine va_get (D := D) (ci := 1) (v := .ref c6) (C := RX1) (T := TX1) (N := 10) hx hb hts iX1 hown hK hP 1 rfl rfl 6 (by decide) (hts _ wd_37) (fun _ h9 => h9) rfl dX1_solve_30 ?_
      refine lv_iload_n hx hb dX1_solve_33 rfl (lv_at hl 0 rfl) ?_
      refine lv_iconst (v := (-1)) hx hb dX1_solve_34 (by decide) ?_
      refine cNv (wr := [(h, .inr (1, [.int ln, .ref c1, .ref c2, .ref c3, .ref c4, .ref c5, .ref c6, .int 0, .int 0, .ref t])), (t, .inr (8, [.int 0, .int 1, .int 0, .int 0, .int 0, .ref ta, .ref tb, .ref tc, .ref td, .ref te])), (c4, .inl (cI, 128, .inl (putF 128 (bB z0 k) (gF k) (mbF (gF k))))), (c5, .inl (cI, 128, .inl (putF 128 (mM z0 k) (gF k) 0)))]) (rest := []) (k_put c6 128 (cC z0 k) (gF k) (-1) (by decide)) okS_X9_put 11 rfl hx hb hml hown hts hK hP hD hS hA hN hl.1 [0] [1, 2, 3, 4] rfl rfl rfl rfl (by decide) rfl (Nat.le_of_ble_eq_true rfl) (Nat.le_of_ble_eq_true rfl) (Nat.le_of_ble_eq_true rfl) (Nat.le_of_ble_eq_true rfl) (Nat.le_of_ble_eq_true rfl) dX1_solve_35 (fun u_12 H locs hw_u_12 hP hD hS => ?_)
      have hP : va_P D classes [(h, .inr (1, [.int ln, .ref c1, .ref c2, .ref c3, .ref c4, .ref c5, .ref c6, .int 0, .int 0, .ref t])), (t, .inr (8, [.int 0, .int 1, .int 0, .int 0, .int 0, .ref ta, .ref tb, .ref tc, .ref td, .ref te])), (c4, .inl (cI, 128, .inl (putF 128 (bB z0 k) (gF k) (mbF (gF k))))), (c5, .inl (cI, 128, .inl (putF 128 (mM z0 k) (gF k) 0))), (c6, .inl (cI, 128, .inl (putF 128 (cC z0 k) (gF k) (-1))))] H := hP
      have hD : va_D A [(h, .inr (1, [.int ln, .ref c1, .ref c2, .ref c3, .ref c4, .ref c5, .ref c6, .int 0, .int 0, .ref t])), (t, .inr (8, [.int 0, .int 1, .int 0, .int 0, .int 0, .ref ta, .ref tb, .ref tc, .ref td, .ref te])), (c4, .inl (cI, 128, .inl (putF 128 (bB z0 k) (gF k) (mbF (gF k))))), (c5, .inl (cI, 128, .inl (putF 128 (mM z0 k) (gF k) 0))), (c6, .inl (cI, 128, .inl (putF 128 (cC z0 k) (gF k) (-1))))] := hD
      refine lv_iconst (v := 0) hx hb dX1_solve_38 (by decide) ?_
      refine lv_istore_n (lv' := [(2, .int 0), (1, .int (gF k)), (0, .ref h)]) hx hb dX1_solve_39 rfl hl (by decide) rfl (fun ls hl => ?_)
      have lp_14 : ∀ (n j : Nat), j + n = 7 → ∀ (H : Heap) (locs : List Loc) (ls : Array Slot), va_P D classes [(h, .inr (1, [.int ln, .ref c1, .ref c2, .ref c3, .ref c4, .ref c5, .ref c6, .int 0, .int 0, .ref t])), (t, .inr (8, [.int 0, .int 1, .int 0, .int 0, .int 0, .ref ta, .ref tb, .ref tc, .ref td, .ref te])), (c4, .inl (cI, 128, .inl (putF 128 (bB z0 k) (gF k) (mbF (gF k))))), (c5, .inl (cI, 128, .inl (putF 128 (mM z0 k) (gF k) 0))), (c6, .inl (cI, 128, .inl (putF 128 (cC z0 k) (gF k) (-1))))] H → va_D A [(h, .inr (1, [.int ln, .ref c1, .ref c2, .ref c3, .ref c4, .ref c5, .ref c6, .int 0, .int 0, .ref t])), (t, .inr (8, [.int 0, .int 1, .int 0, .int 0, .int 0, .ref ta, .ref tb, .ref tc, .ref td, .ref te])), (c4, .inl (cI, 128, .inl (putF 128 (bB z0 k) (gF k) (mbF (gF k))))), (c5, .inl (cI, 128, .inl (putF 128 (mM z0 k) (gF k) 0))), (c6, .inl (cI, 128, .inl (putF 128 (cC z0 k) (gF k) (-1))))] → va_S A s.heap H locs → lv_has ls 3 [(2, .int (nI j)), (1, .int (gF k)), (0, .ref h)] → W p l e rm_k_solve s m args below meth c H locs 0 0 Q (F0 m 40 ls []) := by
        intro n
        induction n with
        | zero =>
          intro j hk H locs ls hP hD hS hl
          obtain rfl : j = 7 := by omega
          refine lv_iload_n hx hb dX1_solve_40 rfl (lv_at hl 0 rfl) ?_
          refine lv_bipush (v := 7) hx hb dX1_solve_41 (by decide) ?_
          refine lv_icmp_ge (tgt := 58) hx hb dX1_solve_43 (by decide) (fun c_15 => ?_) (fun c_15 => absurd (by decide +kernel) c_15)
          refine lv_iinc (v := (gF (k + 1))) (lv' := [(1, .int (gF (k + 1))), (2, .int (nI 7)), (0, .ref h)]) hx hb dX1_solve_58 hl (k := 1) rfl (gF_dec k) (by decide) rfl (fun ls hl => ?_)
          refine lv_goto (tgt := 3) hx hb dX1_solve_61 (by decide) ?_
          exact ih_lp_1 (k + 1) (by omega) _ _ ls (cutP (isC := [0, 2, 3, 4, 1]) hP rfl) (cutD (isC := [0, 2, 3, 4, 1]) hD rfl rfl) hS (lv_sub hl [0, 2] rfl)
        | succ n ih_lp_14 =>
          intro j hk H locs ls hP hD hS hl
          have hkN_lp_14 : j < 7 := by omega
          refine lv_iload_n hx hb dX1_solve_40 rfl (lv_at hl 0 rfl) ?_
          refine lv_bipush (v := 7) hx hb dX1_solve_41 (by decide) ?_
          refine lv_icmp_ge (tgt := 58) hx hb dX1_solve_43 (by decide) (fun c_16 => absurd c_16 (nI_ge hkN_lp_14 (by decide))) (fun c_16 => ?_)
          refine lv_aload_n hx hb dX1_solve_46 rfl (lv_at hl 2 rfl) ?_
          refine lv_iload_n hx hb dX1_solve_47 rfl (lv_at hl 1 rfl) ?_
          refine lv_iload_n hx hb dX1_solve_48 rfl (lv_at hl 0 rfl) ?_
          refine cVv (wr := [(t, .inr (8, [.int 0, .int 1, .int 0, .int 0, .int 0, .ref ta, .ref tb, .ref tc, .ref td, .ref te])), (c5, .inl (cI, 128, .inl (putF 128 (mM z0 k) (gF k) 0))), (c6, .inl (cI, 128, .inl (putF 128 (cC z0 k) (gF k) (-1))))]) (rest := []) (k_weigh h ln c1 c2 c3 c4 c5 c6 t (putF 128 (bB z0 k) (gF k) (mbF (gF k))) (gF k) (nI j) (wq z0 hkN_lp_1 hkN_lp_14)) okV_X1_weigh wd_177 hx hb hml hown hts hK hP hD hS hA hN hl.1 [0, 2] [1, 3, 4] rfl rfl rfl rfl (by decide) rfl rfl rfl (Nat.le_of_ble_eq_true rfl) (Nat.le_of_ble_eq_true rfl) (Nat.le_of_ble_eq_true rfl) (Nat.le_of_ble_eq_true rfl) (Nat.le_of_ble_eq_true rfl) dX1_solve_49 (fun u_17 H locs hw_u_17 hP hD hS => ?_)
          have hP : va_P D classes [(t, .inr (8, [.int 0, .int 1, .int 0, .int 0, .int 0, .ref ta, .ref tb, .ref tc, .ref td, .ref te])), (c5, .inl (cI, 128, .inl (putF 128 (mM z0 k) (gF k) 0))), (c6, .inl (cI, 128, .inl (putF 128 (cC z0 k) (gF k) (-1)))), (h, .inr (1, [.int ln, .ref c1, .ref c2, .ref c3, .ref c4, .ref c5, .ref c6, .int 0, .int 0, .ref t])), (c4, .inl (cI, 128, .inl (putF 128 (bB z0 k) (gF k) (mbF (gF k)))))] H := hP
          have hD : va_D A [(t, .inr (8, [.int 0, .int 1, .int 0, .int 0, .int 0, .ref ta, .ref tb, .ref tc, .ref td, .ref te])), (c5, .inl (cI, 128, .inl (putF 128 (mM z0 k) (gF k) 0))), (c6, .inl (cI, 128, .inl (putF 128 (cC z0 k) (gF k) (-1)))), (h, .inr (1, [.int ln, .ref c1, .ref c2, .ref c3, .ref c4, .ref c5, .ref c6, .int 0, .int 0, .ref t])), (c4, .inl (cI, 128, .inl (putF 128 (bB z0 k) (gF k) (mbF (gF k)))))] := hD
          refine lv_iinc (v := (nI (j + 1))) (lv' := [(2, .int (nI (j + 1))), (1, .int (gF k)), (0, .ref h)]) hx hb dX1_solve_52 hl (k := 0) rfl (nI_1 j) (by decide) rfl (fun ls hl => ?_)
          refine lv_goto (tgt := 40) hx hb dX1_solve_55 (by decide) ?_
          exact ih_lp_14 (j + 1) (by omega) _ _ ls (cutP (isC := [3, 0, 4, 1, 2]) hP rfl) (cutD (isC := [3, 0, 4, 1, 2]) hD rfl rfl) hS (lv_sub hl [0, 1, 2] rfl)
      exact lp_14 7 0 (by omega) _ _ ls hP hD hS hl
  exact lp_1 128 0 (by omega) _ _ ls hP hD hS hl
def rm_k_gather : Room := { frames := 3, cells := 0, slots := 0, locals := 65 }
set_option maxHeartbeats 4000000 in
set_option maxRecDepth 100000 in
theorem k_gather {l : Launch} {D : va_G} {cI cZ : ClassId} {sz : Nat} (h c1 c2 c3 c4 c5 c6 t ta tb tc td te n a : Nat) : KV l yX1_gather cX1_gather 3 rm_k_gather D cI cZ [.ref h, .ref t, .ref n] sz [(h, .inr (1, [.int 0, .ref c1, .ref c2, .ref c3, .ref c4, .ref c5, .ref c6, .int 0, .int 0, .null])), (c2, .inl (cI, 6, .inl z0)), (c3, .inl (cI, 48, .inl z0)), (t, .inr (8, [.int 0, .int 1, .int 0, .int 0, .int 0, .ref ta, .ref tb, .ref tc, .ref td, .ref te])), (n, .inr (7, [.ref a])), (a, .inl (cI, 41, .inl (cB2 z0 7)))] (fun (_ : Unit) => True) (fun (_ : Unit) => [(h, .inr (1, [.int 0, .ref c1, .ref c2, .ref c3, .ref c4, .ref c5, .ref c6, .int 0, .int 0, .ref t])), (t, .inr (8, [.int 0, .int 1, .int 0, .int 0, .int 0, .ref ta, .ref tb, .ref tc, .ref td, .ref te]))]) := by
  refine KV.go rfl (Nat.le_of_ble_eq_true rfl) ?_
  intro p e s m args below meth c ls A Q hx hb hml hts hown hin hP hK hD hS hA hN hl hret
  have hl : lv_has ls 3 [(0, .ref h), (1, .ref t), (2, .ref n)] := hl
  refine lv_aload_n hx hb dX1_gather_0 rfl (lv_at hl 0 rfl) ?_
  refine lv_aload_n hx hb dX1_gather_1 rfl (lv_at hl 1 rfl) ?_
  refine va_put (D := D) (ci := 1) (v := .ref t) (ty := (.object "QuarrelBridges$Town")) (C := RX1) (T := TX1) (N := 10) hx hb hts iX1 tyX1 tyX1_ok nmX1 hown hK hP hD hS 0 rfl rfl 9 (by decide) (hts _ wd_40) (fun _ h9 => h9) rfl (by decide +kernel) rfl rfl (Nat.le_of_ble_eq_true rfl) dX1_gather_2 (fun H locs hP hD hS => ?_)
  have hP : va_P D classes [(h, .inr (1, [.int 0, .ref c1, .ref c2, .ref c3, .ref c4, .ref c5, .ref c6, .int 0, .int 0, .ref t])), (c2, .inl (cI, 6, .inl z0)), (c3, .inl (cI, 48, .inl z0)), (t, .inr (8, [.int 0, .int 1, .int 0, .int 0, .int 0, .ref ta, .ref tb, .ref tc, .ref td, .ref te])), (n, .inr (7, [.ref a])), (a, .inl (cI, 41, .inl (cB2 z0 7)))] H := hP
  have hD : va_D A [(h, .inr (1, [.int 0, .ref c1, .ref c2, .ref c3, .ref c4, .ref c5, .ref c6, .int 0, .int 0, .ref t])), (c2, .inl (cI, 6, .inl z0)), (c3, .inl (cI, 48, .inl z0)), (t, .inr (8, [.int 0, .int 1, .int 0, .int 0, .int 0, .ref ta, .ref tb, .ref tc, .ref td, .ref te])), (n, .inr (7, [.ref a])), (a, .inl (cI, 41, .inl (cB2 z0 7)))] := hD
  refine lv_aload_n hx hb dX1_gather_5 rfl (lv_at hl 0 rfl) ?_
  refine lv_aload_n hx hb dX1_gather_6 rfl (lv_at hl 2 rfl) ?_
  refine cVi (wr := [(h, .inr (1, [.int 0, .ref c1, .ref c2, .ref c3, .ref c4, .ref c5, .ref c6, .int 0, .int 0, .ref t])), (c2, .inl (cI, 6, .inl z0)), (c3, .inl (cI, 48, .inl z0)), (t, .inr (8, [.int 0, .int 1, .int 0, .int 0, .int 0, .ref ta, .ref tb, .ref tc, .ref td, .ref te]))]) (rest := [.ref h]) (k_minutes n a (cB2 z0 7)) okV_X7_minutes wd_181 hx hb hml hown hts hK hP hD hS hA hN hl.1 [4, 5] [0, 1, 2, 3] rfl rfl rfl rfl (by decide) rfl rfl rfl (Nat.le_of_ble_eq_true rfl) (Nat.le_of_ble_eq_true rfl) (Nat.le_of_ble_eq_true rfl) (Nat.le_of_ble_eq_true rfl) (Nat.le_of_ble_eq_true rfl) dX1_gather_7 (fun r_2 u_1 H locs hw_u_1 hP hD hS => ?_)
  obtain rfl := hw_u_1
  have hP : va_P D classes [(h, .inr (1, [.int 0, .ref c1, .ref c2, .ref c3, .ref c4, .ref c5, .ref c6, .int 0, .int 0, .ref t])), (c2, .inl (cI, 6, .inl z0)), (c3, .inl (cI, 48, .inl z0)), (t, .inr (8, [.int 0, .int 1, .int 0, .int 0, .int 0, .ref ta, .ref tb, .ref tc, .ref td, .ref te])), (n, .inr (7, [.ref a])), (a, .inl (cI, 41, .inl (cB2 z0 7)))] H := hP
  have hD : va_D A [(h, .inr (1, [.int 0, .ref c1, .ref c2, .ref c3, .ref c4, .ref c5, .ref c6, .int 0, .int 0, .ref t])), (c2, .inl (cI, 6, .inl z0)), (c3, .inl (cI, 48, .inl z0)), (t, .inr (8, [.int 0, .int 1, .int 0, .int 0, .int 0, .ref ta, .ref tb, .ref tc, .ref td, .ref te])), (n, .inr (7, [.ref a])), (a, .inl (cI, 41, .inl (cB2 z0 7)))] := hD
  refine lv_topi (fun z_3 ez_3 => ?_)
  obtain rfl : z_3 = 0 := ez_3.trans (by decide +kernel)
  refine va_put (D := D) (ci := 1) (v := .int 0) (ty := .int) (C := RX1) (T := TX1) (N := 10) hx hb hts iX1 tyX1 tyX1_ok nmX1 hown hK hP hD hS 0 rfl rfl 8 (by decide) (hts _ wd_39) (fun _ h9 => h9) rfl (by decide +kernel) rfl rfl (Nat.le_of_ble_eq_true rfl) dX1_gather_10 (fun H locs hP hD hS => ?_)
  have hP : va_P D classes [(h, .inr (1, [.int 0, .ref c1, .ref c2, .ref c3, .ref c4, .ref c5, .ref c6, .int 0, .int 0, .ref t])), (c2, .inl (cI, 6, .inl z0)), (c3, .inl (cI, 48, .inl z0)), (t, .inr (8, [.int 0, .int 1, .int 0, .int 0, .int 0, .ref ta, .ref tb, .ref tc, .ref td, .ref te])), (n, .inr (7, [.ref a])), (a, .inl (cI, 41, .inl (cB2 z0 7)))] H := hP
  have hD : va_D A [(h, .inr (1, [.int 0, .ref c1, .ref c2, .ref c3, .ref c4, .ref c5, .ref c6, .int 0, .int 0, .ref t])), (c2, .inl (cI, 6, .inl z0)), (c3, .inl (cI, 48, .inl z0)), (t, .inr (8, [.int 0, .int 1, .int 0, .int 0, .int 0, .ref ta, .ref tb, .ref tc, .ref td, .ref te])), (n, .inr (7, [.ref a])), (a, .inl (cI, 41, .inl (cB2 z0 7)))] := hD
  refine lv_aload_n hx hb dX1_gather_13 rfl (lv_at hl 0 rfl) ?_
  refine lv_aload_n hx hb dX1_gather_14 rfl (lv_at hl 2 rfl) ?_
  refine lv_iconst (v := 0) hx hb dX1_gather_15 (by decide) ?_
  refine cVi (wr := [(h, .inr (1, [.int 0, .ref c1, .ref c2, .ref c3, .ref c4, .ref c5, .ref c6, .int 0, .int 0, .ref t])), (c2, .inl (cI, 6, .inl z0)), (c3, .inl (cI, 48, .inl z0)), (t, .inr (8, [.int 0, .int 1, .int 0, .int 0, .int 0, .ref ta, .ref tb, .ref tc, .ref td, .ref te]))]) (rest := [.ref h]) (k_bargesOfFate0 n a) okV_X7_bargesOfFate wd_185 hx hb hml hown hts hK hP hD hS hA hN hl.1 [4, 5] [0, 1, 2, 3] rfl rfl rfl rfl (by decide) rfl rfl rfl (Nat.le_of_ble_eq_true rfl) (Nat.le_of_ble_eq_true rfl) (Nat.le_of_ble_eq_true rfl) (Nat.le_of_ble_eq_true rfl) (Nat.le_of_ble_eq_true rfl) dX1_gather_16 (fun r_5 u_4 H locs hw_u_4 hP hD hS => ?_)
  obtain rfl := hw_u_4
  have hP : va_P D classes [(h, .inr (1, [.int 0, .ref c1, .ref c2, .ref c3, .ref c4, .ref c5, .ref c6, .int 0, .int 0, .ref t])), (c2, .inl (cI, 6, .inl z0)), (c3, .inl (cI, 48, .inl z0)), (t, .inr (8, [.int 0, .int 1, .int 0, .int 0, .int 0, .ref ta, .ref tb, .ref tc, .ref td, .ref te])), (n, .inr (7, [.ref a])), (a, .inl (cI, 41, .inl (cB2 z0 7)))] H := hP
  have hD : va_D A [(h, .inr (1, [.int 0, .ref c1, .ref c2, .ref c3, .ref c4, .ref c5, .ref c6, .int 0, .int 0, .ref t])), (c2, .inl (cI, 6, .inl z0)), (c3, .inl (cI, 48, .inl z0)), (t, .inr (8, [.int 0, .int 1, .int 0, .int 0, .int 0, .ref ta, .ref tb, .ref tc, .ref td, .ref te])), (n, .inr (7, [.ref a])), (a, .inl (cI, 41, .inl (cB2 z0 7)))] := hD
  refine lv_iconst (v := 1) hx hb dX1_gather_19 (by decide) ?_
  refine lv_aload_n hx hb dX1_gather_20 rfl (lv_at hl 1 rfl) ?_
  refine va_get (D := D) (ci := 8) (v := .int 0) (C := RX8) (T := TX8) (N := 10) hx hb hts iX8 hown hK hP 3 rfl rfl 3 (by decide) (hts _ wd_189) (fun _ h9 => h9) rfl dX1_gather_21 ?_
  refine lv_ishl hx hb dX1_gather_24 ?_
  refine lv_topi (fun z_6 ez_6 => ?_)
  obtain rfl : z_6 = 1 := ez_6.trans (by decide +kernel)
  refine lv_iconst (v := 1) hx hb dX1_gather_25 (by decide) ?_
  refine lv_isub hx hb dX1_gather_26 ?_
  refine lv_topi (fun z_7 ez_7 => ?_)
  obtain rfl : z_7 = 0 := ez_7.trans (by decide +kernel)
  refine lv_iand hx hb dX1_gather_27 ?_
  refine lv_topi (fun z_8 ez_8 => ?_)
  obtain rfl : z_8 = 0 := ez_8.trans (by decide +kernel)
  refine va_put (D := D) (ci := 1) (v := .int 0) (ty := .int) (C := RX1) (T := TX1) (N := 10) hx hb hts iX1 tyX1 tyX1_ok nmX1 hown hK hP hD hS 0 rfl rfl 7 (by decide) (hts _ wd_38) (fun _ h9 => h9) rfl (by decide +kernel) rfl rfl (Nat.le_of_ble_eq_true rfl) dX1_gather_28 (fun H locs hP hD hS => ?_)
  have hP : va_P D classes [(h, .inr (1, [.int 0, .ref c1, .ref c2, .ref c3, .ref c4, .ref c5, .ref c6, .int 0, .int 0, .ref t])), (c2, .inl (cI, 6, .inl z0)), (c3, .inl (cI, 48, .inl z0)), (t, .inr (8, [.int 0, .int 1, .int 0, .int 0, .int 0, .ref ta, .ref tb, .ref tc, .ref td, .ref te])), (n, .inr (7, [.ref a])), (a, .inl (cI, 41, .inl (cB2 z0 7)))] H := hP
  have hD : va_D A [(h, .inr (1, [.int 0, .ref c1, .ref c2, .ref c3, .ref c4, .ref c5, .ref c6, .int 0, .int 0, .ref t])), (c2, .inl (cI, 6, .inl z0)), (c3, .inl (cI, 48, .inl z0)), (t, .inr (8, [.int 0, .int 1, .int 0, .int 0, .int 0, .ref ta, .ref tb, .ref tc, .ref td, .ref te])), (n, .inr (7, [.ref a])), (a, .inl (cI, 41, .inl (cB2 z0 7)))] := hD
  refine lv_aload_n hx hb dX1_gather_31 rfl (lv_at hl 0 rfl) ?_
  refine va_get (D := D) (ci := 1) (v := .ref c2) (C := RX1) (T := TX1) (N := 10) hx hb hts iX1 hown hK hP 0 rfl rfl 2 (by decide) (hts _ wd_33) (fun _ h9 => h9) rfl dX1_gather_32 ?_
  refine lv_iconst (v := 0) hx hb dX1_gather_35 (by decide) ?_
  refine cSv (wr := [(h, .inr (1, [.int 0, .ref c1, .ref c2, .ref c3, .ref c4, .ref c5, .ref c6, .int 0, .int 0, .ref t])), (c3, .inl (cI, 48, .inl z0)), (t, .inr (8, [.int 0, .int 1, .int 0, .int 0, .int 0, .ref ta, .ref tb, .ref tc, .ref td, .ref te])), (n, .inr (7, [.ref a])), (a, .inl (cI, 41, .inl (cB2 z0 7)))]) (rest := []) (k_fill6 c2 z0) okS_J7_fill_53178 wd_190 hx hb hml hown hts hK hP hD hS hA hN hl.1 [1] [0, 2, 3, 4, 5] rfl rfl rfl rfl (by decide) rfl (Nat.le_of_ble_eq_true rfl) (Nat.le_of_ble_eq_true rfl) (Nat.le_of_ble_eq_true rfl) (Nat.le_of_ble_eq_true rfl) (Nat.le_of_ble_eq_true rfl) dX1_gather_36 (fun u_9 H locs hw_u_9 hP hD hS => ?_)
  have hP : va_P D classes [(h, .inr (1, [.int 0, .ref c1, .ref c2, .ref c3, .ref c4, .ref c5, .ref c6, .int 0, .int 0, .ref t])), (c3, .inl (cI, 48, .inl z0)), (t, .inr (8, [.int 0, .int 1, .int 0, .int 0, .int 0, .ref ta, .ref tb, .ref tc, .ref td, .ref te])), (n, .inr (7, [.ref a])), (a, .inl (cI, 41, .inl (cB2 z0 7))), (c2, .inl (cI, 6, .inl (fillZ z0 6)))] H := hP
  have hD : va_D A [(h, .inr (1, [.int 0, .ref c1, .ref c2, .ref c3, .ref c4, .ref c5, .ref c6, .int 0, .int 0, .ref t])), (c3, .inl (cI, 48, .inl z0)), (t, .inr (8, [.int 0, .int 1, .int 0, .int 0, .int 0, .ref ta, .ref tb, .ref tc, .ref td, .ref te])), (n, .inr (7, [.ref a])), (a, .inl (cI, 41, .inl (cB2 z0 7))), (c2, .inl (cI, 6, .inl (fillZ z0 6)))] := hD
  refine lv_aload_n hx hb dX1_gather_39 rfl (lv_at hl 0 rfl) ?_
  refine va_get (D := D) (ci := 1) (v := .ref c3) (C := RX1) (T := TX1) (N := 10) hx hb hts iX1 hown hK hP 0 rfl rfl 3 (by decide) (hts _ wd_34) (fun _ h9 => h9) rfl dX1_gather_40 ?_
  refine lv_iconst (v := 0) hx hb dX1_gather_43 (by decide) ?_
  refine cSv (wr := [(h, .inr (1, [.int 0, .ref c1, .ref c2, .ref c3, .ref c4, .ref c5, .ref c6, .int 0, .int 0, .ref t])), (t, .inr (8, [.int 0, .int 1, .int 0, .int 0, .int 0, .ref ta, .ref tb, .ref tc, .ref td, .ref te])), (n, .inr (7, [.ref a])), (a, .inl (cI, 41, .inl (cB2 z0 7))), (c2, .inl (cI, 6, .inl (fillZ z0 6)))]) (rest := []) (k_fill48 c3 z0) okS_J7_fill_53178 wd_190 hx hb hml hown hts hK hP hD hS hA hN hl.1 [1] [0, 2, 3, 4, 5] rfl rfl rfl rfl (by decide) rfl (Nat.le_of_ble_eq_true rfl) (Nat.le_of_ble_eq_true rfl) (Nat.le_of_ble_eq_true rfl) (Nat.le_of_ble_eq_true rfl) (Nat.le_of_ble_eq_true rfl) dX1_gather_44 (fun u_11 H locs hw_u_11 hP hD hS => ?_)
  have hP : va_P D classes [(h, .inr (1, [.int 0, .ref c1, .ref c2, .ref c3, .ref c4, .ref c5, .ref c6, .int 0, .int 0, .ref t])), (t, .inr (8, [.int 0, .int 1, .int 0, .int 0, .int 0, .ref ta, .ref tb, .ref tc, .ref td, .ref te])), (n, .inr (7, [.ref a])), (a, .inl (cI, 41, .inl (cB2 z0 7))), (c2, .inl (cI, 6, .inl (fillZ z0 6))), (c3, .inl (cI, 48, .inl (fillZ z0 48)))] H := hP
  have hD : va_D A [(h, .inr (1, [.int 0, .ref c1, .ref c2, .ref c3, .ref c4, .ref c5, .ref c6, .int 0, .int 0, .ref t])), (t, .inr (8, [.int 0, .int 1, .int 0, .int 0, .int 0, .ref ta, .ref tb, .ref tc, .ref td, .ref te])), (n, .inr (7, [.ref a])), (a, .inl (cI, 41, .inl (cB2 z0 7))), (c2, .inl (cI, 6, .inl (fillZ z0 6))), (c3, .inl (cI, 48, .inl (fillZ z0 48)))] := hD
  exact hret () _ _ _ _ dX1_gather_47 trivial (cutP (isC := [0, 1]) hP rfl) (cutD (isC := [0, 1]) hD rfl rfl) hS
end
section
theorem dX9_feed_0 : decode cX9_feed 0 = .ok (.iload_n 1, 1) := by decide +kernel
theorem dX9_feed_1 : decode cX9_feed 1 = .ok (.ifCond .lt 10, 3) := by decide +kernel
theorem wd_191 : Cond.constant RX9 104 (-1000000002) ∈ BG := BG_in (by decide +kernel) rfl
theorem dX9_feed_11 : decode cX9_feed 11 = .ok (.ldc 104, 2) := by decide +kernel
theorem dX9_feed_13 : decode cX9_feed 13 = .ok (.ireturn, 1) := by decide +kernel
theorem dX9_feed_4 : decode cX9_feed 4 = .ok (.iload_n 1, 1) := by decide +kernel
theorem dX9_feed_5 : decode cX9_feed 5 = .ok (.sipush 255, 3) := by decide +kernel
theorem dX9_feed_8 : decode cX9_feed 8 = .ok (.if_icmp .le 6, 3) := by decide +kernel
theorem dX9_feed_14 : decode cX9_feed 14 = .ok (.aload_n 0, 1) := by decide +kernel
theorem dX9_feed_15 : decode cX9_feed 15 = .ok (.getfield 13, 3) := by decide +kernel
theorem dX9_feed_18 : decode cX9_feed 18 = .ok (.sipush 240, 3) := by decide +kernel
theorem dX9_feed_21 : decode cX9_feed 21 = .ok (.if_icmp .lt 6, 3) := by decide +kernel
theorem dX9_feed_27 : decode cX9_feed 27 = .ok (.aload_n 0, 1) := by decide +kernel
theorem dX9_feed_28 : decode cX9_feed 28 = .ok (.getfield 9, 3) := by decide +kernel
theorem dX9_feed_31 : decode cX9_feed 31 = .ok (.aload_n 0, 1) := by decide +kernel
theorem dX9_feed_32 : decode cX9_feed 32 = .ok (.getfield 13, 3) := by decide +kernel
theorem dX9_feed_35 : decode cX9_feed 35 = .ok (.iload_n 1, 1) := by decide +kernel
theorem dX9_feed_36 : decode cX9_feed 36 = .ok (.invokestatic 106, 3) := by decide +kernel
theorem wd_192 : Cond.methodLink RX9 106 yX9_put ∈ BG := BG_in (by decide +kernel) rfl
theorem dX9_feed_39 : decode cX9_feed 39 = .ok (.aload_n 0, 1) := by decide +kernel
theorem dX9_feed_40 : decode cX9_feed 40 = .ok (.dup, 1) := by decide +kernel
theorem dX9_feed_41 : decode cX9_feed 41 = .ok (.getfield 13, 3) := by decide +kernel
theorem dX9_feed_44 : decode cX9_feed 44 = .ok (.iconst 1, 1) := by decide +kernel
theorem dX9_feed_45 : decode cX9_feed 45 = .ok (.iadd, 1) := by decide +kernel
theorem dX9_feed_46 : decode cX9_feed 46 = .ok (.putfield 13, 3) := by decide +kernel
theorem dX9_feed_49 : decode cX9_feed 49 = .ok (.aload_n 0, 1) := by decide +kernel
theorem dX9_feed_50 : decode cX9_feed 50 = .ok (.getfield 13, 3) := by decide +kernel
theorem dX9_feed_53 : decode cX9_feed 53 = .ok (.ireturn, 1) := by decide +kernel
theorem dX0_firstWrong_0 : decode cX0_firstWrong 0 = .ok (.iconst 0, 1) := by decide +kernel
theorem dX0_firstWrong_1 : decode cX0_firstWrong 1 = .ok (.istore_n 2, 1) := by decide +kernel
theorem dX0_firstWrong_2 : decode cX0_firstWrong 2 = .ok (.iload_n 2, 1) := by decide +kernel
theorem dX0_firstWrong_3 : decode cX0_firstWrong 3 = .ok (.aload_n 0, 1) := by decide +kernel
theorem dX0_firstWrong_4 : decode cX0_firstWrong 4 = .ok (.getfield 9, 3) := by decide +kernel
theorem dX0_firstWrong_7 : decode cX0_firstWrong 7 = .ok (.if_icmp .ge 34, 3) := by decide +kernel
theorem dX0_firstWrong_41 : decode cX0_firstWrong 41 = .ok (.iconst (-1), 1) := by decide +kernel
theorem dX0_firstWrong_42 : decode cX0_firstWrong 42 = .ok (.ireturn, 1) := by decide +kernel
theorem dX6_store_0 : decode cX6_store 0 = .ok (.iload_n 1, 1) := by decide +kernel
theorem dX6_store_1 : decode cX6_store 1 = .ok (.ifCond .lt 29, 3) := by decide +kernel
theorem dX6_store_4 : decode cX6_store 4 = .ok (.iload_n 1, 1) := by decide +kernel
theorem dX6_store_5 : decode cX6_store 5 = .ok (.aload_n 0, 1) := by decide +kernel
theorem dX6_store_6 : decode cX6_store 6 = .ok (.getfield 13, 3) := by decide +kernel
theorem dX6_store_9 : decode cX6_store 9 = .ok (.if_icmp .ge 21, 3) := by decide +kernel
theorem dX6_store_12 : decode cX6_store 12 = .ok (.aload_n 2, 1) := by decide +kernel
theorem wd_193 : Cond.fieldLink RX6 25 "QuarrelBridges$State" "cells" "[I" ∈ BG := BG_in (by decide +kernel) rfl
theorem dX6_store_13 : decode cX6_store 13 = .ok (.getfield 25, 3) := by decide +kernel
theorem dX6_store_16 : decode cX6_store 16 = .ok (.iconst 0, 1) := by decide +kernel
theorem dX6_store_17 : decode cX6_store 17 = .ok (.aload_n 0, 1) := by decide +kernel
theorem dX6_store_18 : decode cX6_store 18 = .ok (.getfield 21, 3) := by decide +kernel
theorem dX6_store_21 : decode cX6_store 21 = .ok (.iload_n 1, 1) := by decide +kernel
theorem dX6_store_22 : decode cX6_store 22 = .ok (.bipush 41, 2) := by decide +kernel
theorem dX6_store_24 : decode cX6_store 24 = .ok (.imul, 1) := by decide +kernel
theorem dX6_store_25 : decode cX6_store 25 = .ok (.bipush 41, 2) := by decide +kernel
theorem dX6_store_27 : decode cX6_store 27 = .ok (.invokestatic 26, 3) := by decide +kernel
theorem wd_194 : Cond.methodLink RX6 26 arraycopyName ∈ BG := BG_in (by decide +kernel) rfl
theorem wd_195 : Cond.native arraycopyName ∈ BG := BG_in (by decide +kernel) rfl
theorem wd_196 : Cond.static arraycopyName ∈ BG := BG_in (by decide +kernel) rfl
theorem wd_197 : Cond.initialized "java/lang/System" ∈ BG := BG_in (by decide +kernel) rfl
theorem dX6_store_30 : decode cX6_store 30 = .ok (.return_, 1) := by decide +kernel
theorem dX9_town_0 : decode cX9_town 0 = .ok (.aload_n 0, 1) := by decide +kernel
theorem dX9_town_1 : decode cX9_town 1 = .ok (.getfield 23, 3) := by decide +kernel
theorem dX9_town_4 : decode cX9_town 4 = .ok (.aload_n 0, 1) := by decide +kernel
theorem dX9_town_5 : decode cX9_town 5 = .ok (.getfield 9, 3) := by decide +kernel
theorem dX9_town_8 : decode cX9_town 8 = .ok (.aload_n 0, 1) := by decide +kernel
theorem dX9_town_9 : decode cX9_town 9 = .ok (.getfield 13, 3) := by decide +kernel
theorem dX9_town_12 : decode cX9_town 12 = .ok (.aload_n 0, 1) := by decide +kernel
theorem dX9_town_13 : decode cX9_town 13 = .ok (.getfield 34, 3) := by decide +kernel
theorem dX9_town_16 : decode cX9_town 16 = .ok (.invokevirtual 110, 3) := by decide +kernel
theorem wd_198 : Cond.methodLink RX9 110 yX5_read ∈ BG := BG_in (by decide +kernel) rfl
theorem wd_199 : Cond.code yX5_read cX5_read 5 none ∈ BG := BG_in (by decide +kernel) rfl
theorem wd_200 : Cond.instanceMethod yX5_read ∈ BG := BG_in (by decide +kernel) rfl
theorem wd_201 : Cond.selects RX5 yX5_read yX5_read ∈ BG := BG_in (by decide +kernel) rfl
theorem okV_X5_read : okV yX5_read cX5_read 5 none 3 := ⟨⟨wd_199, wd_80, by decide +kernel⟩, wd_200, wd_201⟩
theorem dX9_town_19 : decode cX9_town 19 = .ok (.aload_n 0, 1) := by decide +kernel
theorem dX9_town_20 : decode cX9_town 20 = .ok (.iconst 0, 1) := by decide +kernel
theorem dX9_town_21 : decode cX9_town 21 = .ok (.putfield 13, 3) := by decide +kernel
theorem dX9_town_24 : decode cX9_town 24 = .ok (.aload_n 0, 1) := by decide +kernel
theorem dX9_town_25 : decode cX9_town 25 = .ok (.aload_n 0, 1) := by decide +kernel
theorem dX9_town_26 : decode cX9_town 26 = .ok (.getfield 23, 3) := by decide +kernel
theorem wd_202 : Cond.fieldLink RX9 114 "QuarrelBridges$Reader" "faultAt" "I" ∈ BG := BG_in (by decide +kernel) rfl
theorem dX9_town_29 : decode cX9_town 29 = .ok (.getfield 114, 3) := by decide +kernel
theorem dX9_town_32 : decode cX9_town 32 = .ok (.putfield 17, 3) := by decide +kernel
theorem dX9_town_35 : decode cX9_town 35 = .ok (.aload_n 0, 1) := by decide +kernel
theorem dX9_town_36 : decode cX9_town 36 = .ok (.getfield 23, 3) := by decide +kernel
theorem wd_203 : Cond.fieldLink RX9 115 "QuarrelBridges$Reader" "fault" "I" ∈ BG := BG_in (by decide +kernel) rfl
theorem dX9_town_39 : decode cX9_town 39 = .ok (.getfield 115, 3) := by decide +kernel
theorem dX9_town_42 : decode cX9_town 42 = .ok (.ifCond .eq 14, 3) := by decide +kernel
theorem dX9_town_56 : decode cX9_town 56 = .ok (.aload_n 0, 1) := by decide +kernel
theorem dX9_town_57 : decode cX9_town 57 = .ok (.getfield 30, 3) := by decide +kernel
theorem dX9_town_60 : decode cX9_town 60 = .ok (.astore_n 1, 1) := by decide +kernel
theorem dX9_town_61 : decode cX9_town 61 = .ok (.aload_n 0, 1) := by decide +kernel
theorem dX9_town_62 : decode cX9_town 62 = .ok (.aload_n 0, 1) := by decide +kernel
theorem dX9_town_63 : decode cX9_town 63 = .ok (.getfield 34, 3) := by decide +kernel
theorem dX9_town_66 : decode cX9_town 66 = .ok (.putfield 30, 3) := by decide +kernel
theorem dX9_town_69 : decode cX9_town 69 = .ok (.aload_n 0, 1) := by decide +kernel
theorem dX9_town_70 : decode cX9_town 70 = .ok (.aload_n 1, 1) := by decide +kernel
theorem dX9_town_71 : decode cX9_town 71 = .ok (.putfield 34, 3) := by decide +kernel
theorem dX9_town_74 : decode cX9_town 74 = .ok (.aload_n 0, 1) := by decide +kernel
theorem dX9_town_75 : decode cX9_town 75 = .ok (.getfield 40, 3) := by decide +kernel
theorem dX9_town_78 : decode cX9_town 78 = .ok (.aload_n 0, 1) := by decide +kernel
theorem dX9_town_79 : decode cX9_town 79 = .ok (.getfield 30, 3) := by decide +kernel
theorem dX9_town_82 : decode cX9_town 82 = .ok (.invokevirtual 100, 3) := by decide +kernel
theorem dX9_town_85 : decode cX9_town 85 = .ok (.aload_n 0, 1) := by decide +kernel
theorem dX9_town_86 : decode cX9_town 86 = .ok (.getfield 47, 3) := by decide +kernel
theorem dX9_town_89 : decode cX9_town 89 = .ok (.invokevirtual 118, 3) := by decide +kernel
theorem wd_204 : Cond.methodLink RX9 118 yX2_forget ∈ BG := BG_in (by decide +kernel) rfl
theorem wd_205 : Cond.code yX2_forget cX2_forget 1 none ∈ BG := BG_in (by decide +kernel) rfl
theorem wd_206 : Cond.instanceMethod yX2_forget ∈ BG := BG_in (by decide +kernel) rfl
theorem wd_207 : Cond.selects RX2 yX2_forget yX2_forget ∈ BG := BG_in (by decide +kernel) rfl
theorem okV_X2_forget : okV yX2_forget cX2_forget 1 none 0 := ⟨⟨wd_205, wd_99, by decide +kernel⟩, wd_206, wd_207⟩
theorem dX9_town_92 : decode cX9_town 92 = .ok (.aload_n 0, 1) := by decide +kernel
theorem dX9_town_93 : decode cX9_town 93 = .ok (.iconst 0, 1) := by decide +kernel
theorem dX9_town_94 : decode cX9_town 94 = .ok (.putfield 63, 3) := by decide +kernel
theorem dX9_town_97 : decode cX9_town 97 = .ok (.aload_n 0, 1) := by decide +kernel
theorem dX9_town_98 : decode cX9_town 98 = .ok (.getfield 69, 3) := by decide +kernel
theorem dX9_town_101 : decode cX9_town 101 = .ok (.invokevirtual 121, 3) := by decide +kernel
theorem wd_208 : Cond.methodLink RX9 121 yX0_clear ∈ BG := BG_in (by decide +kernel) rfl
theorem wd_209 : Cond.code yX0_clear cX0_clear 1 none ∈ BG := BG_in (by decide +kernel) rfl
theorem wd_210 : Cond.instanceMethod yX0_clear ∈ BG := BG_in (by decide +kernel) rfl
theorem wd_211 : Cond.selects RX0 yX0_clear yX0_clear ∈ BG := BG_in (by decide +kernel) rfl
theorem okV_X0_clear : okV yX0_clear cX0_clear 1 none 0 := ⟨⟨wd_209, wd_110, by decide +kernel⟩, wd_210, wd_211⟩
theorem dX9_town_104 : decode cX9_town 104 = .ok (.aload_n 0, 1) := by decide +kernel
theorem dX9_town_105 : decode cX9_town 105 = .ok (.getfield 30, 3) := by decide +kernel
theorem wd_212 : Cond.fieldLink RX9 124 "QuarrelBridges$Town" "bridges" "I" ∈ BG := BG_in (by decide +kernel) rfl
theorem dX9_town_108 : decode cX9_town 108 = .ok (.getfield 124, 3) := by decide +kernel
theorem dX9_town_111 : decode cX9_town 111 = .ok (.ireturn, 1) := by decide +kernel
theorem dX9_fault_0 : decode cX9_fault 0 = .ok (.aload_n 0, 1) := by decide +kernel
theorem dX9_fault_1 : decode cX9_fault 1 = .ok (.getfield 17, 3) := by decide +kernel
theorem dX9_fault_4 : decode cX9_fault 4 = .ok (.ireturn, 1) := by decide +kernel
theorem dX9_told_0 : decode cX9_told 0 = .ok (.iload_n 1, 1) := by decide +kernel
theorem dX9_told_1 : decode cX9_told 1 = .ok (.tableswitch 183 0 13 #[71, 79, 87, 95, 103, 111, 116, 124, 132, 141, 150, 159, 167, 175], 71) := by decide +kernel
theorem dX9_told_184 : decode cX9_told 184 = .ok (.ldc 104, 2) := by decide +kernel
theorem dX9_told_186 : decode cX9_told 186 = .ok (.ireturn, 1) := by decide +kernel
theorem dX9_told_72 : decode cX9_told 72 = .ok (.aload_n 0, 1) := by decide +kernel
theorem dX9_told_73 : decode cX9_told 73 = .ok (.getfield 30, 3) := by decide +kernel
theorem dX9_told_76 : decode cX9_told 76 = .ok (.getfield 124, 3) := by decide +kernel
theorem dX9_told_79 : decode cX9_told 79 = .ok (.ireturn, 1) := by decide +kernel
theorem dX9_told_80 : decode cX9_told 80 = .ok (.aload_n 0, 1) := by decide +kernel
theorem dX9_told_81 : decode cX9_told 81 = .ok (.getfield 30, 3) := by decide +kernel
theorem wd_213 : Cond.fieldLink RX9 127 "QuarrelBridges$Town" "themes" "I" ∈ BG := BG_in (by decide +kernel) rfl
theorem dX9_told_84 : decode cX9_told 84 = .ok (.getfield 127, 3) := by decide +kernel
theorem dX9_told_87 : decode cX9_told 87 = .ok (.ireturn, 1) := by decide +kernel
theorem dX9_told_88 : decode cX9_told 88 = .ok (.aload_n 0, 1) := by decide +kernel
theorem dX9_told_89 : decode cX9_told 89 = .ok (.getfield 30, 3) := by decide +kernel
theorem wd_214 : Cond.fieldLink RX9 130 "QuarrelBridges$Town" "couples" "I" ∈ BG := BG_in (by decide +kernel) rfl
theorem dX9_told_92 : decode cX9_told 92 = .ok (.getfield 130, 3) := by decide +kernel
theorem dX9_told_95 : decode cX9_told 95 = .ok (.ireturn, 1) := by decide +kernel
theorem dX9_told_96 : decode cX9_told 96 = .ok (.aload_n 0, 1) := by decide +kernel
theorem dX9_told_97 : decode cX9_told 97 = .ok (.getfield 30, 3) := by decide +kernel
theorem wd_215 : Cond.fieldLink RX9 133 "QuarrelBridges$Town" "barges" "I" ∈ BG := BG_in (by decide +kernel) rfl
theorem dX9_told_100 : decode cX9_told 100 = .ok (.getfield 133, 3) := by decide +kernel
theorem dX9_told_103 : decode cX9_told 103 = .ok (.ireturn, 1) := by decide +kernel
theorem dX9_told_104 : decode cX9_told 104 = .ok (.aload_n 0, 1) := by decide +kernel
theorem dX9_told_105 : decode cX9_told 105 = .ok (.getfield 30, 3) := by decide +kernel
theorem wd_216 : Cond.fieldLink RX9 136 "QuarrelBridges$Town" "snow" "I" ∈ BG := BG_in (by decide +kernel) rfl
theorem dX9_told_108 : decode cX9_told 108 = .ok (.getfield 136, 3) := by decide +kernel
theorem dX9_told_111 : decode cX9_told 111 = .ok (.ireturn, 1) := by decide +kernel
theorem dX9_told_112 : decode cX9_told 112 = .ok (.aload_n 0, 1) := by decide +kernel
theorem dX9_told_113 : decode cX9_told 113 = .ok (.getfield 13, 3) := by decide +kernel
theorem dX9_told_116 : decode cX9_told 116 = .ok (.ireturn, 1) := by decide +kernel
theorem dX9_told_117 : decode cX9_told 117 = .ok (.aload_n 0, 1) := by decide +kernel
theorem dX9_told_118 : decode cX9_told 118 = .ok (.getfield 40, 3) := by decide +kernel
theorem dX9_told_121 : decode cX9_told 121 = .ok (.invokevirtual 139, 3) := by decide +kernel
theorem wd_217 : Cond.methodLink RX9 139 yX7_minutes ∈ BG := BG_in (by decide +kernel) rfl
theorem dX9_told_124 : decode cX9_told 124 = .ok (.ireturn, 1) := by decide +kernel
theorem dX9_told_125 : decode cX9_told 125 = .ok (.aload_n 0, 1) := by decide +kernel
theorem dX9_told_126 : decode cX9_told 126 = .ok (.getfield 40, 3) := by decide +kernel
theorem dX9_told_129 : decode cX9_told 129 = .ok (.invokevirtual 143, 3) := by decide +kernel
theorem wd_218 : Cond.methodLink RX9 143 yX7_reconciledSet ∈ BG := BG_in (by decide +kernel) rfl
theorem wd_219 : Cond.code yX7_reconciledSet cX7_reconciledSet 1 (some .int) ∈ BG := BG_in (by decide +kernel) rfl
theorem wd_220 : Cond.instanceMethod yX7_reconciledSet ∈ BG := BG_in (by decide +kernel) rfl
theorem wd_221 : Cond.selects RX7 yX7_reconciledSet yX7_reconciledSet ∈ BG := BG_in (by decide +kernel) rfl
theorem okV_X7_reconciledSet : okV yX7_reconciledSet cX7_reconciledSet 1 (some .int) 0 := ⟨⟨wd_219, wd_93, by decide +kernel⟩, wd_220, wd_221⟩
theorem dX9_told_132 : decode cX9_told 132 = .ok (.ireturn, 1) := by decide +kernel
theorem dX9_told_133 : decode cX9_told 133 = .ok (.aload_n 0, 1) := by decide +kernel
theorem dX9_told_134 : decode cX9_told 134 = .ok (.getfield 40, 3) := by decide +kernel
theorem dX9_told_137 : decode cX9_told 137 = .ok (.iconst 1, 1) := by decide +kernel
theorem dX9_told_138 : decode cX9_told 138 = .ok (.invokevirtual 146, 3) := by decide +kernel
theorem wd_222 : Cond.methodLink RX9 146 yX7_bargesOfFate ∈ BG := BG_in (by decide +kernel) rfl
theorem dX9_told_141 : decode cX9_told 141 = .ok (.ireturn, 1) := by decide +kernel
theorem dX9_told_142 : decode cX9_told 142 = .ok (.aload_n 0, 1) := by decide +kernel
theorem dX9_told_143 : decode cX9_told 143 = .ok (.getfield 40, 3) := by decide +kernel
theorem dX9_told_146 : decode cX9_told 146 = .ok (.iconst 2, 1) := by decide +kernel
theorem dX9_told_147 : decode cX9_told 147 = .ok (.invokevirtual 146, 3) := by decide +kernel
theorem dX9_told_150 : decode cX9_told 150 = .ok (.ireturn, 1) := by decide +kernel
theorem dX9_told_151 : decode cX9_told 151 = .ok (.aload_n 0, 1) := by decide +kernel
theorem dX9_told_152 : decode cX9_told 152 = .ok (.getfield 40, 3) := by decide +kernel
theorem dX9_told_155 : decode cX9_told 155 = .ok (.iconst 3, 1) := by decide +kernel
theorem dX9_told_156 : decode cX9_told 156 = .ok (.invokevirtual 146, 3) := by decide +kernel
theorem dX9_told_159 : decode cX9_told 159 = .ok (.ireturn, 1) := by decide +kernel
theorem dX9_told_160 : decode cX9_told 160 = .ok (.aload_n 0, 1) := by decide +kernel
theorem dX9_told_161 : decode cX9_told 161 = .ok (.getfield 40, 3) := by decide +kernel
theorem dX9_told_164 : decode cX9_told 164 = .ok (.invokevirtual 150, 3) := by decide +kernel
theorem wd_223 : Cond.methodLink RX9 150 yX7_grievanceOfAll ∈ BG := BG_in (by decide +kernel) rfl
theorem wd_224 : Cond.code yX7_grievanceOfAll cX7_grievanceOfAll 1 (some .int) ∈ BG := BG_in (by decide +kernel) rfl
theorem wd_225 : Cond.instanceMethod yX7_grievanceOfAll ∈ BG := BG_in (by decide +kernel) rfl
theorem wd_226 : Cond.selects RX7 yX7_grievanceOfAll yX7_grievanceOfAll ∈ BG := BG_in (by decide +kernel) rfl
theorem okV_X7_grievanceOfAll : okV yX7_grievanceOfAll cX7_grievanceOfAll 1 (some .int) 0 := ⟨⟨wd_224, wd_93, by decide +kernel⟩, wd_225, wd_226⟩
theorem dX9_told_167 : decode cX9_told 167 = .ok (.ireturn, 1) := by decide +kernel
theorem dX9_told_168 : decode cX9_told 168 = .ok (.aload_n 0, 1) := by decide +kernel
theorem dX9_told_169 : decode cX9_told 169 = .ok (.getfield 69, 3) := by decide +kernel
theorem wd_227 : Cond.fieldLink RX9 153 "QuarrelBridges$Book" "entries" "I" ∈ BG := BG_in (by decide +kernel) rfl
theorem dX9_told_172 : decode cX9_told 172 = .ok (.getfield 153, 3) := by decide +kernel
theorem dX9_told_175 : decode cX9_told 175 = .ok (.ireturn, 1) := by decide +kernel
theorem dX9_told_176 : decode cX9_told 176 = .ok (.aload_n 0, 1) := by decide +kernel
theorem dX9_told_177 : decode cX9_told 177 = .ok (.getfield 47, 3) := by decide +kernel
theorem wd_228 : Cond.fieldLink RX9 156 "QuarrelBridges$History" "count" "I" ∈ BG := BG_in (by decide +kernel) rfl
theorem dX9_told_180 : decode cX9_told 180 = .ok (.getfield 156, 3) := by decide +kernel
theorem dX9_told_183 : decode cX9_told 183 = .ok (.ireturn, 1) := by decide +kernel
theorem dX9_bridge_0 : decode cX9_bridge 0 = .ok (.aload_n 0, 1) := by decide +kernel
theorem dX9_bridge_1 : decode cX9_bridge 1 = .ok (.getfield 30, 3) := by decide +kernel
theorem dX9_bridge_4 : decode cX9_bridge 4 = .ok (.iload_n 1, 1) := by decide +kernel
theorem dX9_bridge_5 : decode cX9_bridge 5 = .ok (.invokevirtual 159, 3) := by decide +kernel
theorem wd_229 : Cond.methodLink RX9 159 yX8_hasBridge ∈ BG := BG_in (by decide +kernel) rfl
theorem wd_230 : Cond.code yX8_hasBridge cX8_hasBridge 2 (some .boolean) ∈ BG := BG_in (by decide +kernel) rfl
theorem wd_231 : Cond.instanceMethod yX8_hasBridge ∈ BG := BG_in (by decide +kernel) rfl
theorem wd_232 : Cond.selects RX8 yX8_hasBridge yX8_hasBridge ∈ BG := BG_in (by decide +kernel) rfl
theorem okV_X8_hasBridge : okV yX8_hasBridge cX8_hasBridge 2 (some .boolean) 1 := ⟨⟨wd_230, wd_86, by decide +kernel⟩, wd_231, wd_232⟩
theorem dX9_bridge_8 : decode cX9_bridge 8 = .ok (.ifCond .ne 6, 3) := by decide +kernel
theorem wd_233 : Cond.constant RX9 163 (-1000000001) ∈ BG := BG_in (by decide +kernel) rfl
theorem dX9_bridge_11 : decode cX9_bridge 11 = .ok (.ldc 163, 2) := by decide +kernel
theorem dX9_bridge_13 : decode cX9_bridge 13 = .ok (.ireturn, 1) := by decide +kernel
theorem dX9_couple_0 : decode cX9_couple 0 = .ok (.aload_n 0, 1) := by decide +kernel
theorem dX9_couple_1 : decode cX9_couple 1 = .ok (.getfield 30, 3) := by decide +kernel
theorem dX9_couple_4 : decode cX9_couple 4 = .ok (.iload_n 1, 1) := by decide +kernel
theorem dX9_couple_5 : decode cX9_couple 5 = .ok (.invokevirtual 174, 3) := by decide +kernel
theorem wd_234 : Cond.methodLink RX9 174 yX8_hasCouple ∈ BG := BG_in (by decide +kernel) rfl
theorem wd_235 : Cond.code yX8_hasCouple cX8_hasCouple 2 (some .boolean) ∈ BG := BG_in (by decide +kernel) rfl
theorem wd_236 : Cond.instanceMethod yX8_hasCouple ∈ BG := BG_in (by decide +kernel) rfl
theorem wd_237 : Cond.selects RX8 yX8_hasCouple yX8_hasCouple ∈ BG := BG_in (by decide +kernel) rfl
theorem okV_X8_hasCouple : okV yX8_hasCouple cX8_hasCouple 2 (some .boolean) 1 := ⟨⟨wd_235, wd_86, by decide +kernel⟩, wd_236, wd_237⟩
theorem dX9_couple_8 : decode cX9_couple 8 = .ok (.ifCond .ne 6, 3) := by decide +kernel
theorem dX9_couple_11 : decode cX9_couple 11 = .ok (.ldc 163, 2) := by decide +kernel
theorem dX9_couple_13 : decode cX9_couple 13 = .ok (.ireturn, 1) := by decide +kernel
theorem dX9_force_0 : decode cX9_force 0 = .ok (.aload_n 0, 1) := by decide +kernel
theorem dX9_force_1 : decode cX9_force 1 = .ok (.getfield 30, 3) := by decide +kernel
theorem dX9_force_4 : decode cX9_force 4 = .ok (.iload_n 1, 1) := by decide +kernel
theorem dX9_force_5 : decode cX9_force 5 = .ok (.invokevirtual 174, 3) := by decide +kernel
theorem dX9_force_8 : decode cX9_force 8 = .ok (.ifCond .eq 14, 3) := by decide +kernel
theorem dX9_force_22 : decode cX9_force 22 = .ok (.ldc 163, 2) := by decide +kernel
theorem dX9_force_24 : decode cX9_force 24 = .ok (.ireturn, 1) := by decide +kernel
theorem dX9_barge_0 : decode cX9_barge 0 = .ok (.aload_n 0, 1) := by decide +kernel
theorem dX9_barge_1 : decode cX9_barge 1 = .ok (.getfield 30, 3) := by decide +kernel
theorem dX9_barge_4 : decode cX9_barge 4 = .ok (.iload_n 1, 1) := by decide +kernel
theorem dX9_barge_5 : decode cX9_barge 5 = .ok (.invokevirtual 199, 3) := by decide +kernel
theorem wd_238 : Cond.methodLink RX9 199 yX8_hasBarge ∈ BG := BG_in (by decide +kernel) rfl
theorem wd_239 : Cond.code yX8_hasBarge cX8_hasBarge 2 (some .boolean) ∈ BG := BG_in (by decide +kernel) rfl
theorem wd_240 : Cond.instanceMethod yX8_hasBarge ∈ BG := BG_in (by decide +kernel) rfl
theorem wd_241 : Cond.selects RX8 yX8_hasBarge yX8_hasBarge ∈ BG := BG_in (by decide +kernel) rfl
theorem okV_X8_hasBarge : okV yX8_hasBarge cX8_hasBarge 2 (some .boolean) 1 := ⟨⟨wd_239, wd_86, by decide +kernel⟩, wd_240, wd_241⟩
theorem dX9_barge_8 : decode cX9_barge 8 = .ok (.ifCond .ne 6, 3) := by decide +kernel
theorem dX9_barge_11 : decode cX9_barge 11 = .ok (.ldc 163, 2) := by decide +kernel
theorem dX9_barge_13 : decode cX9_barge 13 = .ok (.ireturn, 1) := by decide +kernel
theorem dX9_send_0 : decode cX9_send 0 = .ok (.aload_n 0, 1) := by decide +kernel
theorem dX9_send_1 : decode cX9_send 1 = .ok (.getfield 30, 3) := by decide +kernel
theorem dX9_send_4 : decode cX9_send 4 = .ok (.iload_n 1, 1) := by decide +kernel
theorem dX9_send_5 : decode cX9_send 5 = .ok (.invokevirtual 174, 3) := by decide +kernel
theorem dX9_send_8 : decode cX9_send 8 = .ok (.ifCond .eq 25, 3) := by decide +kernel
theorem dX9_send_33 : decode cX9_send 33 = .ok (.ldc 163, 2) := by decide +kernel
theorem dX9_send_35 : decode cX9_send 35 = .ok (.ireturn, 1) := by decide +kernel
theorem dX9_home_0 : decode cX9_home 0 = .ok (.aload_n 0, 1) := by decide +kernel
theorem dX9_home_1 : decode cX9_home 1 = .ok (.getfield 30, 3) := by decide +kernel
theorem dX9_home_4 : decode cX9_home 4 = .ok (.iload_n 1, 1) := by decide +kernel
theorem dX9_home_5 : decode cX9_home 5 = .ok (.invokevirtual 174, 3) := by decide +kernel
theorem dX9_home_8 : decode cX9_home 8 = .ok (.ifCond .ne 6, 3) := by decide +kernel
theorem dX9_home_11 : decode cX9_home 11 = .ok (.ldc 163, 2) := by decide +kernel
theorem dX9_home_13 : decode cX9_home 13 = .ok (.ireturn, 1) := by decide +kernel
theorem dX9_pass_0 : decode cX9_pass 0 = .ok (.aload_n 0, 1) := by decide +kernel
theorem dX9_pass_1 : decode cX9_pass 1 = .ok (.getfield 30, 3) := by decide +kernel
theorem dX9_pass_4 : decode cX9_pass 4 = .ok (.iload_n 1, 1) := by decide +kernel
theorem dX9_pass_5 : decode cX9_pass 5 = .ok (.invokevirtual 199, 3) := by decide +kernel
theorem dX9_pass_8 : decode cX9_pass 8 = .ok (.ifCond .ne 6, 3) := by decide +kernel
theorem dX9_pass_11 : decode cX9_pass 11 = .ok (.ldc 163, 2) := by decide +kernel
theorem dX9_pass_13 : decode cX9_pass 13 = .ok (.ireturn, 1) := by decide +kernel
theorem dX9_grieve_0 : decode cX9_grieve 0 = .ok (.aload_n 0, 1) := by decide +kernel
theorem dX9_grieve_1 : decode cX9_grieve 1 = .ok (.getfield 30, 3) := by decide +kernel
theorem dX9_grieve_4 : decode cX9_grieve 4 = .ok (.iload_n 1, 1) := by decide +kernel
theorem dX9_grieve_5 : decode cX9_grieve 5 = .ok (.invokevirtual 174, 3) := by decide +kernel
theorem dX9_grieve_8 : decode cX9_grieve 8 = .ok (.ifCond .ne 6, 3) := by decide +kernel
theorem dX9_grieve_11 : decode cX9_grieve 11 = .ok (.ldc 163, 2) := by decide +kernel
theorem dX9_grieve_13 : decode cX9_grieve 13 = .ok (.ireturn, 1) := by decide +kernel
theorem dX9_could_0 : decode cX9_could 0 = .ok (.aload_n 0, 1) := by decide +kernel
theorem dX9_could_1 : decode cX9_could 1 = .ok (.getfield 30, 3) := by decide +kernel
theorem dX9_could_4 : decode cX9_could 4 = .ok (.iload_n 1, 1) := by decide +kernel
theorem dX9_could_5 : decode cX9_could 5 = .ok (.invokevirtual 174, 3) := by decide +kernel
theorem dX9_could_8 : decode cX9_could 8 = .ok (.ifCond .eq 25, 3) := by decide +kernel
theorem dX9_could_33 : decode cX9_could 33 = .ok (.ldc 163, 2) := by decide +kernel
theorem dX9_could_35 : decode cX9_could 35 = .ok (.ireturn, 1) := by decide +kernel
theorem dX9_bestTheme_0 : decode cX9_bestTheme 0 = .ok (.aload_n 0, 1) := by decide +kernel
theorem dX9_bestTheme_1 : decode cX9_bestTheme 1 = .ok (.getfield 30, 3) := by decide +kernel
theorem dX9_bestTheme_4 : decode cX9_bestTheme 4 = .ok (.iload_n 1, 1) := by decide +kernel
theorem dX9_bestTheme_5 : decode cX9_bestTheme 5 = .ok (.invokevirtual 174, 3) := by decide +kernel
theorem dX9_bestTheme_8 : decode cX9_bestTheme 8 = .ok (.ifCond .eq 14, 3) := by decide +kernel
theorem dX9_bestTheme_22 : decode cX9_bestTheme 22 = .ok (.ldc 163, 2) := by decide +kernel
theorem dX9_bestTheme_24 : decode cX9_bestTheme 24 = .ok (.ireturn, 1) := by decide +kernel
theorem dX9_who_0 : decode cX9_who 0 = .ok (.aload_n 0, 1) := by decide +kernel
theorem dX9_who_1 : decode cX9_who 1 = .ok (.getfield 30, 3) := by decide +kernel
theorem dX9_who_4 : decode cX9_who 4 = .ok (.iload_n 1, 1) := by decide +kernel
theorem dX9_who_5 : decode cX9_who 5 = .ok (.invokevirtual 159, 3) := by decide +kernel
theorem dX9_who_8 : decode cX9_who 8 = .ok (.ifCond .eq 17, 3) := by decide +kernel
theorem dX9_who_25 : decode cX9_who 25 = .ok (.ldc 163, 2) := by decide +kernel
theorem dX9_who_27 : decode cX9_who 27 = .ok (.ireturn, 1) := by decide +kernel
theorem dX9_toldHer_0 : decode cX9_toldHer 0 = .ok (.aload_n 0, 1) := by decide +kernel
theorem dX9_toldHer_1 : decode cX9_toldHer 1 = .ok (.getfield 30, 3) := by decide +kernel
theorem dX9_toldHer_4 : decode cX9_toldHer 4 = .ok (.iload_n 1, 1) := by decide +kernel
theorem dX9_toldHer_5 : decode cX9_toldHer 5 = .ok (.invokevirtual 159, 3) := by decide +kernel
theorem dX9_toldHer_8 : decode cX9_toldHer 8 = .ok (.ifCond .ne 6, 3) := by decide +kernel
theorem dX9_toldHer_11 : decode cX9_toldHer 11 = .ok (.ldc 163, 2) := by decide +kernel
theorem dX9_toldHer_13 : decode cX9_toldHer 13 = .ok (.ireturn, 1) := by decide +kernel
theorem dX9_lasts_0 : decode cX9_lasts 0 = .ok (.aload_n 0, 1) := by decide +kernel
theorem dX9_lasts_1 : decode cX9_lasts 1 = .ok (.getfield 30, 3) := by decide +kernel
theorem dX9_lasts_4 : decode cX9_lasts 4 = .ok (.iload_n 1, 1) := by decide +kernel
theorem dX9_lasts_5 : decode cX9_lasts 5 = .ok (.invokevirtual 174, 3) := by decide +kernel
theorem dX9_lasts_8 : decode cX9_lasts 8 = .ok (.ifCond .eq 14, 3) := by decide +kernel
theorem dX9_lasts_22 : decode cX9_lasts 22 = .ok (.ldc 163, 2) := by decide +kernel
theorem dX9_lasts_24 : decode cX9_lasts 24 = .ok (.ireturn, 1) := by decide +kernel
theorem dX9_hire_0 : decode cX9_hire 0 = .ok (.aload_n 0, 1) := by decide +kernel
theorem dX9_hire_1 : decode cX9_hire 1 = .ok (.getfield 30, 3) := by decide +kernel
theorem dX9_hire_4 : decode cX9_hire 4 = .ok (.iload_n 1, 1) := by decide +kernel
theorem dX9_hire_5 : decode cX9_hire 5 = .ok (.invokevirtual 159, 3) := by decide +kernel
theorem dX9_hire_8 : decode cX9_hire 8 = .ok (.ifCond .ne 6, 3) := by decide +kernel
theorem dX9_hire_11 : decode cX9_hire 11 = .ok (.ldc 163, 2) := by decide +kernel
theorem dX9_hire_13 : decode cX9_hire 13 = .ok (.ireturn, 1) := by decide +kernel
theorem dX9_midstream_0 : decode cX9_midstream 0 = .ok (.aload_n 0, 1) := by decide +kernel
theorem dX9_midstream_1 : decode cX9_midstream 1 = .ok (.getfield 30, 3) := by decide +kernel
theorem dX9_midstream_4 : decode cX9_midstream 4 = .ok (.iload_n 1, 1) := by decide +kernel
theorem dX9_midstream_5 : decode cX9_midstream 5 = .ok (.invokevirtual 174, 3) := by decide +kernel
theorem dX9_midstream_8 : decode cX9_midstream 8 = .ok (.ifCond .ne 6, 3) := by decide +kernel
theorem dX9_midstream_11 : decode cX9_midstream 11 = .ok (.ldc 163, 2) := by decide +kernel
theorem dX9_midstream_13 : decode cX9_midstream 13 = .ok (.ireturn, 1) := by decide +kernel
theorem dX9_write_0 : decode cX9_write 0 = .ok (.aload_n 0, 1) := by decide +kernel
theorem dX9_write_1 : decode cX9_write 1 = .ok (.getfield 30, 3) := by decide +kernel
theorem dX9_write_4 : decode cX9_write 4 = .ok (.iload_n 1, 1) := by decide +kernel
theorem dX9_write_5 : decode cX9_write 5 = .ok (.invokevirtual 174, 3) := by decide +kernel
theorem dX9_write_8 : decode cX9_write 8 = .ok (.ifCond .ne 6, 3) := by decide +kernel
theorem dX9_write_11 : decode cX9_write 11 = .ok (.ldc 163, 2) := by decide +kernel
theorem dX9_write_13 : decode cX9_write 13 = .ok (.ireturn, 1) := by decide +kernel
theorem dX9_drift_0 : decode cX9_drift 0 = .ok (.iload_n 1, 1) := by decide +kernel
theorem dX9_drift_1 : decode cX9_drift 1 = .ok (.iconst 1, 1) := by decide +kernel
theorem dX9_drift_2 : decode cX9_drift 2 = .ok (.if_icmp .lt 9, 3) := by decide +kernel
theorem dX9_drift_11 : decode cX9_drift 11 = .ok (.ldc 104, 2) := by decide +kernel
theorem dX9_drift_13 : decode cX9_drift 13 = .ok (.ireturn, 1) := by decide +kernel
theorem dX9_drift_5 : decode cX9_drift 5 = .ok (.iload_n 1, 1) := by decide +kernel
theorem dX9_drift_6 : decode cX9_drift 6 = .ok (.bipush 99, 2) := by decide +kernel
theorem dX9_drift_8 : decode cX9_drift 8 = .ok (.if_icmp .le 6, 3) := by decide +kernel
theorem dX9_drift_14 : decode cX9_drift 14 = .ok (.aload_n 0, 1) := by decide +kernel
theorem dX9_drift_15 : decode cX9_drift 15 = .ok (.getfield 30, 3) := by decide +kernel
theorem dX9_drift_18 : decode cX9_drift 18 = .ok (.getfield 130, 3) := by decide +kernel
theorem dX9_drift_21 : decode cX9_drift 21 = .ok (.ifCond .ne 6, 3) := by decide +kernel
theorem wd_242 : Cond.constant RX9 217 (-1000000003) ∈ BG := BG_in (by decide +kernel) rfl
theorem dX9_drift_24 : decode cX9_drift 24 = .ok (.ldc 217, 2) := by decide +kernel
theorem dX9_drift_26 : decode cX9_drift 26 = .ok (.ireturn, 1) := by decide +kernel
theorem dX9_undo_0 : decode cX9_undo 0 = .ok (.aload_n 0, 1) := by decide +kernel
theorem dX9_undo_1 : decode cX9_undo 1 = .ok (.getfield 47, 3) := by decide +kernel
theorem dX9_undo_4 : decode cX9_undo 4 = .ok (.getfield 156, 3) := by decide +kernel
theorem dX9_undo_7 : decode cX9_undo 7 = .ok (.ifCond .ne 6, 3) := by decide +kernel
theorem dX9_undo_10 : decode cX9_undo 10 = .ok (.ldc 217, 2) := by decide +kernel
theorem dX9_undo_12 : decode cX9_undo 12 = .ok (.ireturn, 1) := by decide +kernel
theorem dX9_order_0 : decode cX9_order 0 = .ok (.aload_n 0, 1) := by decide +kernel
theorem dX9_order_1 : decode cX9_order 1 = .ok (.getfield 93, 3) := by decide +kernel
theorem dX9_order_4 : decode cX9_order 4 = .ok (.aload_n 0, 1) := by decide +kernel
theorem dX9_order_5 : decode cX9_order 5 = .ok (.getfield 30, 3) := by decide +kernel
theorem dX9_order_8 : decode cX9_order 8 = .ok (.aload_n 0, 1) := by decide +kernel
theorem dX9_order_9 : decode cX9_order 9 = .ok (.getfield 40, 3) := by decide +kernel
theorem dX9_order_12 : decode cX9_order 12 = .ok (.invokevirtual 286, 3) := by decide +kernel
theorem wd_243 : Cond.methodLink RX9 286 yX1_gather ∈ BG := BG_in (by decide +kernel) rfl
theorem wd_244 : Cond.code yX1_gather cX1_gather 3 none ∈ BG := BG_in (by decide +kernel) rfl
theorem wd_245 : Cond.instanceMethod yX1_gather ∈ BG := BG_in (by decide +kernel) rfl
theorem wd_246 : Cond.selects RX1 yX1_gather yX1_gather ∈ BG := BG_in (by decide +kernel) rfl
theorem okV_X1_gather : okV yX1_gather cX1_gather 3 none 2 := ⟨⟨wd_244, wd_129, by decide +kernel⟩, wd_245, wd_246⟩
theorem dX9_order_15 : decode cX9_order 15 = .ok (.iconst 0, 1) := by decide +kernel
theorem dX9_order_16 : decode cX9_order 16 = .ok (.istore_n 2, 1) := by decide +kernel
theorem dX9_order_17 : decode cX9_order 17 = .ok (.iload_n 2, 1) := by decide +kernel
theorem dX9_order_18 : decode cX9_order 18 = .ok (.aload_n 0, 1) := by decide +kernel
theorem dX9_order_19 : decode cX9_order 19 = .ok (.getfield 30, 3) := by decide +kernel
theorem dX9_order_22 : decode cX9_order 22 = .ok (.getfield 124, 3) := by decide +kernel
theorem dX9_order_25 : decode cX9_order 25 = .ok (.if_icmp .ge 14, 3) := by decide +kernel
theorem dX9_order_39 : decode cX9_order 39 = .ok (.aload_n 0, 1) := by decide +kernel
theorem dX9_order_40 : decode cX9_order 40 = .ok (.getfield 93, 3) := by decide +kernel
theorem dX9_order_43 : decode cX9_order 43 = .ok (.invokevirtual 293, 3) := by decide +kernel
theorem wd_247 : Cond.methodLink RX9 293 yX1_solve ∈ BG := BG_in (by decide +kernel) rfl
theorem wd_248 : Cond.code yX1_solve cX1_solve 3 none ∈ BG := BG_in (by decide +kernel) rfl
theorem wd_249 : Cond.instanceMethod yX1_solve ∈ BG := BG_in (by decide +kernel) rfl
theorem wd_250 : Cond.selects RX1 yX1_solve yX1_solve ∈ BG := BG_in (by decide +kernel) rfl
theorem okV_X1_solve : okV yX1_solve cX1_solve 3 none 0 := ⟨⟨wd_248, wd_129, by decide +kernel⟩, wd_249, wd_250⟩
theorem dX9_order_46 : decode cX9_order 46 = .ok (.iload_n 1, 1) := by decide +kernel
theorem dX9_order_47 : decode cX9_order 47 = .ok (.iconst (-1), 1) := by decide +kernel
theorem dX9_order_48 : decode cX9_order 48 = .ok (.if_icmp .ne 11, 3) := by decide +kernel
theorem dX9_order_59 : decode cX9_order 59 = .ok (.iload_n 1, 1) := by decide +kernel
theorem dX9_order_60 : decode cX9_order 60 = .ok (.ifCond .lt 28, 3) := by decide +kernel
theorem dX9_order_88 : decode cX9_order 88 = .ok (.iconst (-1), 1) := by decide +kernel
theorem dX9_order_89 : decode cX9_order 89 = .ok (.ireturn, 1) := by decide +kernel
theorem dX9_order_63 : decode cX9_order 63 = .ok (.iload_n 1, 1) := by decide +kernel
theorem dX9_order_64 : decode cX9_order 64 = .ok (.aload_n 0, 1) := by decide +kernel
theorem dX9_order_65 : decode cX9_order 65 = .ok (.getfield 93, 3) := by decide +kernel
theorem wd_251 : Cond.fieldLink RX9 295 "QuarrelBridges$Convoy" "length" "I" ∈ BG := BG_in (by decide +kernel) rfl
theorem dX9_order_68 : decode cX9_order 68 = .ok (.getfield 295, 3) := by decide +kernel
theorem dX9_order_71 : decode cX9_order 71 = .ok (.if_icmp .ge 17, 3) := by decide +kernel
theorem dX9_order_51 : decode cX9_order 51 = .ok (.aload_n 0, 1) := by decide +kernel
theorem dX9_order_52 : decode cX9_order 52 = .ok (.getfield 93, 3) := by decide +kernel
theorem dX9_order_55 : decode cX9_order 55 = .ok (.getfield 295, 3) := by decide +kernel
theorem dX9_order_58 : decode cX9_order 58 = .ok (.ireturn, 1) := by decide +kernel
theorem dX9_wornOut_0 : decode cX9_wornOut 0 = .ok (.iconst (-1), 1) := by decide +kernel
theorem dX9_wornOut_1 : decode cX9_wornOut 1 = .ok (.istore_n 1, 1) := by decide +kernel
theorem dX9_wornOut_2 : decode cX9_wornOut 2 = .ok (.iconst 0, 1) := by decide +kernel
theorem dX9_wornOut_3 : decode cX9_wornOut 3 = .ok (.istore_n 2, 1) := by decide +kernel
theorem dX9_wornOut_4 : decode cX9_wornOut 4 = .ok (.iconst 0, 1) := by decide +kernel
theorem dX9_wornOut_5 : decode cX9_wornOut 5 = .ok (.istore_n 3, 1) := by decide +kernel
theorem dX9_wornOut_6 : decode cX9_wornOut 6 = .ok (.iload_n 3, 1) := by decide +kernel
theorem dX9_wornOut_7 : decode cX9_wornOut 7 = .ok (.aload_n 0, 1) := by decide +kernel
theorem dX9_wornOut_8 : decode cX9_wornOut 8 = .ok (.getfield 30, 3) := by decide +kernel
theorem dX9_wornOut_11 : decode cX9_wornOut 11 = .ok (.getfield 130, 3) := by decide +kernel
theorem dX9_wornOut_14 : decode cX9_wornOut 14 = .ok (.if_icmp .ge 77, 3) := by decide +kernel
theorem dX9_wornOut_91 : decode cX9_wornOut 91 = .ok (.iload_n 1, 1) := by decide +kernel
theorem dX9_wornOut_92 : decode cX9_wornOut 92 = .ok (.ireturn, 1) := by decide +kernel
theorem dX9_carried_0 : decode cX9_carried 0 = .ok (.iload_n 1, 1) := by decide +kernel
theorem dX9_carried_1 : decode cX9_carried 1 = .ok (.iconst (-1), 1) := by decide +kernel
theorem dX9_carried_2 : decode cX9_carried 2 = .ok (.if_icmp .eq 17, 3) := by decide +kernel
theorem dX9_carried_19 : decode cX9_carried 19 = .ok (.aload_n 0, 1) := by decide +kernel
theorem dX9_carried_20 : decode cX9_carried 20 = .ok (.getfield 40, 3) := by decide +kernel
theorem dX9_carried_23 : decode cX9_carried 23 = .ok (.iconst 0, 1) := by decide +kernel
theorem dX9_carried_24 : decode cX9_carried 24 = .ok (.invokevirtual 171, 3) := by decide +kernel
theorem wd_252 : Cond.methodLink RX9 171 yX7_coupleAt ∈ BG := BG_in (by decide +kernel) rfl
theorem wd_253 : Cond.code yX7_coupleAt cX7_coupleAt 3 (some .int) ∈ BG := BG_in (by decide +kernel) rfl
theorem wd_254 : Cond.instanceMethod yX7_coupleAt ∈ BG := BG_in (by decide +kernel) rfl
theorem wd_255 : Cond.selects RX7 yX7_coupleAt yX7_coupleAt ∈ BG := BG_in (by decide +kernel) rfl
theorem okV_X7_coupleAt : okV yX7_coupleAt cX7_coupleAt 3 (some .int) 1 := ⟨⟨wd_253, wd_93, by decide +kernel⟩, wd_254, wd_255⟩
theorem dX9_carried_27 : decode cX9_carried 27 = .ok (.istore_n 2, 1) := by decide +kernel
theorem dX9_carried_28 : decode cX9_carried 28 = .ok (.iload_n 2, 1) := by decide +kernel
theorem dX9_carried_29 : decode cX9_carried 29 = .ok (.iconst (-1), 1) := by decide +kernel
theorem dX9_carried_30 : decode cX9_carried 30 = .ok (.if_icmp .ne 6, 3) := by decide +kernel
theorem dX9_carried_33 : decode cX9_carried 33 = .ok (.ldc 217, 2) := by decide +kernel
theorem dX9_carried_35 : decode cX9_carried 35 = .ok (.ireturn, 1) := by decide +kernel
theorem dX9_carried_5 : decode cX9_carried 5 = .ok (.aload_n 0, 1) := by decide +kernel
theorem dX9_carried_6 : decode cX9_carried 6 = .ok (.getfield 30, 3) := by decide +kernel
theorem dX9_carried_9 : decode cX9_carried 9 = .ok (.iload_n 1, 1) := by decide +kernel
theorem dX9_carried_10 : decode cX9_carried 10 = .ok (.invokevirtual 159, 3) := by decide +kernel
theorem dX9_carried_13 : decode cX9_carried 13 = .ok (.ifCond .ne 6, 3) := by decide +kernel
theorem dX9_carried_16 : decode cX9_carried 16 = .ok (.ldc 163, 2) := by decide +kernel
theorem dX9_carried_18 : decode cX9_carried 18 = .ok (.ireturn, 1) := by decide +kernel
theorem dX9_fleet_0 : decode cX9_fleet 0 = .ok (.iload_n 1, 1) := by decide +kernel
theorem dX9_fleet_1 : decode cX9_fleet 1 = .ok (.iconst 1, 1) := by decide +kernel
theorem dX9_fleet_2 : decode cX9_fleet 2 = .ok (.if_icmp .lt 9, 3) := by decide +kernel
theorem dX9_fleet_11 : decode cX9_fleet 11 = .ok (.ldc 104, 2) := by decide +kernel
theorem dX9_fleet_13 : decode cX9_fleet 13 = .ok (.ireturn, 1) := by decide +kernel
theorem dX9_fleet_5 : decode cX9_fleet 5 = .ok (.iload_n 1, 1) := by decide +kernel
theorem dX9_fleet_6 : decode cX9_fleet 6 = .ok (.bipush 9, 2) := by decide +kernel
theorem dX9_fleet_8 : decode cX9_fleet 8 = .ok (.if_icmp .le 6, 3) := by decide +kernel
theorem dX9_fleet_14 : decode cX9_fleet 14 = .ok (.iload_n 1, 1) := by decide +kernel
theorem dX9_fleet_15 : decode cX9_fleet 15 = .ok (.aload_n 0, 1) := by decide +kernel
theorem dX9_fleet_16 : decode cX9_fleet 16 = .ok (.getfield 30, 3) := by decide +kernel
theorem dX9_fleet_19 : decode cX9_fleet 19 = .ok (.invokevirtual 322, 3) := by decide +kernel
theorem wd_256 : Cond.methodLink RX9 322 yX8_needOfAll ∈ BG := BG_in (by decide +kernel) rfl
theorem wd_257 : Cond.code yX8_needOfAll cX8_needOfAll 3 (some .int) ∈ BG := BG_in (by decide +kernel) rfl
theorem wd_258 : Cond.instanceMethod yX8_needOfAll ∈ BG := BG_in (by decide +kernel) rfl
theorem wd_259 : Cond.selects RX8 yX8_needOfAll yX8_needOfAll ∈ BG := BG_in (by decide +kernel) rfl
theorem okV_X8_needOfAll : okV yX8_needOfAll cX8_needOfAll 3 (some .int) 0 := ⟨⟨wd_257, wd_86, by decide +kernel⟩, wd_258, wd_259⟩
theorem dX9_fleet_22 : decode cX9_fleet 22 = .ok (.imul, 1) := by decide +kernel
theorem dX9_fleet_23 : decode cX9_fleet 23 = .ok (.istore_n 2, 1) := by decide +kernel
theorem dX9_fleet_24 : decode cX9_fleet 24 = .ok (.iconst (-1), 1) := by decide +kernel
theorem dX9_fleet_25 : decode cX9_fleet 25 = .ok (.istore_n 3, 1) := by decide +kernel
theorem dX9_fleet_26 : decode cX9_fleet 26 = .ok (.iconst 0, 1) := by decide +kernel
theorem dX9_fleet_27 : decode cX9_fleet 27 = .ok (.istore 4, 2) := by decide +kernel
theorem dX9_fleet_29 : decode cX9_fleet 29 = .ok (.iload 4, 2) := by decide +kernel
theorem dX9_fleet_31 : decode cX9_fleet 31 = .ok (.iconst 1, 1) := by decide +kernel
theorem dX9_fleet_32 : decode cX9_fleet 32 = .ok (.aload_n 0, 1) := by decide +kernel
theorem dX9_fleet_33 : decode cX9_fleet 33 = .ok (.getfield 30, 3) := by decide +kernel
theorem dX9_fleet_36 : decode cX9_fleet 36 = .ok (.getfield 130, 3) := by decide +kernel
theorem dX9_fleet_39 : decode cX9_fleet 39 = .ok (.ishl, 1) := by decide +kernel
theorem dX9_fleet_40 : decode cX9_fleet 40 = .ok (.if_icmp .ge 79, 3) := by decide +kernel
theorem dX9_fleet_43 : decode cX9_fleet 43 = .ok (.iload_n 3, 1) := by decide +kernel
theorem dX9_fleet_44 : decode cX9_fleet 44 = .ok (.iconst (-1), 1) := by decide +kernel
theorem dX9_fleet_45 : decode cX9_fleet 45 = .ok (.if_icmp .eq 15, 3) := by decide +kernel
theorem dX9_fleet_60 : decode cX9_fleet 60 = .ok (.iconst 1, 1) := by decide +kernel
theorem dX9_fleet_61 : decode cX9_fleet 61 = .ok (.goto 4, 3) := by decide +kernel
theorem dX9_fleet_65 : decode cX9_fleet 65 = .ok (.istore 5, 2) := by decide +kernel
theorem dX9_fleet_67 : decode cX9_fleet 67 = .ok (.iload 4, 2) := by decide +kernel
theorem dX9_fleet_69 : decode cX9_fleet 69 = .ok (.aload_n 0, 1) := by decide +kernel
theorem dX9_fleet_70 : decode cX9_fleet 70 = .ok (.getfield 40, 3) := by decide +kernel
theorem dX9_fleet_73 : decode cX9_fleet 73 = .ok (.invokevirtual 143, 3) := by decide +kernel
theorem dX9_fleet_76 : decode cX9_fleet 76 = .ok (.iand, 1) := by decide +kernel
theorem dX9_fleet_77 : decode cX9_fleet 77 = .ok (.ifCond .ne 7, 3) := by decide +kernel
theorem dX9_fleet_80 : decode cX9_fleet 80 = .ok (.iconst 1, 1) := by decide +kernel
theorem dX9_fleet_81 : decode cX9_fleet 81 = .ok (.goto 4, 3) := by decide +kernel
theorem dX9_fleet_85 : decode cX9_fleet 85 = .ok (.istore 6, 2) := by decide +kernel
theorem dX9_fleet_87 : decode cX9_fleet 87 = .ok (.iload 5, 2) := by decide +kernel
theorem dX9_fleet_89 : decode cX9_fleet 89 = .ok (.ifCond .eq 24, 3) := by decide +kernel
theorem dX9_fleet_92 : decode cX9_fleet 92 = .ok (.iload 6, 2) := by decide +kernel
theorem dX9_fleet_94 : decode cX9_fleet 94 = .ok (.ifCond .eq 19, 3) := by decide +kernel
theorem dX9_fleet_97 : decode cX9_fleet 97 = .ok (.aload_n 0, 1) := by decide +kernel
theorem dX9_fleet_98 : decode cX9_fleet 98 = .ok (.getfield 40, 3) := by decide +kernel
theorem dX9_fleet_101 : decode cX9_fleet 101 = .ok (.iload 4, 2) := by decide +kernel
theorem dX9_fleet_103 : decode cX9_fleet 103 = .ok (.invokevirtual 330, 3) := by decide +kernel
theorem wd_260 : Cond.methodLink RX9 330 yX7_grievanceOfSet ∈ BG := BG_in (by decide +kernel) rfl
theorem dX9_fleet_106 : decode cX9_fleet 106 = .ok (.iload_n 2, 1) := by decide +kernel
theorem dX9_fleet_107 : decode cX9_fleet 107 = .ok (.if_icmp .lt 6, 3) := by decide +kernel
theorem dX9_fleet_110 : decode cX9_fleet 110 = .ok (.iload 4, 2) := by decide +kernel
theorem dX9_fleet_112 : decode cX9_fleet 112 = .ok (.istore_n 3, 1) := by decide +kernel
theorem dX9_fleet_113 : decode cX9_fleet 113 = .ok (.iinc 4 1, 3) := by decide +kernel
theorem dX9_fleet_116 : decode cX9_fleet 116 = .ok (.goto (-87), 3) := by decide +kernel
theorem dX9_fleet_119 : decode cX9_fleet 119 = .ok (.iload_n 3, 1) := by decide +kernel
theorem dX9_fleet_120 : decode cX9_fleet 120 = .ok (.ireturn, 1) := by decide +kernel
theorem dX9_tear_0 : decode cX9_tear 0 = .ok (.aload_n 0, 1) := by decide +kernel
theorem dX9_tear_1 : decode cX9_tear 1 = .ok (.getfield 69, 3) := by decide +kernel
theorem dX9_tear_4 : decode cX9_tear 4 = .ok (.getfield 153, 3) := by decide +kernel
theorem dX9_tear_7 : decode cX9_tear 7 = .ok (.istore_n 1, 1) := by decide +kernel
theorem dX9_tear_8 : decode cX9_tear 8 = .ok (.aload_n 0, 1) := by decide +kernel
theorem dX9_tear_9 : decode cX9_tear 9 = .ok (.getfield 69, 3) := by decide +kernel
theorem dX9_tear_12 : decode cX9_tear 12 = .ok (.invokevirtual 121, 3) := by decide +kernel
theorem dX9_tear_15 : decode cX9_tear 15 = .ok (.iload_n 1, 1) := by decide +kernel
theorem dX9_tear_16 : decode cX9_tear 16 = .ok (.ireturn, 1) := by decide +kernel
theorem dX9_judge_0 : decode cX9_judge 0 = .ok (.aload_n 0, 1) := by decide +kernel
theorem dX9_judge_1 : decode cX9_judge 1 = .ok (.getfield 69, 3) := by decide +kernel
theorem dX9_judge_4 : decode cX9_judge 4 = .ok (.aload_n 0, 1) := by decide +kernel
theorem dX9_judge_5 : decode cX9_judge 5 = .ok (.getfield 40, 3) := by decide +kernel
theorem dX9_judge_8 : decode cX9_judge 8 = .ok (.invokevirtual 336, 3) := by decide +kernel
theorem wd_261 : Cond.methodLink RX9 336 yX0_firstWrong ∈ BG := BG_in (by decide +kernel) rfl
theorem wd_262 : Cond.code yX0_firstWrong cX0_firstWrong 3 (some .int) ∈ BG := BG_in (by decide +kernel) rfl
theorem wd_263 : Cond.instanceMethod yX0_firstWrong ∈ BG := BG_in (by decide +kernel) rfl
theorem wd_264 : Cond.selects RX0 yX0_firstWrong yX0_firstWrong ∈ BG := BG_in (by decide +kernel) rfl
theorem okV_X0_firstWrong : okV yX0_firstWrong cX0_firstWrong 3 (some .int) 1 := ⟨⟨wd_262, wd_110, by decide +kernel⟩, wd_263, wd_264⟩
theorem dX9_judge_11 : decode cX9_judge 11 = .ok (.ireturn, 1) := by decide +kernel
theorem dX9_seed_0 : decode cX9_seed 0 = .ok (.iload_n 1, 1) := by decide +kernel
theorem dX9_seed_1 : decode cX9_seed 1 = .ok (.ifCond .ge 6, 3) := by decide +kernel
theorem dX9_seed_7 : decode cX9_seed 7 = .ok (.aload_n 0, 1) := by decide +kernel
theorem dX9_seed_8 : decode cX9_seed 8 = .ok (.getfield 73, 3) := by decide +kernel
theorem dX9_seed_11 : decode cX9_seed 11 = .ok (.istore_n 2, 1) := by decide +kernel
theorem dX9_seed_12 : decode cX9_seed 12 = .ok (.aload_n 0, 1) := by decide +kernel
theorem dX9_seed_13 : decode cX9_seed 13 = .ok (.iload_n 1, 1) := by decide +kernel
theorem dX9_seed_14 : decode cX9_seed 14 = .ok (.putfield 73, 3) := by decide +kernel
theorem dX9_seed_17 : decode cX9_seed 17 = .ok (.iload_n 2, 1) := by decide +kernel
theorem dX9_seed_18 : decode cX9_seed 18 = .ok (.ireturn, 1) := by decide +kernel
theorem dX9_seed_4 : decode cX9_seed 4 = .ok (.ldc 104, 2) := by decide +kernel
theorem dX9_seed_6 : decode cX9_seed 6 = .ok (.ireturn, 1) := by decide +kernel
theorem dX9_keep_0 : decode cX9_keep 0 = .ok (.iload_n 1, 1) := by decide +kernel
theorem dX9_keep_1 : decode cX9_keep 1 = .ok (.ifCond .lt 8, 3) := by decide +kernel
theorem dX9_keep_9 : decode cX9_keep 9 = .ok (.ldc 163, 2) := by decide +kernel
theorem dX9_keep_11 : decode cX9_keep 11 = .ok (.ireturn, 1) := by decide +kernel
theorem dX9_keep_4 : decode cX9_keep 4 = .ok (.iload_n 1, 1) := by decide +kernel
theorem dX9_keep_5 : decode cX9_keep 5 = .ok (.iconst 2, 1) := by decide +kernel
theorem dX9_keep_6 : decode cX9_keep 6 = .ok (.if_icmp .lt 6, 3) := by decide +kernel
theorem dX9_keep_12 : decode cX9_keep 12 = .ok (.aload_n 0, 1) := by decide +kernel
theorem dX9_keep_13 : decode cX9_keep 13 = .ok (.getfield 56, 3) := by decide +kernel
theorem dX9_keep_16 : decode cX9_keep 16 = .ok (.iload_n 1, 1) := by decide +kernel
theorem dX9_keep_17 : decode cX9_keep 17 = .ok (.aload_n 0, 1) := by decide +kernel
theorem dX9_keep_18 : decode cX9_keep 18 = .ok (.getfield 40, 3) := by decide +kernel
theorem dX9_keep_21 : decode cX9_keep 21 = .ok (.invokevirtual 340, 3) := by decide +kernel
theorem wd_265 : Cond.methodLink RX9 340 yX6_store ∈ BG := BG_in (by decide +kernel) rfl
theorem wd_266 : Cond.code yX6_store cX6_store 3 none ∈ BG := BG_in (by decide +kernel) rfl
theorem wd_267 : Cond.instanceMethod yX6_store ∈ BG := BG_in (by decide +kernel) rfl
theorem wd_268 : Cond.selects RX6 yX6_store yX6_store ∈ BG := BG_in (by decide +kernel) rfl
theorem okV_X6_store : okV yX6_store cX6_store 3 none 2 := ⟨⟨wd_266, wd_59, by decide +kernel⟩, wd_267, wd_268⟩
theorem dX9_keep_24 : decode cX9_keep 24 = .ok (.aload_n 0, 1) := by decide +kernel
theorem dX9_keep_25 : decode cX9_keep 25 = .ok (.getfield 60, 3) := by decide +kernel
theorem dX9_keep_28 : decode cX9_keep 28 = .ok (.iload_n 1, 1) := by decide +kernel
theorem dX9_keep_29 : decode cX9_keep 29 = .ok (.aload_n 0, 1) := by decide +kernel
theorem dX9_keep_30 : decode cX9_keep 30 = .ok (.getfield 73, 3) := by decide +kernel
theorem dX9_keep_33 : decode cX9_keep 33 = .ok (.invokestatic 106, 3) := by decide +kernel
theorem dX9_keep_36 : decode cX9_keep 36 = .ok (.aload_n 0, 1) := by decide +kernel
theorem dX9_keep_37 : decode cX9_keep 37 = .ok (.dup, 1) := by decide +kernel
theorem dX9_keep_38 : decode cX9_keep 38 = .ok (.getfield 63, 3) := by decide +kernel
theorem dX9_keep_41 : decode cX9_keep 41 = .ok (.iconst 1, 1) := by decide +kernel
theorem dX9_keep_42 : decode cX9_keep 42 = .ok (.iload_n 1, 1) := by decide +kernel
theorem dX9_keep_43 : decode cX9_keep 43 = .ok (.ishl, 1) := by decide +kernel
theorem dX9_keep_44 : decode cX9_keep 44 = .ok (.ior, 1) := by decide +kernel
theorem dX9_keep_45 : decode cX9_keep 45 = .ok (.putfield 63, 3) := by decide +kernel
theorem dX9_keep_48 : decode cX9_keep 48 = .ok (.aload_n 0, 1) := by decide +kernel
theorem dX9_keep_49 : decode cX9_keep 49 = .ok (.getfield 47, 3) := by decide +kernel
theorem dX9_keep_52 : decode cX9_keep 52 = .ok (.invokevirtual 118, 3) := by decide +kernel
theorem dX9_keep_55 : decode cX9_keep 55 = .ok (.iconst 1, 1) := by decide +kernel
theorem dX9_keep_56 : decode cX9_keep 56 = .ok (.ireturn, 1) := by decide +kernel
theorem dX9_goBack_0 : decode cX9_goBack 0 = .ok (.iload_n 1, 1) := by decide +kernel
theorem dX9_goBack_1 : decode cX9_goBack 1 = .ok (.ifCond .lt 8, 3) := by decide +kernel
theorem dX9_goBack_9 : decode cX9_goBack 9 = .ok (.ldc 163, 2) := by decide +kernel
theorem dX9_goBack_11 : decode cX9_goBack 11 = .ok (.ireturn, 1) := by decide +kernel
theorem dX9_goBack_4 : decode cX9_goBack 4 = .ok (.iload_n 1, 1) := by decide +kernel
theorem dX9_goBack_5 : decode cX9_goBack 5 = .ok (.iconst 2, 1) := by decide +kernel
theorem dX9_goBack_6 : decode cX9_goBack 6 = .ok (.if_icmp .lt 6, 3) := by decide +kernel
theorem dX9_goBack_12 : decode cX9_goBack 12 = .ok (.aload_n 0, 1) := by decide +kernel
theorem dX9_goBack_13 : decode cX9_goBack 13 = .ok (.getfield 63, 3) := by decide +kernel
theorem dX9_goBack_16 : decode cX9_goBack 16 = .ok (.iload_n 1, 1) := by decide +kernel
theorem dX9_goBack_17 : decode cX9_goBack 17 = .ok (.ishr, 1) := by decide +kernel
theorem dX9_goBack_18 : decode cX9_goBack 18 = .ok (.iconst 1, 1) := by decide +kernel
theorem dX9_goBack_19 : decode cX9_goBack 19 = .ok (.iand, 1) := by decide +kernel
theorem dX9_goBack_20 : decode cX9_goBack 20 = .ok (.ifCond .ne 6, 3) := by decide +kernel
theorem dX9_goBack_23 : decode cX9_goBack 23 = .ok (.ldc 217, 2) := by decide +kernel
theorem dX9_goBack_25 : decode cX9_goBack 25 = .ok (.ireturn, 1) := by decide +kernel
/-- a below lo or above hi, b between -/
def rg (lo hi v a b : Int32) : Int32 := if v < lo ∨ hi < v then a else b
theorem rg_lo {lo hi v a b : Int32} (c : v < lo) : a = rg lo hi v a b := (if_pos (Or.inl c)).symm
theorem rg_hi {lo hi v a b : Int32} (c : ¬ v ≤ hi) : a = rg lo hi v a b := (if_pos (Or.inr (Int32.not_le.mp c))).symm
theorem rg_in {lo hi v a b : Int32} (c1 : ¬ v < lo) (c2 : v ≤ hi) : b = rg lo hi v a b := (if_neg (fun h => h.elim c1 (Int32.not_lt.mpr c2))).symm
theorem le1_of {i : Int32} (h : i < 2) : i ≤ 1 := by
  have := Int32.lt_iff_toInt_lt.mp h
  refine Int32.le_iff_toInt_le.mpr ?_
  have e1 : (2 : Int32).toInt = 2 := rfl
  have e2 : (1 : Int32).toInt = 1 := rfl
  omega
theorem two_of {i : Int32} (h1 : ¬ i < 0) (h2 : i ≤ 1) : i = 0 ∨ i = 1 := by
  have h1 := Int32.le_iff_toInt_le.mp (Int32.not_lt.mp h1)
  have h2 := Int32.le_iff_toInt_le.mp h2
  have e1 : (0 : Int32).toInt = 0 := rfl
  have e2 : (1 : Int32).toInt = 1 := rfl
  rcases (show i.toInt = 0 ∨ i.toInt = 1 by omega) with h | h
  · exact Or.inl (Int32.toInt_inj.mp (h.trans e1.symm))
  · exact Or.inr (Int32.toInt_inj.mp (h.trans e2.symm))
theorem i_mul0 (x : Int32) : x * 0 = 0 := Int32.mul_zero
def toldS (w : Int32) : Int32 := if w.toInt < 0 ∨ 13 < w.toInt then -1000000002 else if w = 1 then 1 else 0
def carriedS (b : Int32) : Int32 := if b = -1 then -1000000003 else -1000000001
def orderS (i : Int32) : Int32 := if i = -1 then 0 else -1
def seedS (v : Int32) : Int32 := if v < 0 then -1000000002 else 0
def rm_k_x_feed : Room := { frames := 1, cells := 0, slots := 0, locals := 22 }
set_option maxHeartbeats 4000000 in
set_option maxRecDepth 100000 in
theorem k_x_feed {l : Launch} {D : va_G} {cI cZ : ClassId} {sz : Nat} (xh xq1 xq2 xq6 xq14 xq22 xq26 xq31 xq35 xq36 xq41 xq44 xq50 xq59 : Nat) (v : Int32) : KI l yX9_feed cX9_feed 2 (some .int) rm_k_x_feed D cI cZ [.ref xh, .int v] sz [(xh, .inr (9, [.ref xq1, .int 0, .int (-1), .ref xq2, .ref xq6, .ref xq14, .ref xq22, .ref xq26, .ref xq31, .ref xq35, .int 0, .ref xq36, .int 0, .ref xq41, .ref xq44, .ref xq50, .ref xq59])), (xq1, .inl (cI, 240, .inl z0))] (fun (r : Int32) (_ : Unit) => r = rg 0 255 v (-1000000002) 1) (fun (_ : Unit) => []) := by
  refine KI.go rfl (Nat.le_of_ble_eq_true rfl) ?_
  intro p e s m args below meth c ls A Q hx hb hml hts hown hin hP hK hD hS hA hN hl hret
  have hl : lv_has ls 2 [(0, .ref xh), (1, .int v)] := hl
  refine lv_iload_n hx hb dX9_feed_0 rfl (lv_at hl 1 rfl) ?_
  refine lv_if_lt (tgt := 11) hx hb dX9_feed_1 (by decide) (fun c_1 => ?_) (fun c_1 => ?_)
  · refine lv_ldc (v := (-1000000002)) hx hb hown (hts _ wd_191) dX9_feed_11 ?_
    exact hret (-1000000002) () _ _ _ _ dX9_feed_13 rfl (rg_lo c_1) (cutP (isC := []) hP rfl) (cutD (isC := []) hD rfl rfl) hS
  · refine lv_iload_n hx hb dX9_feed_4 rfl (lv_at hl 1 rfl) ?_
    refine lv_sipush (v := 255) hx hb dX9_feed_5 (by decide) ?_
    refine lv_icmp_le (tgt := 14) hx hb dX9_feed_8 (by decide) (fun c_2 => ?_) (fun c_2 => ?_)
    · refine lv_aload_n hx hb dX9_feed_14 rfl (lv_at hl 0 rfl) ?_
      refine va_get (D := D) (ci := 9) (v := .int 0) (C := RX9) (T := TX9) (N := 17) hx hb hts iX9 hown hK hP 0 rfl rfl 1 (by decide) (hts _ wd_76) (fun _ h9 => h9) rfl dX9_feed_15 ?_
      refine lv_sipush (v := 240) hx hb dX9_feed_18 (by decide) ?_
      refine lv_icmp_lt (tgt := 27) hx hb dX9_feed_21 (by decide) (fun c_3 => ?_) (fun c_3 => absurd (by decide +kernel) c_3)
      refine lv_aload_n hx hb dX9_feed_27 rfl (lv_at hl 0 rfl) ?_
      refine va_get (D := D) (ci := 9) (v := .ref xq1) (C := RX9) (T := TX9) (N := 17) hx hb hts iX9 hown hK hP 0 rfl rfl 0 (by decide) (hts _ wd_75) (fun _ h9 => h9) rfl dX9_feed_28 ?_
      refine lv_aload_n hx hb dX9_feed_31 rfl (lv_at hl 0 rfl) ?_
      refine va_get (D := D) (ci := 9) (v := .int 0) (C := RX9) (T := TX9) (N := 17) hx hb hts iX9 hown hK hP 0 rfl rfl 1 (by decide) (hts _ wd_76) (fun _ h9 => h9) rfl dX9_feed_32 ?_
      refine lv_iload_n hx hb dX9_feed_35 rfl (lv_at hl 1 rfl) ?_
      refine cSv (wr := [(xh, .inr (9, [.ref xq1, .int 0, .int (-1), .ref xq2, .ref xq6, .ref xq14, .ref xq22, .ref xq26, .ref xq31, .ref xq35, .int 0, .ref xq36, .int 0, .ref xq41, .ref xq44, .ref xq50, .ref xq59]))]) (rest := []) (k_put xq1 240 z0 0 v (by decide)) okS_X9_put wd_192 hx hb hml hown hts hK hP hD hS hA hN hl.1 [1] [0] rfl rfl rfl rfl (by decide) rfl (Nat.le_of_ble_eq_true rfl) (Nat.le_of_ble_eq_true rfl) (Nat.le_of_ble_eq_true rfl) (Nat.le_of_ble_eq_true rfl) (Nat.le_of_ble_eq_true rfl) dX9_feed_36 (fun u_4 H locs hw_u_4 hP hD hS => ?_)
      have hP : va_P D classes [(xh, .inr (9, [.ref xq1, .int 0, .int (-1), .ref xq2, .ref xq6, .ref xq14, .ref xq22, .ref xq26, .ref xq31, .ref xq35, .int 0, .ref xq36, .int 0, .ref xq41, .ref xq44, .ref xq50, .ref xq59])), (xq1, .inl (cI, 240, .inl (putF 240 z0 0 v)))] H := hP
      have hD : va_D A [(xh, .inr (9, [.ref xq1, .int 0, .int (-1), .ref xq2, .ref xq6, .ref xq14, .ref xq22, .ref xq26, .ref xq31, .ref xq35, .int 0, .ref xq36, .int 0, .ref xq41, .ref xq44, .ref xq50, .ref xq59])), (xq1, .inl (cI, 240, .inl (putF 240 z0 0 v)))] := hD
      refine lv_aload_n hx hb dX9_feed_39 rfl (lv_at hl 0 rfl) ?_
      refine lv_dup hx hb dX9_feed_40 rfl ?_
      refine va_get (D := D) (ci := 9) (v := .int 0) (C := RX9) (T := TX9) (N := 17) hx hb hts iX9 hown hK hP 0 rfl rfl 1 (by decide) (hts _ wd_76) (fun _ h9 => h9) rfl dX9_feed_41 ?_
      refine lv_iconst (v := 1) hx hb dX9_feed_44 (by decide) ?_
      refine lv_iadd hx hb dX9_feed_45 ?_
      refine lv_topi (fun z_6 ez_6 => ?_)
      obtain rfl : z_6 = 1 := ez_6.trans (by decide +kernel)
      refine va_put (D := D) (ci := 9) (v := .int 1) (ty := .int) (C := RX9) (T := TX9) (N := 17) hx hb hts iX9 tyX9 tyX9_ok nmX9 hown hK hP hD hS 0 rfl rfl 1 (by decide) (hts _ wd_76) (fun _ h9 => h9) rfl (by decide +kernel) rfl rfl (Nat.le_of_ble_eq_true rfl) dX9_feed_46 (fun H locs hP hD hS => ?_)
      have hP : va_P D classes [(xh, .inr (9, [.ref xq1, .int 1, .int (-1), .ref xq2, .ref xq6, .ref xq14, .ref xq22, .ref xq26, .ref xq31, .ref xq35, .int 0, .ref xq36, .int 0, .ref xq41, .ref xq44, .ref xq50, .ref xq59])), (xq1, .inl (cI, 240, .inl (putF 240 z0 0 v)))] H := hP
      have hD : va_D A [(xh, .inr (9, [.ref xq1, .int 1, .int (-1), .ref xq2, .ref xq6, .ref xq14, .ref xq22, .ref xq26, .ref xq31, .ref xq35, .int 0, .ref xq36, .int 0, .ref xq41, .ref xq44, .ref xq50, .ref xq59])), (xq1, .inl (cI, 240, .inl (putF 240 z0 0 v)))] := hD
      refine lv_aload_n hx hb dX9_feed_49 rfl (lv_at hl 0 rfl) ?_
      refine va_get (D := D) (ci := 9) (v := .int 1) (C := RX9) (T := TX9) (N := 17) hx hb hts iX9 hown hK hP 0 rfl rfl 1 (by decide) (hts _ wd_76) (fun _ h9 => h9) rfl dX9_feed_50 ?_
      exact hret 1 () _ _ _ _ dX9_feed_53 rfl (rg_in c_1 c_2) (cutP (isC := []) hP rfl) (cutD (isC := []) hD rfl rfl) hS
    · refine lv_ldc (v := (-1000000002)) hx hb hown (hts _ wd_191) dX9_feed_11 ?_
      exact hret (-1000000002) () _ _ _ _ dX9_feed_13 rfl (rg_hi c_2) (cutP (isC := []) hP rfl) (cutD (isC := []) hD rfl rfl) hS
def rm_k_firstWrong : Room := { frames := 0, cells := 0, slots := 0, locals := 0 }
set_option maxHeartbeats 4000000 in
set_option maxRecDepth 100000 in
theorem k_firstWrong {l : Launch} {D : va_G} {cI cZ : ClassId} {sz : Nat} (t ta tb n : Nat) : KI l yX0_firstWrong cX0_firstWrong 3 (some .int) rm_k_firstWrong D cI cZ [.ref t, .ref n] sz [(t, .inr (0, [.int 0, .ref ta, .ref tb]))] (fun (r : Int32) (_ : Unit) => r = (-1)) (fun (_ : Unit) => [(t, .inr (0, [.int 0, .ref ta, .ref tb]))]) := by
  refine KI.go rfl (Nat.le_of_ble_eq_true rfl) ?_
  intro p e s m args below meth c ls A Q hx hb hml hts hown hin hP hK hD hS hA hN hl hret
  have hl : lv_has ls 3 [(0, .ref t), (1, .ref n)] := hl
  refine lv_iconst (v := 0) hx hb dX0_firstWrong_0 (by decide) ?_
  refine lv_istore_n (lv' := [(2, .int 0), (0, .ref t), (1, .ref n)]) hx hb dX0_firstWrong_1 rfl hl (by decide) rfl (fun ls hl => ?_)
  refine lv_iload_n hx hb dX0_firstWrong_2 rfl (lv_at hl 0 rfl) ?_
  refine lv_aload_n hx hb dX0_firstWrong_3 rfl (lv_at hl 1 rfl) ?_
  refine va_get (D := D) (ci := 0) (v := .int 0) (C := RX0) (T := TX0) (N := 3) hx hb hts iX0 hown hK hP 0 rfl rfl 0 (by decide) (hts _ wd_17) (fun _ h9 => h9) rfl dX0_firstWrong_4 ?_
  refine lv_icmp_ge (tgt := 41) hx hb dX0_firstWrong_7 (by decide) (fun c_1 => ?_) (fun c_1 => absurd (by decide +kernel) c_1)
  refine lv_iconst (v := (-1)) hx hb dX0_firstWrong_41 (by decide) ?_
  exact hret (-1) () _ _ _ _ dX0_firstWrong_42 rfl rfl hP hD hS
def rm_k_store0 : Room := { frames := 1, cells := 0, slots := 0, locals := 60 }
set_option maxHeartbeats 4000000 in
set_option maxRecDepth 100000 in
theorem k_store0 {l : Launch} {D : va_G} {cI cZ : ClassId} {sz : Nat} (h a n b : Nat) (f : Nat → Int32) : KV l yX6_store cX6_store 3 rm_k_store0 D cI cZ [.ref h, .int 0, .ref n] sz [(h, .inr (6, [.int 2, .ref a])), (a, .inl (cI, 82, .inl z0)), (n, .inr (7, [.ref b])), (b, .inl (cI, 41, .inl f))] (fun (_ : Unit) => True) (fun (_ : Unit) => [(h, .inr (6, [.int 2, .ref a])), (a, .inl (cI, 82, .inl (va_cpy f z0 (0 : Int32).toNatClampNeg (0 : Int32).toNatClampNeg (41 : Int32).toNatClampNeg))), (n, .inr (7, [.ref b])), (b, .inl (cI, 41, .inl f))]) := by
  refine KV.go rfl (Nat.le_of_ble_eq_true rfl) ?_
  intro p e s m args below meth c ls A Q hx hb hml hts hown hin hP hK hD hS hA hN hl hret
  have hl : lv_has ls 3 [(0, .ref h), (1, .int 0), (2, .ref n)] := hl
  refine lv_iload_n hx hb dX6_store_0 rfl (lv_at hl 1 rfl) ?_
  refine lv_if_lt (tgt := 30) hx hb dX6_store_1 (by decide) (fun c_1 => absurd c_1 (by decide +kernel)) (fun c_1 => ?_)
  refine lv_iload_n hx hb dX6_store_4 rfl (lv_at hl 1 rfl) ?_
  refine lv_aload_n hx hb dX6_store_5 rfl (lv_at hl 0 rfl) ?_
  refine va_get (D := D) (ci := 6) (v := .int 2) (C := RX6) (T := TX6) (N := 2) hx hb hts iX6 hown hK hP 0 rfl rfl 0 (by decide) (hts _ wd_54) (fun _ h9 => h9) rfl dX6_store_6 ?_
  refine lv_icmp_ge (tgt := 30) hx hb dX6_store_9 (by decide) (fun c_2 => absurd c_2 (by decide +kernel)) (fun c_2 => ?_)
  refine lv_aload_n hx hb dX6_store_12 rfl (lv_at hl 2 rfl) ?_
  refine va_get (D := D) (ci := 7) (v := .ref b) (C := RX7) (T := TX7) (N := 1) hx hb hts iX7 hown hK hP 2 rfl rfl 0 (by decide) (hts _ wd_193) (fun _ h9 => h9) rfl dX6_store_13 ?_
  refine lv_iconst (v := 0) hx hb dX6_store_16 (by decide) ?_
  refine lv_aload_n hx hb dX6_store_17 rfl (lv_at hl 0 rfl) ?_
  refine va_get (D := D) (ci := 6) (v := .ref a) (C := RX6) (T := TX6) (N := 2) hx hb hts iX6 hown hK hP 0 rfl rfl 1 (by decide) (hts _ wd_55) (fun _ h9 => h9) rfl dX6_store_18 ?_
  refine lv_iload_n hx hb dX6_store_21 rfl (lv_at hl 1 rfl) ?_
  refine lv_bipush (v := 41) hx hb dX6_store_22 (by decide) ?_
  refine lv_imul hx hb dX6_store_24 ?_
  refine lv_topi (fun z_3 ez_3 => ?_)
  obtain rfl : z_3 = 0 := ez_3.trans (by decide +kernel)
  refine lv_bipush (v := 41) hx hb dX6_store_25 (by decide) ?_
  refine va_copyi hx hb (by rw [hml]; exact hl.1.symm) hown (hts _ wd_194) (hts _ wd_195) (hts _ wd_196) (hts _ wd_197) hK hP hD hS 3 1 0 0 rfl rfl rfl rfl rfl (by decide +kernel) (by decide +kernel) (by decide +kernel) (by decide +kernel) (by decide +kernel) (fun _ _ => rfl) (Nat.le_of_ble_eq_true rfl) (Nat.le_of_ble_eq_true rfl) dX6_store_27 (fun H locs hP hD hS => ?_)
  have hP : va_P D classes [(h, .inr (6, [.int 2, .ref a])), (a, .inl (cI, 82, .inl (va_cpy f z0 (0 : Int32).toNatClampNeg (0 : Int32).toNatClampNeg (41 : Int32).toNatClampNeg))), (n, .inr (7, [.ref b])), (b, .inl (cI, 41, .inl f))] H := hP
  have hD : va_D A [(h, .inr (6, [.int 2, .ref a])), (a, .inl (cI, 82, .inl (va_cpy f z0 (0 : Int32).toNatClampNeg (0 : Int32).toNatClampNeg (41 : Int32).toNatClampNeg))), (n, .inr (7, [.ref b])), (b, .inl (cI, 41, .inl f))] := hD
  exact hret () _ _ _ _ dX6_store_30 trivial hP hD hS
def rm_k_store1 : Room := { frames := 1, cells := 0, slots := 0, locals := 60 }
set_option maxHeartbeats 4000000 in
set_option maxRecDepth 100000 in
theorem k_store1 {l : Launch} {D : va_G} {cI cZ : ClassId} {sz : Nat} (h a n b : Nat) (f : Nat → Int32) : KV l yX6_store cX6_store 3 rm_k_store1 D cI cZ [.ref h, .int 1, .ref n] sz [(h, .inr (6, [.int 2, .ref a])), (a, .inl (cI, 82, .inl z0)), (n, .inr (7, [.ref b])), (b, .inl (cI, 41, .inl f))] (fun (_ : Unit) => True) (fun (_ : Unit) => [(h, .inr (6, [.int 2, .ref a])), (a, .inl (cI, 82, .inl (va_cpy f z0 (0 : Int32).toNatClampNeg (41 : Int32).toNatClampNeg (41 : Int32).toNatClampNeg))), (n, .inr (7, [.ref b])), (b, .inl (cI, 41, .inl f))]) := by
  refine KV.go rfl (Nat.le_of_ble_eq_true rfl) ?_
  intro p e s m args below meth c ls A Q hx hb hml hts hown hin hP hK hD hS hA hN hl hret
  have hl : lv_has ls 3 [(0, .ref h), (1, .int 1), (2, .ref n)] := hl
  refine lv_iload_n hx hb dX6_store_0 rfl (lv_at hl 1 rfl) ?_
  refine lv_if_lt (tgt := 30) hx hb dX6_store_1 (by decide) (fun c_1 => absurd c_1 (by decide +kernel)) (fun c_1 => ?_)
  refine lv_iload_n hx hb dX6_store_4 rfl (lv_at hl 1 rfl) ?_
  refine lv_aload_n hx hb dX6_store_5 rfl (lv_at hl 0 rfl) ?_
  refine va_get (D := D) (ci := 6) (v := .int 2) (C := RX6) (T := TX6) (N := 2) hx hb hts iX6 hown hK hP 0 rfl rfl 0 (by decide) (hts _ wd_54) (fun _ h9 => h9) rfl dX6_store_6 ?_
  refine lv_icmp_ge (tgt := 30) hx hb dX6_store_9 (by decide) (fun c_2 => absurd c_2 (by decide +kernel)) (fun c_2 => ?_)
  refine lv_aload_n hx hb dX6_store_12 rfl (lv_at hl 2 rfl) ?_
  refine va_get (D := D) (ci := 7) (v := .ref b) (C := RX7) (T := TX7) (N := 1) hx hb hts iX7 hown hK hP 2 rfl rfl 0 (by decide) (hts _ wd_193) (fun _ h9 => h9) rfl dX6_store_13 ?_
  refine lv_iconst (v := 0) hx hb dX6_store_16 (by decide) ?_
  refine lv_aload_n hx hb dX6_store_17 rfl (lv_at hl 0 rfl) ?_
  refine va_get (D := D) (ci := 6) (v := .ref a) (C := RX6) (T := TX6) (N := 2) hx hb hts iX6 hown hK hP 0 rfl rfl 1 (by decide) (hts _ wd_55) (fun _ h9 => h9) rfl dX6_store_18 ?_
  refine lv_iload_n hx hb dX6_store_21 rfl (lv_at hl 1 rfl) ?_
  refine lv_bipush (v := 41) hx hb dX6_store_22 (by decide) ?_
  refine lv_imul hx hb dX6_store_24 ?_
  refine lv_topi (fun z_3 ez_3 => ?_)
  obtain rfl : z_3 = 41 := ez_3.trans (by decide +kernel)
  refine lv_bipush (v := 41) hx hb dX6_store_25 (by decide) ?_
  refine va_copyi hx hb (by rw [hml]; exact hl.1.symm) hown (hts _ wd_194) (hts _ wd_195) (hts _ wd_196) (hts _ wd_197) hK hP hD hS 3 1 0 0 rfl rfl rfl rfl rfl (by decide +kernel) (by decide +kernel) (by decide +kernel) (by decide +kernel) (by decide +kernel) (fun _ _ => rfl) (Nat.le_of_ble_eq_true rfl) (Nat.le_of_ble_eq_true rfl) dX6_store_27 (fun H locs hP hD hS => ?_)
  have hP : va_P D classes [(h, .inr (6, [.int 2, .ref a])), (a, .inl (cI, 82, .inl (va_cpy f z0 (0 : Int32).toNatClampNeg (41 : Int32).toNatClampNeg (41 : Int32).toNatClampNeg))), (n, .inr (7, [.ref b])), (b, .inl (cI, 41, .inl f))] H := hP
  have hD : va_D A [(h, .inr (6, [.int 2, .ref a])), (a, .inl (cI, 82, .inl (va_cpy f z0 (0 : Int32).toNatClampNeg (41 : Int32).toNatClampNeg (41 : Int32).toNatClampNeg))), (n, .inr (7, [.ref b])), (b, .inl (cI, 41, .inl f))] := hD
  exact hret () _ _ _ _ dX6_store_30 trivial hP hD hS
def rm_k_x_town : Room := { frames := 3, cells := 0, slots := 0, locals := 65 }
set_option maxHeartbeats 4000000 in
set_option maxRecDepth 100000 in
theorem k_x_town {l : Launch} {D : va_G} {cI cZ : ClassId} {sz : Nat} (xh xq1 xq2 xq6 xq14 xq22 xq26 xq31 xq35 xq36 xq41 xq44 xq50 xq59 xu3 xq17 xq18 xq19 xq20 xq21 xu23 xq29 xq39 xq40 : Nat) : KI l yX9_town cX9_town 2 (some .int) rm_k_x_town D cI cZ [.ref xh] sz [(xh, .inr (9, [.ref xq1, .int 0, .int (-1), .ref xq2, .ref xq6, .ref xq14, .ref xq22, .ref xq26, .ref xq31, .ref xq35, .int 0, .ref xq36, .int 0, .ref xq41, .ref xq44, .ref xq50, .ref xq59])), (xq2, .inr (5, [.int 0, .int (-1), .ref xu3, .int 0, .int 0, .int 0, .int 0])), (xq1, .inl (cI, 240, .inl z0)), (xq14, .inr (8, [.int 0, .int 1, .int 0, .int 0, .int 0, .ref xq17, .ref xq18, .ref xq19, .ref xq20, .ref xq21])), (xq22, .inr (7, [.ref xu23])), (xu23, .inl (cI, 41, .inl (cB2 z0 7))), (xq26, .inr (2, [.ref xq29, .int 0, .int 0])), (xq36, .inr (0, [.int 0, .ref xq39, .ref xq40]))] (fun (r : Int32) (_ : Unit) => r = 0) (fun (_ : Unit) => []) := by
  refine KI.go rfl (Nat.le_of_ble_eq_true rfl) ?_
  intro p e s m args below meth c ls A Q hx hb hml hts hown hin hP hK hD hS hA hN hl hret
  have hl : lv_has ls 2 [(0, .ref xh)] := hl
  refine lv_aload_n hx hb dX9_town_0 rfl (lv_at hl 0 rfl) ?_
  refine va_get (D := D) (ci := 9) (v := .ref xq2) (C := RX9) (T := TX9) (N := 17) hx hb hts iX9 hown hK hP 0 rfl rfl 3 (by decide) (hts _ wd_83) (fun _ h9 => h9) rfl dX9_town_1 ?_
  refine lv_aload_n hx hb dX9_town_4 rfl (lv_at hl 0 rfl) ?_
  refine va_get (D := D) (ci := 9) (v := .ref xq1) (C := RX9) (T := TX9) (N := 17) hx hb hts iX9 hown hK hP 0 rfl rfl 0 (by decide) (hts _ wd_75) (fun _ h9 => h9) rfl dX9_town_5 ?_
  refine lv_aload_n hx hb dX9_town_8 rfl (lv_at hl 0 rfl) ?_
  refine va_get (D := D) (ci := 9) (v := .int 0) (C := RX9) (T := TX9) (N := 17) hx hb hts iX9 hown hK hP 0 rfl rfl 1 (by decide) (hts _ wd_76) (fun _ h9 => h9) rfl dX9_town_9 ?_
  refine lv_aload_n hx hb dX9_town_12 rfl (lv_at hl 0 rfl) ?_
  refine va_get (D := D) (ci := 9) (v := .ref xq14) (C := RX9) (T := TX9) (N := 17) hx hb hts iX9 hown hK hP 0 rfl rfl 5 (by decide) (hts _ wd_90) (fun _ h9 => h9) rfl dX9_town_13 ?_
  refine cVv (wr := [(xh, .inr (9, [.ref xq1, .int 0, .int (-1), .ref xq2, .ref xq6, .ref xq14, .ref xq22, .ref xq26, .ref xq31, .ref xq35, .int 0, .ref xq36, .int 0, .ref xq41, .ref xq44, .ref xq50, .ref xq59])), (xq22, .inr (7, [.ref xu23])), (xu23, .inl (cI, 41, .inl (cB2 z0 7))), (xq26, .inr (2, [.ref xq29, .int 0, .int 0])), (xq36, .inr (0, [.int 0, .ref xq39, .ref xq40]))]) (rest := []) (k_read xq2 xq1 xu3 z0 xq14 0 1 0 0 0 xq17 xq18 xq19 xq20 xq21) okV_X5_read wd_198 hx hb hml hown hts hK hP hD hS hA hN hl.1 [1, 2, 3] [0, 4, 5, 6, 7] rfl rfl rfl rfl (by decide) rfl rfl rfl (Nat.le_of_ble_eq_true rfl) (Nat.le_of_ble_eq_true rfl) (Nat.le_of_ble_eq_true rfl) (Nat.le_of_ble_eq_true rfl) (Nat.le_of_ble_eq_true rfl) dX9_town_16 (fun u_1 H locs hw_u_1 hP hD hS => ?_)
  have hP : va_P D classes [(xh, .inr (9, [.ref xq1, .int 0, .int (-1), .ref xq2, .ref xq6, .ref xq14, .ref xq22, .ref xq26, .ref xq31, .ref xq35, .int 0, .ref xq36, .int 0, .ref xq41, .ref xq44, .ref xq50, .ref xq59])), (xq22, .inr (7, [.ref xu23])), (xu23, .inl (cI, 41, .inl (cB2 z0 7))), (xq26, .inr (2, [.ref xq29, .int 0, .int 0])), (xq36, .inr (0, [.int 0, .ref xq39, .ref xq40])), (xq14, .inr (8, [.int 0, .int 1, .int 0, .int 0, .int 0, .ref xq17, .ref xq18, .ref xq19, .ref xq20, .ref xq21])), (xq2, .inr (5, [.int 0, .int (-1), .ref xq1, .int 0, .int 0, .int 0, .int 0])), (xq1, .inl (cI, 240, .inl z0))] H := hP
  have hD : va_D A [(xh, .inr (9, [.ref xq1, .int 0, .int (-1), .ref xq2, .ref xq6, .ref xq14, .ref xq22, .ref xq26, .ref xq31, .ref xq35, .int 0, .ref xq36, .int 0, .ref xq41, .ref xq44, .ref xq50, .ref xq59])), (xq22, .inr (7, [.ref xu23])), (xu23, .inl (cI, 41, .inl (cB2 z0 7))), (xq26, .inr (2, [.ref xq29, .int 0, .int 0])), (xq36, .inr (0, [.int 0, .ref xq39, .ref xq40])), (xq14, .inr (8, [.int 0, .int 1, .int 0, .int 0, .int 0, .ref xq17, .ref xq18, .ref xq19, .ref xq20, .ref xq21])), (xq2, .inr (5, [.int 0, .int (-1), .ref xq1, .int 0, .int 0, .int 0, .int 0])), (xq1, .inl (cI, 240, .inl z0))] := hD
  refine lv_aload_n hx hb dX9_town_19 rfl (lv_at hl 0 rfl) ?_
  refine lv_iconst (v := 0) hx hb dX9_town_20 (by decide) ?_
  refine va_put (D := D) (ci := 9) (v := .int 0) (ty := .int) (C := RX9) (T := TX9) (N := 17) hx hb hts iX9 tyX9 tyX9_ok nmX9 hown hK hP hD hS 0 rfl rfl 1 (by decide) (hts _ wd_76) (fun _ h9 => h9) rfl (by decide +kernel) rfl rfl (Nat.le_of_ble_eq_true rfl) dX9_town_21 (fun H locs hP hD hS => ?_)
  have hP : va_P D classes [(xh, .inr (9, [.ref xq1, .int 0, .int (-1), .ref xq2, .ref xq6, .ref xq14, .ref xq22, .ref xq26, .ref xq31, .ref xq35, .int 0, .ref xq36, .int 0, .ref xq41, .ref xq44, .ref xq50, .ref xq59])), (xq22, .inr (7, [.ref xu23])), (xu23, .inl (cI, 41, .inl (cB2 z0 7))), (xq26, .inr (2, [.ref xq29, .int 0, .int 0])), (xq36, .inr (0, [.int 0, .ref xq39, .ref xq40])), (xq14, .inr (8, [.int 0, .int 1, .int 0, .int 0, .int 0, .ref xq17, .ref xq18, .ref xq19, .ref xq20, .ref xq21])), (xq2, .inr (5, [.int 0, .int (-1), .ref xq1, .int 0, .int 0, .int 0, .int 0])), (xq1, .inl (cI, 240, .inl z0))] H := hP
  have hD : va_D A [(xh, .inr (9, [.ref xq1, .int 0, .int (-1), .ref xq2, .ref xq6, .ref xq14, .ref xq22, .ref xq26, .ref xq31, .ref xq35, .int 0, .ref xq36, .int 0, .ref xq41, .ref xq44, .ref xq50, .ref xq59])), (xq22, .inr (7, [.ref xu23])), (xu23, .inl (cI, 41, .inl (cB2 z0 7))), (xq26, .inr (2, [.ref xq29, .int 0, .int 0])), (xq36, .inr (0, [.int 0, .ref xq39, .ref xq40])), (xq14, .inr (8, [.int 0, .int 1, .int 0, .int 0, .int 0, .ref xq17, .ref xq18, .ref xq19, .ref xq20, .ref xq21])), (xq2, .inr (5, [.int 0, .int (-1), .ref xq1, .int 0, .int 0, .int 0, .int 0])), (xq1, .inl (cI, 240, .inl z0))] := hD
  refine lv_aload_n hx hb dX9_town_24 rfl (lv_at hl 0 rfl) ?_
  refine lv_aload_n hx hb dX9_town_25 rfl (lv_at hl 0 rfl) ?_
  refine va_get (D := D) (ci := 9) (v := .ref xq2) (C := RX9) (T := TX9) (N := 17) hx hb hts iX9 hown hK hP 0 rfl rfl 3 (by decide) (hts _ wd_83) (fun _ h9 => h9) rfl dX9_town_26 ?_
  refine va_get (D := D) (ci := 5) (v := .int (-1)) (C := RX5) (T := TX5) (N := 7) hx hb hts iX5 hown hK hP 6 rfl rfl 1 (by decide) (hts _ wd_202) (fun _ h9 => h9) rfl dX9_town_29 ?_
  refine va_put (D := D) (ci := 9) (v := .int (-1)) (ty := .int) (C := RX9) (T := TX9) (N := 17) hx hb hts iX9 tyX9 tyX9_ok nmX9 hown hK hP hD hS 0 rfl rfl 2 (by decide) (hts _ wd_77) (fun _ h9 => h9) rfl (by decide +kernel) rfl rfl (Nat.le_of_ble_eq_true rfl) dX9_town_32 (fun H locs hP hD hS => ?_)
  have hP : va_P D classes [(xh, .inr (9, [.ref xq1, .int 0, .int (-1), .ref xq2, .ref xq6, .ref xq14, .ref xq22, .ref xq26, .ref xq31, .ref xq35, .int 0, .ref xq36, .int 0, .ref xq41, .ref xq44, .ref xq50, .ref xq59])), (xq22, .inr (7, [.ref xu23])), (xu23, .inl (cI, 41, .inl (cB2 z0 7))), (xq26, .inr (2, [.ref xq29, .int 0, .int 0])), (xq36, .inr (0, [.int 0, .ref xq39, .ref xq40])), (xq14, .inr (8, [.int 0, .int 1, .int 0, .int 0, .int 0, .ref xq17, .ref xq18, .ref xq19, .ref xq20, .ref xq21])), (xq2, .inr (5, [.int 0, .int (-1), .ref xq1, .int 0, .int 0, .int 0, .int 0])), (xq1, .inl (cI, 240, .inl z0))] H := hP
  have hD : va_D A [(xh, .inr (9, [.ref xq1, .int 0, .int (-1), .ref xq2, .ref xq6, .ref xq14, .ref xq22, .ref xq26, .ref xq31, .ref xq35, .int 0, .ref xq36, .int 0, .ref xq41, .ref xq44, .ref xq50, .ref xq59])), (xq22, .inr (7, [.ref xu23])), (xu23, .inl (cI, 41, .inl (cB2 z0 7))), (xq26, .inr (2, [.ref xq29, .int 0, .int 0])), (xq36, .inr (0, [.int 0, .ref xq39, .ref xq40])), (xq14, .inr (8, [.int 0, .int 1, .int 0, .int 0, .int 0, .ref xq17, .ref xq18, .ref xq19, .ref xq20, .ref xq21])), (xq2, .inr (5, [.int 0, .int (-1), .ref xq1, .int 0, .int 0, .int 0, .int 0])), (xq1, .inl (cI, 240, .inl z0))] := hD
  refine lv_aload_n hx hb dX9_town_35 rfl (lv_at hl 0 rfl) ?_
  refine va_get (D := D) (ci := 9) (v := .ref xq2) (C := RX9) (T := TX9) (N := 17) hx hb hts iX9 hown hK hP 0 rfl rfl 3 (by decide) (hts _ wd_83) (fun _ h9 => h9) rfl dX9_town_36 ?_
  refine va_get (D := D) (ci := 5) (v := .int 0) (C := RX5) (T := TX5) (N := 7) hx hb hts iX5 hown hK hP 6 rfl rfl 0 (by decide) (hts _ wd_203) (fun _ h9 => h9) rfl dX9_town_39 ?_
  refine lv_if_eq (tgt := 56) hx hb dX9_town_42 (by decide) (fun c_3 => ?_) (fun c_3 => absurd (by decide +kernel) c_3)
  refine lv_aload_n hx hb dX9_town_56 rfl (lv_at hl 0 rfl) ?_
  refine va_get (D := D) (ci := 9) (v := .ref xq6) (C := RX9) (T := TX9) (N := 17) hx hb hts iX9 hown hK hP 0 rfl rfl 4 (by decide) (hts _ wd_89) (fun _ h9 => h9) rfl dX9_town_57 ?_
  refine lv_astore_n (lv' := [(1, .ref xq6), (0, .ref xh)]) hx hb dX9_town_60 rfl hl (by decide) rfl (fun ls hl => ?_)
  refine lv_aload_n hx hb dX9_town_61 rfl (lv_at hl 1 rfl) ?_
  refine lv_aload_n hx hb dX9_town_62 rfl (lv_at hl 1 rfl) ?_
  refine va_get (D := D) (ci := 9) (v := .ref xq14) (C := RX9) (T := TX9) (N := 17) hx hb hts iX9 hown hK hP 0 rfl rfl 5 (by decide) (hts _ wd_90) (fun _ h9 => h9) rfl dX9_town_63 ?_
  refine va_put (D := D) (ci := 9) (v := .ref xq14) (ty := (.object "QuarrelBridges$Town")) (C := RX9) (T := TX9) (N := 17) hx hb hts iX9 tyX9 tyX9_ok nmX9 hown hK hP hD hS 0 rfl rfl 4 (by decide) (hts _ wd_89) (fun _ h9 => h9) rfl (by decide +kernel) rfl rfl (Nat.le_of_ble_eq_true rfl) dX9_town_66 (fun H locs hP hD hS => ?_)
  have hP : va_P D classes [(xh, .inr (9, [.ref xq1, .int 0, .int (-1), .ref xq2, .ref xq14, .ref xq14, .ref xq22, .ref xq26, .ref xq31, .ref xq35, .int 0, .ref xq36, .int 0, .ref xq41, .ref xq44, .ref xq50, .ref xq59])), (xq22, .inr (7, [.ref xu23])), (xu23, .inl (cI, 41, .inl (cB2 z0 7))), (xq26, .inr (2, [.ref xq29, .int 0, .int 0])), (xq36, .inr (0, [.int 0, .ref xq39, .ref xq40])), (xq14, .inr (8, [.int 0, .int 1, .int 0, .int 0, .int 0, .ref xq17, .ref xq18, .ref xq19, .ref xq20, .ref xq21])), (xq2, .inr (5, [.int 0, .int (-1), .ref xq1, .int 0, .int 0, .int 0, .int 0])), (xq1, .inl (cI, 240, .inl z0))] H := hP
  have hD : va_D A [(xh, .inr (9, [.ref xq1, .int 0, .int (-1), .ref xq2, .ref xq14, .ref xq14, .ref xq22, .ref xq26, .ref xq31, .ref xq35, .int 0, .ref xq36, .int 0, .ref xq41, .ref xq44, .ref xq50, .ref xq59])), (xq22, .inr (7, [.ref xu23])), (xu23, .inl (cI, 41, .inl (cB2 z0 7))), (xq26, .inr (2, [.ref xq29, .int 0, .int 0])), (xq36, .inr (0, [.int 0, .ref xq39, .ref xq40])), (xq14, .inr (8, [.int 0, .int 1, .int 0, .int 0, .int 0, .ref xq17, .ref xq18, .ref xq19, .ref xq20, .ref xq21])), (xq2, .inr (5, [.int 0, .int (-1), .ref xq1, .int 0, .int 0, .int 0, .int 0])), (xq1, .inl (cI, 240, .inl z0))] := hD
  refine lv_aload_n hx hb dX9_town_69 rfl (lv_at hl 1 rfl) ?_
  refine lv_aload_n hx hb dX9_town_70 rfl (lv_at hl 0 rfl) ?_
  refine va_put (D := D) (ci := 9) (v := .ref xq6) (ty := (.object "QuarrelBridges$Town")) (C := RX9) (T := TX9) (N := 17) hx hb hts iX9 tyX9 tyX9_ok nmX9 hown hK hP hD hS 0 rfl rfl 5 (by decide) (hts _ wd_90) (fun _ h9 => h9) rfl (by decide +kernel) rfl rfl (Nat.le_of_ble_eq_true rfl) dX9_town_71 (fun H locs hP hD hS => ?_)
  have hP : va_P D classes [(xh, .inr (9, [.ref xq1, .int 0, .int (-1), .ref xq2, .ref xq14, .ref xq6, .ref xq22, .ref xq26, .ref xq31, .ref xq35, .int 0, .ref xq36, .int 0, .ref xq41, .ref xq44, .ref xq50, .ref xq59])), (xq22, .inr (7, [.ref xu23])), (xu23, .inl (cI, 41, .inl (cB2 z0 7))), (xq26, .inr (2, [.ref xq29, .int 0, .int 0])), (xq36, .inr (0, [.int 0, .ref xq39, .ref xq40])), (xq14, .inr (8, [.int 0, .int 1, .int 0, .int 0, .int 0, .ref xq17, .ref xq18, .ref xq19, .ref xq20, .ref xq21])), (xq2, .inr (5, [.int 0, .int (-1), .ref xq1, .int 0, .int 0, .int 0, .int 0])), (xq1, .inl (cI, 240, .inl z0))] H := hP
  have hD : va_D A [(xh, .inr (9, [.ref xq1, .int 0, .int (-1), .ref xq2, .ref xq14, .ref xq6, .ref xq22, .ref xq26, .ref xq31, .ref xq35, .int 0, .ref xq36, .int 0, .ref xq41, .ref xq44, .ref xq50, .ref xq59])), (xq22, .inr (7, [.ref xu23])), (xu23, .inl (cI, 41, .inl (cB2 z0 7))), (xq26, .inr (2, [.ref xq29, .int 0, .int 0])), (xq36, .inr (0, [.int 0, .ref xq39, .ref xq40])), (xq14, .inr (8, [.int 0, .int 1, .int 0, .int 0, .int 0, .ref xq17, .ref xq18, .ref xq19, .ref xq20, .ref xq21])), (xq2, .inr (5, [.int 0, .int (-1), .ref xq1, .int 0, .int 0, .int 0, .int 0])), (xq1, .inl (cI, 240, .inl z0))] := hD
  refine lv_aload_n hx hb dX9_town_74 rfl (lv_at hl 1 rfl) ?_
  refine va_get (D := D) (ci := 9) (v := .ref xq22) (C := RX9) (T := TX9) (N := 17) hx hb hts iX9 hown hK hP 0 rfl rfl 6 (by decide) (hts _ wd_96) (fun _ h9 => h9) rfl dX9_town_75 ?_
  refine lv_aload_n hx hb dX9_town_78 rfl (lv_at hl 1 rfl) ?_
  refine va_get (D := D) (ci := 9) (v := .ref xq14) (C := RX9) (T := TX9) (N := 17) hx hb hts iX9 hown hK hP 0 rfl rfl 4 (by decide) (hts _ wd_89) (fun _ h9 => h9) rfl dX9_town_79 ?_
  refine cVv (wr := [(xh, .inr (9, [.ref xq1, .int 0, .int (-1), .ref xq2, .ref xq14, .ref xq6, .ref xq22, .ref xq26, .ref xq31, .ref xq35, .int 0, .ref xq36, .int 0, .ref xq41, .ref xq44, .ref xq50, .ref xq59])), (xq26, .inr (2, [.ref xq29, .int 0, .int 0])), (xq36, .inr (0, [.int 0, .ref xq39, .ref xq40])), (xq2, .inr (5, [.int 0, .int (-1), .ref xq1, .int 0, .int 0, .int 0, .int 0])), (xq1, .inl (cI, 240, .inl z0))]) (rest := []) (k_begin xq22 xu23 (cB2 z0 7) xq14 0 1 0 0 xq17 xq18 xq19 xq20 xq21) okV_X7_begin wd_134 hx hb hml hown hts hK hP hD hS hA hN hl.1 [1, 2, 5] [0, 3, 4, 6, 7] rfl rfl rfl rfl (by decide) rfl rfl rfl (Nat.le_of_ble_eq_true rfl) (Nat.le_of_ble_eq_true rfl) (Nat.le_of_ble_eq_true rfl) (Nat.le_of_ble_eq_true rfl) (Nat.le_of_ble_eq_true rfl) dX9_town_82 (fun u_4 H locs hw_u_4 hP hD hS => ?_)
  have hP : va_P D classes [(xh, .inr (9, [.ref xq1, .int 0, .int (-1), .ref xq2, .ref xq14, .ref xq6, .ref xq22, .ref xq26, .ref xq31, .ref xq35, .int 0, .ref xq36, .int 0, .ref xq41, .ref xq44, .ref xq50, .ref xq59])), (xq26, .inr (2, [.ref xq29, .int 0, .int 0])), (xq36, .inr (0, [.int 0, .ref xq39, .ref xq40])), (xq2, .inr (5, [.int 0, .int (-1), .ref xq1, .int 0, .int 0, .int 0, .int 0])), (xq1, .inl (cI, 240, .inl z0)), (xq22, .inr (7, [.ref xu23])), (xu23, .inl (cI, 41, .inl (cB2 (cB2 z0 7) 7))), (xq14, .inr (8, [.int 0, .int 1, .int 0, .int 0, .int 0, .ref xq17, .ref xq18, .ref xq19, .ref xq20, .ref xq21]))] H := hP
  have hD : va_D A [(xh, .inr (9, [.ref xq1, .int 0, .int (-1), .ref xq2, .ref xq14, .ref xq6, .ref xq22, .ref xq26, .ref xq31, .ref xq35, .int 0, .ref xq36, .int 0, .ref xq41, .ref xq44, .ref xq50, .ref xq59])), (xq26, .inr (2, [.ref xq29, .int 0, .int 0])), (xq36, .inr (0, [.int 0, .ref xq39, .ref xq40])), (xq2, .inr (5, [.int 0, .int (-1), .ref xq1, .int 0, .int 0, .int 0, .int 0])), (xq1, .inl (cI, 240, .inl z0)), (xq22, .inr (7, [.ref xu23])), (xu23, .inl (cI, 41, .inl (cB2 (cB2 z0 7) 7))), (xq14, .inr (8, [.int 0, .int 1, .int 0, .int 0, .int 0, .ref xq17, .ref xq18, .ref xq19, .ref xq20, .ref xq21]))] := hD
  refine lv_aload_n hx hb dX9_town_85 rfl (lv_at hl 1 rfl) ?_
  refine va_get (D := D) (ci := 9) (v := .ref xq26) (C := RX9) (T := TX9) (N := 17) hx hb hts iX9 hown hK hP 0 rfl rfl 7 (by decide) (hts _ wd_102) (fun _ h9 => h9) rfl dX9_town_86 ?_
  refine cVv (wr := [(xh, .inr (9, [.ref xq1, .int 0, .int (-1), .ref xq2, .ref xq14, .ref xq6, .ref xq22, .ref xq26, .ref xq31, .ref xq35, .int 0, .ref xq36, .int 0, .ref xq41, .ref xq44, .ref xq50, .ref xq59])), (xq36, .inr (0, [.int 0, .ref xq39, .ref xq40])), (xq2, .inr (5, [.int 0, .int (-1), .ref xq1, .int 0, .int 0, .int 0, .int 0])), (xq1, .inl (cI, 240, .inl z0)), (xq22, .inr (7, [.ref xu23])), (xu23, .inl (cI, 41, .inl (cB2 (cB2 z0 7) 7))), (xq14, .inr (8, [.int 0, .int 1, .int 0, .int 0, .int 0, .ref xq17, .ref xq18, .ref xq19, .ref xq20, .ref xq21]))]) (rest := []) (k_forget xq26 0 0 xq29) okV_X2_forget wd_204 hx hb hml hown hts hK hP hD hS hA hN hl.1 [1] [0, 2, 3, 4, 5, 6, 7] rfl rfl rfl rfl (by decide) rfl rfl rfl (Nat.le_of_ble_eq_true rfl) (Nat.le_of_ble_eq_true rfl) (Nat.le_of_ble_eq_true rfl) (Nat.le_of_ble_eq_true rfl) (Nat.le_of_ble_eq_true rfl) dX9_town_89 (fun u_6 H locs hw_u_6 hP hD hS => ?_)
  have hP : va_P D classes [(xh, .inr (9, [.ref xq1, .int 0, .int (-1), .ref xq2, .ref xq14, .ref xq6, .ref xq22, .ref xq26, .ref xq31, .ref xq35, .int 0, .ref xq36, .int 0, .ref xq41, .ref xq44, .ref xq50, .ref xq59])), (xq36, .inr (0, [.int 0, .ref xq39, .ref xq40])), (xq2, .inr (5, [.int 0, .int (-1), .ref xq1, .int 0, .int 0, .int 0, .int 0])), (xq1, .inl (cI, 240, .inl z0)), (xq22, .inr (7, [.ref xu23])), (xu23, .inl (cI, 41, .inl (cB2 (cB2 z0 7) 7))), (xq14, .inr (8, [.int 0, .int 1, .int 0, .int 0, .int 0, .ref xq17, .ref xq18, .ref xq19, .ref xq20, .ref xq21])), (xq26, .inr (2, [.ref xq29, .int 0, .int 0]))] H := hP
  have hD : va_D A [(xh, .inr (9, [.ref xq1, .int 0, .int (-1), .ref xq2, .ref xq14, .ref xq6, .ref xq22, .ref xq26, .ref xq31, .ref xq35, .int 0, .ref xq36, .int 0, .ref xq41, .ref xq44, .ref xq50, .ref xq59])), (xq36, .inr (0, [.int 0, .ref xq39, .ref xq40])), (xq2, .inr (5, [.int 0, .int (-1), .ref xq1, .int 0, .int 0, .int 0, .int 0])), (xq1, .inl (cI, 240, .inl z0)), (xq22, .inr (7, [.ref xu23])), (xu23, .inl (cI, 41, .inl (cB2 (cB2 z0 7) 7))), (xq14, .inr (8, [.int 0, .int 1, .int 0, .int 0, .int 0, .ref xq17, .ref xq18, .ref xq19, .ref xq20, .ref xq21])), (xq26, .inr (2, [.ref xq29, .int 0, .int 0]))] := hD
  refine lv_aload_n hx hb dX9_town_92 rfl (lv_at hl 1 rfl) ?_
  refine lv_iconst (v := 0) hx hb dX9_town_93 (by decide) ?_
  refine va_put (D := D) (ci := 9) (v := .int 0) (ty := .int) (C := RX9) (T := TX9) (N := 17) hx hb hts iX9 tyX9 tyX9_ok nmX9 hown hK hP hD hS 0 rfl rfl 10 (by decide) (hts _ wd_107) (fun _ h9 => h9) rfl (by decide +kernel) rfl rfl (Nat.le_of_ble_eq_true rfl) dX9_town_94 (fun H locs hP hD hS => ?_)
  have hP : va_P D classes [(xh, .inr (9, [.ref xq1, .int 0, .int (-1), .ref xq2, .ref xq14, .ref xq6, .ref xq22, .ref xq26, .ref xq31, .ref xq35, .int 0, .ref xq36, .int 0, .ref xq41, .ref xq44, .ref xq50, .ref xq59])), (xq36, .inr (0, [.int 0, .ref xq39, .ref xq40])), (xq2, .inr (5, [.int 0, .int (-1), .ref xq1, .int 0, .int 0, .int 0, .int 0])), (xq1, .inl (cI, 240, .inl z0)), (xq22, .inr (7, [.ref xu23])), (xu23, .inl (cI, 41, .inl (cB2 (cB2 z0 7) 7))), (xq14, .inr (8, [.int 0, .int 1, .int 0, .int 0, .int 0, .ref xq17, .ref xq18, .ref xq19, .ref xq20, .ref xq21])), (xq26, .inr (2, [.ref xq29, .int 0, .int 0]))] H := hP
  have hD : va_D A [(xh, .inr (9, [.ref xq1, .int 0, .int (-1), .ref xq2, .ref xq14, .ref xq6, .ref xq22, .ref xq26, .ref xq31, .ref xq35, .int 0, .ref xq36, .int 0, .ref xq41, .ref xq44, .ref xq50, .ref xq59])), (xq36, .inr (0, [.int 0, .ref xq39, .ref xq40])), (xq2, .inr (5, [.int 0, .int (-1), .ref xq1, .int 0, .int 0, .int 0, .int 0])), (xq1, .inl (cI, 240, .inl z0)), (xq22, .inr (7, [.ref xu23])), (xu23, .inl (cI, 41, .inl (cB2 (cB2 z0 7) 7))), (xq14, .inr (8, [.int 0, .int 1, .int 0, .int 0, .int 0, .ref xq17, .ref xq18, .ref xq19, .ref xq20, .ref xq21])), (xq26, .inr (2, [.ref xq29, .int 0, .int 0]))] := hD
  refine lv_aload_n hx hb dX9_town_97 rfl (lv_at hl 1 rfl) ?_
  refine va_get (D := D) (ci := 9) (v := .ref xq36) (C := RX9) (T := TX9) (N := 17) hx hb hts iX9 hown hK hP 0 rfl rfl 11 (by decide) (hts _ wd_113) (fun _ h9 => h9) rfl dX9_town_98 ?_
  refine cVv (wr := [(xh, .inr (9, [.ref xq1, .int 0, .int (-1), .ref xq2, .ref xq14, .ref xq6, .ref xq22, .ref xq26, .ref xq31, .ref xq35, .int 0, .ref xq36, .int 0, .ref xq41, .ref xq44, .ref xq50, .ref xq59])), (xq2, .inr (5, [.int 0, .int (-1), .ref xq1, .int 0, .int 0, .int 0, .int 0])), (xq1, .inl (cI, 240, .inl z0)), (xq22, .inr (7, [.ref xu23])), (xu23, .inl (cI, 41, .inl (cB2 (cB2 z0 7) 7))), (xq14, .inr (8, [.int 0, .int 1, .int 0, .int 0, .int 0, .ref xq17, .ref xq18, .ref xq19, .ref xq20, .ref xq21])), (xq26, .inr (2, [.ref xq29, .int 0, .int 0]))]) (rest := []) (k_bookclear xq36 0 xq39 xq40) okV_X0_clear wd_208 hx hb hml hown hts hK hP hD hS hA hN hl.1 [1] [0, 2, 3, 4, 5, 6, 7] rfl rfl rfl rfl (by decide) rfl rfl rfl (Nat.le_of_ble_eq_true rfl) (Nat.le_of_ble_eq_true rfl) (Nat.le_of_ble_eq_true rfl) (Nat.le_of_ble_eq_true rfl) (Nat.le_of_ble_eq_true rfl) dX9_town_101 (fun u_8 H locs hw_u_8 hP hD hS => ?_)
  have hP : va_P D classes [(xh, .inr (9, [.ref xq1, .int 0, .int (-1), .ref xq2, .ref xq14, .ref xq6, .ref xq22, .ref xq26, .ref xq31, .ref xq35, .int 0, .ref xq36, .int 0, .ref xq41, .ref xq44, .ref xq50, .ref xq59])), (xq2, .inr (5, [.int 0, .int (-1), .ref xq1, .int 0, .int 0, .int 0, .int 0])), (xq1, .inl (cI, 240, .inl z0)), (xq22, .inr (7, [.ref xu23])), (xu23, .inl (cI, 41, .inl (cB2 (cB2 z0 7) 7))), (xq14, .inr (8, [.int 0, .int 1, .int 0, .int 0, .int 0, .ref xq17, .ref xq18, .ref xq19, .ref xq20, .ref xq21])), (xq26, .inr (2, [.ref xq29, .int 0, .int 0])), (xq36, .inr (0, [.int 0, .ref xq39, .ref xq40]))] H := hP
  have hD : va_D A [(xh, .inr (9, [.ref xq1, .int 0, .int (-1), .ref xq2, .ref xq14, .ref xq6, .ref xq22, .ref xq26, .ref xq31, .ref xq35, .int 0, .ref xq36, .int 0, .ref xq41, .ref xq44, .ref xq50, .ref xq59])), (xq2, .inr (5, [.int 0, .int (-1), .ref xq1, .int 0, .int 0, .int 0, .int 0])), (xq1, .inl (cI, 240, .inl z0)), (xq22, .inr (7, [.ref xu23])), (xu23, .inl (cI, 41, .inl (cB2 (cB2 z0 7) 7))), (xq14, .inr (8, [.int 0, .int 1, .int 0, .int 0, .int 0, .ref xq17, .ref xq18, .ref xq19, .ref xq20, .ref xq21])), (xq26, .inr (2, [.ref xq29, .int 0, .int 0])), (xq36, .inr (0, [.int 0, .ref xq39, .ref xq40]))] := hD
  refine lv_aload_n hx hb dX9_town_104 rfl (lv_at hl 1 rfl) ?_
  refine va_get (D := D) (ci := 9) (v := .ref xq14) (C := RX9) (T := TX9) (N := 17) hx hb hts iX9 hown hK hP 0 rfl rfl 4 (by decide) (hts _ wd_89) (fun _ h9 => h9) rfl dX9_town_105 ?_
  refine va_get (D := D) (ci := 8) (v := .int 0) (C := RX8) (T := TX8) (N := 10) hx hb hts iX8 hown hK hP 5 rfl rfl 0 (by decide) (hts _ wd_212) (fun _ h9 => h9) rfl dX9_town_108 ?_
  exact hret 0 () _ _ _ _ dX9_town_111 rfl rfl (cutP (isC := []) hP rfl) (cutD (isC := []) hD rfl rfl) hS
def rm_k_x_fault : Room := { frames := 0, cells := 0, slots := 0, locals := 0 }
set_option maxHeartbeats 4000000 in
set_option maxRecDepth 100000 in
theorem k_x_fault {l : Launch} {D : va_G} {cI cZ : ClassId} {sz : Nat} (xh xq1 xq2 xq6 xq14 xq22 xq26 xq31 xq35 xq36 xq41 xq44 xq50 xq59 : Nat) : KI l yX9_fault cX9_fault 1 (some .int) rm_k_x_fault D cI cZ [.ref xh] sz [(xh, .inr (9, [.ref xq1, .int 0, .int (-1), .ref xq2, .ref xq6, .ref xq14, .ref xq22, .ref xq26, .ref xq31, .ref xq35, .int 0, .ref xq36, .int 0, .ref xq41, .ref xq44, .ref xq50, .ref xq59]))] (fun (r : Int32) (_ : Unit) => r = (-1)) (fun (_ : Unit) => []) := by
  refine KI.go rfl (Nat.le_of_ble_eq_true rfl) ?_
  intro p e s m args below meth c ls A Q hx hb hml hts hown hin hP hK hD hS hA hN hl hret
  have hl : lv_has ls 1 [(0, .ref xh)] := hl
  refine lv_aload_n hx hb dX9_fault_0 rfl (lv_at hl 0 rfl) ?_
  refine va_get (D := D) (ci := 9) (v := .int (-1)) (C := RX9) (T := TX9) (N := 17) hx hb hts iX9 hown hK hP 0 rfl rfl 2 (by decide) (hts _ wd_77) (fun _ h9 => h9) rfl dX9_fault_1 ?_
  exact hret (-1) () _ _ _ _ dX9_fault_4 rfl rfl (cutP (isC := []) hP rfl) (cutD (isC := []) hD rfl rfl) hS
def rm_k_x_told : Room := { frames := 4, cells := 0, slots := 0, locals := 85 }
set_option maxHeartbeats 4000000 in
set_option maxRecDepth 100000 in
theorem k_x_told {l : Launch} {D : va_G} {cI cZ : ClassId} {sz : Nat} (xh xq1 xq2 xq6 xq14 xq22 xq26 xq31 xq35 xq36 xq41 xq44 xq50 xq59 xq9 xq10 xq11 xq12 xq13 xu23 xq39 xq40 xq29 : Nat) (v : Int32) : KI l yX9_told cX9_told 2 (some .int) rm_k_x_told D cI cZ [.ref xh, .int v] sz [(xh, .inr (9, [.ref xq1, .int 0, .int (-1), .ref xq2, .ref xq6, .ref xq14, .ref xq22, .ref xq26, .ref xq31, .ref xq35, .int 0, .ref xq36, .int 0, .ref xq41, .ref xq44, .ref xq50, .ref xq59])), (xq6, .inr (8, [.int 0, .int 1, .int 0, .int 0, .int 0, .ref xq9, .ref xq10, .ref xq11, .ref xq12, .ref xq13])), (xq22, .inr (7, [.ref xu23])), (xu23, .inl (cI, 41, .inl (cB2 z0 7))), (xq36, .inr (0, [.int 0, .ref xq39, .ref xq40])), (xq26, .inr (2, [.ref xq29, .int 0, .int 0]))] (fun (r : Int32) (_ : Unit) => r = toldS v) (fun (_ : Unit) => []) := by
  refine KI.go rfl (Nat.le_of_ble_eq_true rfl) ?_
  intro p e s m args below meth c ls A Q hx hb hml hts hown hin hP hK hD hS hA hN hl hret
  have hl : lv_has ls 2 [(0, .ref xh), (1, .int v)] := hl
  refine lv_iload_n hx hb dX9_told_0 rfl (lv_at hl 1 rfl) ?_
  by_cases c_1 : v.toInt < 0 ∨ 13 < v.toInt
  · refine lv_tableOut (tgt := 184) hx hb dX9_told_1 c_1 (by decide) ?_
    refine lv_ldc (v := (-1000000002)) hx hb hown (hts _ wd_191) dX9_told_184 ?_
    exact hret (-1000000002) () _ _ _ _ dX9_told_186 rfl (if_pos c_1).symm (cutP (isC := []) hP rfl) (cutD (isC := []) hD rfl rfl) hS
  · rcases swc_0_13 c_1 with rfl | rfl | rfl | rfl | rfl | rfl | rfl | rfl | rfl | rfl | rfl | rfl | rfl | rfl
    · have hl : lv_has ls 2 [(0, .ref xh), (1, .int 0)] := hl
      refine lv_tableIn (off := 71) (tgt := 72) hx hb dX9_told_1 (by decide +kernel) (by decide +kernel) (by decide +kernel) (by decide) ?_
      refine lv_aload_n hx hb dX9_told_72 rfl (lv_at hl 0 rfl) ?_
      refine va_get (D := D) (ci := 9) (v := .ref xq6) (C := RX9) (T := TX9) (N := 17) hx hb hts iX9 hown hK hP 0 rfl rfl 4 (by decide) (hts _ wd_89) (fun _ h9 => h9) rfl dX9_told_73 ?_
      refine va_get (D := D) (ci := 8) (v := .int 0) (C := RX8) (T := TX8) (N := 10) hx hb hts iX8 hown hK hP 1 rfl rfl 0 (by decide) (hts _ wd_212) (fun _ h9 => h9) rfl dX9_told_76 ?_
      exact hret 0 () _ _ _ _ dX9_told_79 rfl (by decide +kernel) (cutP (isC := []) hP rfl) (cutD (isC := []) hD rfl rfl) hS
    · have hl : lv_has ls 2 [(0, .ref xh), (1, .int 1)] := hl
      refine lv_tableIn (off := 79) (tgt := 80) hx hb dX9_told_1 (by decide +kernel) (by decide +kernel) (by decide +kernel) (by decide) ?_
      refine lv_aload_n hx hb dX9_told_80 rfl (lv_at hl 0 rfl) ?_
      refine va_get (D := D) (ci := 9) (v := .ref xq6) (C := RX9) (T := TX9) (N := 17) hx hb hts iX9 hown hK hP 0 rfl rfl 4 (by decide) (hts _ wd_89) (fun _ h9 => h9) rfl dX9_told_81 ?_
      refine va_get (D := D) (ci := 8) (v := .int 1) (C := RX8) (T := TX8) (N := 10) hx hb hts iX8 hown hK hP 1 rfl rfl 1 (by decide) (hts _ wd_213) (fun _ h9 => h9) rfl dX9_told_84 ?_
      exact hret 1 () _ _ _ _ dX9_told_87 rfl (by decide +kernel) (cutP (isC := []) hP rfl) (cutD (isC := []) hD rfl rfl) hS
    · have hl : lv_has ls 2 [(0, .ref xh), (1, .int 2)] := hl
      refine lv_tableIn (off := 87) (tgt := 88) hx hb dX9_told_1 (by decide +kernel) (by decide +kernel) (by decide +kernel) (by decide) ?_
      refine lv_aload_n hx hb dX9_told_88 rfl (lv_at hl 0 rfl) ?_
      refine va_get (D := D) (ci := 9) (v := .ref xq6) (C := RX9) (T := TX9) (N := 17) hx hb hts iX9 hown hK hP 0 rfl rfl 4 (by decide) (hts _ wd_89) (fun _ h9 => h9) rfl dX9_told_89 ?_
      refine va_get (D := D) (ci := 8) (v := .int 0) (C := RX8) (T := TX8) (N := 10) hx hb hts iX8 hown hK hP 1 rfl rfl 2 (by decide) (hts _ wd_214) (fun _ h9 => h9) rfl dX9_told_92 ?_
      exact hret 0 () _ _ _ _ dX9_told_95 rfl (by decide +kernel) (cutP (isC := []) hP rfl) (cutD (isC := []) hD rfl rfl) hS
    · have hl : lv_has ls 2 [(0, .ref xh), (1, .int 3)] := hl
      refine lv_tableIn (off := 95) (tgt := 96) hx hb dX9_told_1 (by decide +kernel) (by decide +kernel) (by decide +kernel) (by decide) ?_
      refine lv_aload_n hx hb dX9_told_96 rfl (lv_at hl 0 rfl) ?_
      refine va_get (D := D) (ci := 9) (v := .ref xq6) (C := RX9) (T := TX9) (N := 17) hx hb hts iX9 hown hK hP 0 rfl rfl 4 (by decide) (hts _ wd_89) (fun _ h9 => h9) rfl dX9_told_97 ?_
      refine va_get (D := D) (ci := 8) (v := .int 0) (C := RX8) (T := TX8) (N := 10) hx hb hts iX8 hown hK hP 1 rfl rfl 3 (by decide) (hts _ wd_215) (fun _ h9 => h9) rfl dX9_told_100 ?_
      exact hret 0 () _ _ _ _ dX9_told_103 rfl (by decide +kernel) (cutP (isC := []) hP rfl) (cutD (isC := []) hD rfl rfl) hS
    · have hl : lv_has ls 2 [(0, .ref xh), (1, .int 4)] := hl
      refine lv_tableIn (off := 103) (tgt := 104) hx hb dX9_told_1 (by decide +kernel) (by decide +kernel) (by decide +kernel) (by decide) ?_
      refine lv_aload_n hx hb dX9_told_104 rfl (lv_at hl 0 rfl) ?_
      refine va_get (D := D) (ci := 9) (v := .ref xq6) (C := RX9) (T := TX9) (N := 17) hx hb hts iX9 hown hK hP 0 rfl rfl 4 (by decide) (hts _ wd_89) (fun _ h9 => h9) rfl dX9_told_105 ?_
      refine va_get (D := D) (ci := 8) (v := .int 0) (C := RX8) (T := TX8) (N := 10) hx hb hts iX8 hown hK hP 1 rfl rfl 4 (by decide) (hts _ wd_216) (fun _ h9 => h9) rfl dX9_told_108 ?_
      exact hret 0 () _ _ _ _ dX9_told_111 rfl (by decide +kernel) (cutP (isC := []) hP rfl) (cutD (isC := []) hD rfl rfl) hS
    · have hl : lv_has ls 2 [(0, .ref xh), (1, .int 5)] := hl
      refine lv_tableIn (off := 111) (tgt := 112) hx hb dX9_told_1 (by decide +kernel) (by decide +kernel) (by decide +kernel) (by decide) ?_
      refine lv_aload_n hx hb dX9_told_112 rfl (lv_at hl 0 rfl) ?_
      refine va_get (D := D) (ci := 9) (v := .int 0) (C := RX9) (T := TX9) (N := 17) hx hb hts iX9 hown hK hP 0 rfl rfl 1 (by decide) (hts _ wd_76) (fun _ h9 => h9) rfl dX9_told_113 ?_
      exact hret 0 () _ _ _ _ dX9_told_116 rfl (by decide +kernel) (cutP (isC := []) hP rfl) (cutD (isC := []) hD rfl rfl) hS
    · have hl : lv_has ls 2 [(0, .ref xh), (1, .int 6)] := hl
      refine lv_tableIn (off := 116) (tgt := 117) hx hb dX9_told_1 (by decide +kernel) (by decide +kernel) (by decide +kernel) (by decide) ?_
      refine lv_aload_n hx hb dX9_told_117 rfl (lv_at hl 0 rfl) ?_
      refine va_get (D := D) (ci := 9) (v := .ref xq22) (C := RX9) (T := TX9) (N := 17) hx hb hts iX9 hown hK hP 0 rfl rfl 6 (by decide) (hts _ wd_96) (fun _ h9 => h9) rfl dX9_told_118 ?_
      refine cVi (wr := [(xh, .inr (9, [.ref xq1, .int 0, .int (-1), .ref xq2, .ref xq6, .ref xq14, .ref xq22, .ref xq26, .ref xq31, .ref xq35, .int 0, .ref xq36, .int 0, .ref xq41, .ref xq44, .ref xq50, .ref xq59])), (xq6, .inr (8, [.int 0, .int 1, .int 0, .int 0, .int 0, .ref xq9, .ref xq10, .ref xq11, .ref xq12, .ref xq13])), (xq36, .inr (0, [.int 0, .ref xq39, .ref xq40])), (xq26, .inr (2, [.ref xq29, .int 0, .int 0]))]) (rest := []) (k_minutes xq22 xu23 (cB2 z0 7)) okV_X7_minutes wd_217 hx hb hml hown hts hK hP hD hS hA hN hl.1 [2, 3] [0, 1, 4, 5] rfl rfl rfl rfl (by decide) rfl rfl rfl (Nat.le_of_ble_eq_true rfl) (Nat.le_of_ble_eq_true rfl) (Nat.le_of_ble_eq_true rfl) (Nat.le_of_ble_eq_true rfl) (Nat.le_of_ble_eq_true rfl) dX9_told_121 (fun r_3 u_2 H locs hw_u_2 hP hD hS => ?_)
      obtain rfl := hw_u_2
      have hP : va_P D classes [(xh, .inr (9, [.ref xq1, .int 0, .int (-1), .ref xq2, .ref xq6, .ref xq14, .ref xq22, .ref xq26, .ref xq31, .ref xq35, .int 0, .ref xq36, .int 0, .ref xq41, .ref xq44, .ref xq50, .ref xq59])), (xq6, .inr (8, [.int 0, .int 1, .int 0, .int 0, .int 0, .ref xq9, .ref xq10, .ref xq11, .ref xq12, .ref xq13])), (xq36, .inr (0, [.int 0, .ref xq39, .ref xq40])), (xq26, .inr (2, [.ref xq29, .int 0, .int 0])), (xq22, .inr (7, [.ref xu23])), (xu23, .inl (cI, 41, .inl (cB2 z0 7)))] H := hP
      have hD : va_D A [(xh, .inr (9, [.ref xq1, .int 0, .int (-1), .ref xq2, .ref xq6, .ref xq14, .ref xq22, .ref xq26, .ref xq31, .ref xq35, .int 0, .ref xq36, .int 0, .ref xq41, .ref xq44, .ref xq50, .ref xq59])), (xq6, .inr (8, [.int 0, .int 1, .int 0, .int 0, .int 0, .ref xq9, .ref xq10, .ref xq11, .ref xq12, .ref xq13])), (xq36, .inr (0, [.int 0, .ref xq39, .ref xq40])), (xq26, .inr (2, [.ref xq29, .int 0, .int 0])), (xq22, .inr (7, [.ref xu23])), (xu23, .inl (cI, 41, .inl (cB2 z0 7)))] := hD
      refine lv_topi (fun z_4 ez_4 => ?_)
      obtain rfl : z_4 = 0 := ez_4.trans (by decide +kernel)
      exact hret 0 () _ _ _ _ dX9_told_124 rfl (by decide +kernel) (cutP (isC := []) hP rfl) (cutD (isC := []) hD rfl rfl) hS
    · have hl : lv_has ls 2 [(0, .ref xh), (1, .int 7)] := hl
      refine lv_tableIn (off := 124) (tgt := 125) hx hb dX9_told_1 (by decide +kernel) (by decide +kernel) (by decide +kernel) (by decide) ?_
      refine lv_aload_n hx hb dX9_told_125 rfl (lv_at hl 0 rfl) ?_
      refine va_get (D := D) (ci := 9) (v := .ref xq22) (C := RX9) (T := TX9) (N := 17) hx hb hts iX9 hown hK hP 0 rfl rfl 6 (by decide) (hts _ wd_96) (fun _ h9 => h9) rfl dX9_told_126 ?_
      refine cVi (wr := [(xh, .inr (9, [.ref xq1, .int 0, .int (-1), .ref xq2, .ref xq6, .ref xq14, .ref xq22, .ref xq26, .ref xq31, .ref xq35, .int 0, .ref xq36, .int 0, .ref xq41, .ref xq44, .ref xq50, .ref xq59])), (xq6, .inr (8, [.int 0, .int 1, .int 0, .int 0, .int 0, .ref xq9, .ref xq10, .ref xq11, .ref xq12, .ref xq13])), (xq36, .inr (0, [.int 0, .ref xq39, .ref xq40])), (xq26, .inr (2, [.ref xq29, .int 0, .int 0]))]) (rest := []) (k_reconciledSet xq22 xu23 (cB2 z0 7)) okV_X7_reconciledSet wd_218 hx hb hml hown hts hK hP hD hS hA hN hl.1 [2, 3] [0, 1, 4, 5] rfl rfl rfl rfl (by decide) rfl rfl rfl (Nat.le_of_ble_eq_true rfl) (Nat.le_of_ble_eq_true rfl) (Nat.le_of_ble_eq_true rfl) (Nat.le_of_ble_eq_true rfl) (Nat.le_of_ble_eq_true rfl) dX9_told_129 (fun r_6 u_5 H locs hw_u_5 hP hD hS => ?_)
      obtain rfl := hw_u_5
      have hP : va_P D classes [(xh, .inr (9, [.ref xq1, .int 0, .int (-1), .ref xq2, .ref xq6, .ref xq14, .ref xq22, .ref xq26, .ref xq31, .ref xq35, .int 0, .ref xq36, .int 0, .ref xq41, .ref xq44, .ref xq50, .ref xq59])), (xq6, .inr (8, [.int 0, .int 1, .int 0, .int 0, .int 0, .ref xq9, .ref xq10, .ref xq11, .ref xq12, .ref xq13])), (xq36, .inr (0, [.int 0, .ref xq39, .ref xq40])), (xq26, .inr (2, [.ref xq29, .int 0, .int 0])), (xq22, .inr (7, [.ref xu23])), (xu23, .inl (cI, 41, .inl (cB2 z0 7)))] H := hP
      have hD : va_D A [(xh, .inr (9, [.ref xq1, .int 0, .int (-1), .ref xq2, .ref xq6, .ref xq14, .ref xq22, .ref xq26, .ref xq31, .ref xq35, .int 0, .ref xq36, .int 0, .ref xq41, .ref xq44, .ref xq50, .ref xq59])), (xq6, .inr (8, [.int 0, .int 1, .int 0, .int 0, .int 0, .ref xq9, .ref xq10, .ref xq11, .ref xq12, .ref xq13])), (xq36, .inr (0, [.int 0, .ref xq39, .ref xq40])), (xq26, .inr (2, [.ref xq29, .int 0, .int 0])), (xq22, .inr (7, [.ref xu23])), (xu23, .inl (cI, 41, .inl (cB2 z0 7)))] := hD
      refine lv_topi (fun z_7 ez_7 => ?_)
      obtain rfl : z_7 = 0 := ez_7.trans (by decide +kernel)
      exact hret 0 () _ _ _ _ dX9_told_132 rfl (by decide +kernel) (cutP (isC := []) hP rfl) (cutD (isC := []) hD rfl rfl) hS
    · have hl : lv_has ls 2 [(0, .ref xh), (1, .int 8)] := hl
      refine lv_tableIn (off := 132) (tgt := 133) hx hb dX9_told_1 (by decide +kernel) (by decide +kernel) (by decide +kernel) (by decide) ?_
      refine lv_aload_n hx hb dX9_told_133 rfl (lv_at hl 0 rfl) ?_
      refine va_get (D := D) (ci := 9) (v := .ref xq22) (C := RX9) (T := TX9) (N := 17) hx hb hts iX9 hown hK hP 0 rfl rfl 6 (by decide) (hts _ wd_96) (fun _ h9 => h9) rfl dX9_told_134 ?_
      refine lv_iconst (v := 1) hx hb dX9_told_137 (by decide) ?_
      refine cVi (wr := [(xh, .inr (9, [.ref xq1, .int 0, .int (-1), .ref xq2, .ref xq6, .ref xq14, .ref xq22, .ref xq26, .ref xq31, .ref xq35, .int 0, .ref xq36, .int 0, .ref xq41, .ref xq44, .ref xq50, .ref xq59])), (xq6, .inr (8, [.int 0, .int 1, .int 0, .int 0, .int 0, .ref xq9, .ref xq10, .ref xq11, .ref xq12, .ref xq13])), (xq36, .inr (0, [.int 0, .ref xq39, .ref xq40])), (xq26, .inr (2, [.ref xq29, .int 0, .int 0]))]) (rest := []) (k_bargesOfFate1 xq22 xu23) okV_X7_bargesOfFate wd_222 hx hb hml hown hts hK hP hD hS hA hN hl.1 [2, 3] [0, 1, 4, 5] rfl rfl rfl rfl (by decide) rfl rfl rfl (Nat.le_of_ble_eq_true rfl) (Nat.le_of_ble_eq_true rfl) (Nat.le_of_ble_eq_true rfl) (Nat.le_of_ble_eq_true rfl) (Nat.le_of_ble_eq_true rfl) dX9_told_138 (fun r_9 u_8 H locs hw_u_8 hP hD hS => ?_)
      obtain rfl := hw_u_8
      have hP : va_P D classes [(xh, .inr (9, [.ref xq1, .int 0, .int (-1), .ref xq2, .ref xq6, .ref xq14, .ref xq22, .ref xq26, .ref xq31, .ref xq35, .int 0, .ref xq36, .int 0, .ref xq41, .ref xq44, .ref xq50, .ref xq59])), (xq6, .inr (8, [.int 0, .int 1, .int 0, .int 0, .int 0, .ref xq9, .ref xq10, .ref xq11, .ref xq12, .ref xq13])), (xq36, .inr (0, [.int 0, .ref xq39, .ref xq40])), (xq26, .inr (2, [.ref xq29, .int 0, .int 0])), (xq22, .inr (7, [.ref xu23])), (xu23, .inl (cI, 41, .inl (cB2 z0 7)))] H := hP
      have hD : va_D A [(xh, .inr (9, [.ref xq1, .int 0, .int (-1), .ref xq2, .ref xq6, .ref xq14, .ref xq22, .ref xq26, .ref xq31, .ref xq35, .int 0, .ref xq36, .int 0, .ref xq41, .ref xq44, .ref xq50, .ref xq59])), (xq6, .inr (8, [.int 0, .int 1, .int 0, .int 0, .int 0, .ref xq9, .ref xq10, .ref xq11, .ref xq12, .ref xq13])), (xq36, .inr (0, [.int 0, .ref xq39, .ref xq40])), (xq26, .inr (2, [.ref xq29, .int 0, .int 0])), (xq22, .inr (7, [.ref xu23])), (xu23, .inl (cI, 41, .inl (cB2 z0 7)))] := hD
      exact hret 0 () _ _ _ _ dX9_told_141 rfl (by decide +kernel) (cutP (isC := []) hP rfl) (cutD (isC := []) hD rfl rfl) hS
    · have hl : lv_has ls 2 [(0, .ref xh), (1, .int 9)] := hl
      refine lv_tableIn (off := 141) (tgt := 142) hx hb dX9_told_1 (by decide +kernel) (by decide +kernel) (by decide +kernel) (by decide) ?_
      refine lv_aload_n hx hb dX9_told_142 rfl (lv_at hl 0 rfl) ?_
      refine va_get (D := D) (ci := 9) (v := .ref xq22) (C := RX9) (T := TX9) (N := 17) hx hb hts iX9 hown hK hP 0 rfl rfl 6 (by decide) (hts _ wd_96) (fun _ h9 => h9) rfl dX9_told_143 ?_
      refine lv_iconst (v := 2) hx hb dX9_told_146 (by decide) ?_
      refine cVi (wr := [(xh, .inr (9, [.ref xq1, .int 0, .int (-1), .ref xq2, .ref xq6, .ref xq14, .ref xq22, .ref xq26, .ref xq31, .ref xq35, .int 0, .ref xq36, .int 0, .ref xq41, .ref xq44, .ref xq50, .ref xq59])), (xq6, .inr (8, [.int 0, .int 1, .int 0, .int 0, .int 0, .ref xq9, .ref xq10, .ref xq11, .ref xq12, .ref xq13])), (xq36, .inr (0, [.int 0, .ref xq39, .ref xq40])), (xq26, .inr (2, [.ref xq29, .int 0, .int 0]))]) (rest := []) (k_bargesOfFate2 xq22 xu23) okV_X7_bargesOfFate wd_222 hx hb hml hown hts hK hP hD hS hA hN hl.1 [2, 3] [0, 1, 4, 5] rfl rfl rfl rfl (by decide) rfl rfl rfl (Nat.le_of_ble_eq_true rfl) (Nat.le_of_ble_eq_true rfl) (Nat.le_of_ble_eq_true rfl) (Nat.le_of_ble_eq_true rfl) (Nat.le_of_ble_eq_true rfl) dX9_told_147 (fun r_11 u_10 H locs hw_u_10 hP hD hS => ?_)
      obtain rfl := hw_u_10
      have hP : va_P D classes [(xh, .inr (9, [.ref xq1, .int 0, .int (-1), .ref xq2, .ref xq6, .ref xq14, .ref xq22, .ref xq26, .ref xq31, .ref xq35, .int 0, .ref xq36, .int 0, .ref xq41, .ref xq44, .ref xq50, .ref xq59])), (xq6, .inr (8, [.int 0, .int 1, .int 0, .int 0, .int 0, .ref xq9, .ref xq10, .ref xq11, .ref xq12, .ref xq13])), (xq36, .inr (0, [.int 0, .ref xq39, .ref xq40])), (xq26, .inr (2, [.ref xq29, .int 0, .int 0])), (xq22, .inr (7, [.ref xu23])), (xu23, .inl (cI, 41, .inl (cB2 z0 7)))] H := hP
      have hD : va_D A [(xh, .inr (9, [.ref xq1, .int 0, .int (-1), .ref xq2, .ref xq6, .ref xq14, .ref xq22, .ref xq26, .ref xq31, .ref xq35, .int 0, .ref xq36, .int 0, .ref xq41, .ref xq44, .ref xq50, .ref xq59])), (xq6, .inr (8, [.int 0, .int 1, .int 0, .int 0, .int 0, .ref xq9, .ref xq10, .ref xq11, .ref xq12, .ref xq13])), (xq36, .inr (0, [.int 0, .ref xq39, .ref xq40])), (xq26, .inr (2, [.ref xq29, .int 0, .int 0])), (xq22, .inr (7, [.ref xu23])), (xu23, .inl (cI, 41, .inl (cB2 z0 7)))] := hD
      exact hret 0 () _ _ _ _ dX9_told_150 rfl (by decide +kernel) (cutP (isC := []) hP rfl) (cutD (isC := []) hD rfl rfl) hS
    · have hl : lv_has ls 2 [(0, .ref xh), (1, .int 10)] := hl
      refine lv_tableIn (off := 150) (tgt := 151) hx hb dX9_told_1 (by decide +kernel) (by decide +kernel) (by decide +kernel) (by decide) ?_
      refine lv_aload_n hx hb dX9_told_151 rfl (lv_at hl 0 rfl) ?_
      refine va_get (D := D) (ci := 9) (v := .ref xq22) (C := RX9) (T := TX9) (N := 17) hx hb hts iX9 hown hK hP 0 rfl rfl 6 (by decide) (hts _ wd_96) (fun _ h9 => h9) rfl dX9_told_152 ?_
      refine lv_iconst (v := 3) hx hb dX9_told_155 (by decide) ?_
      refine cVi (wr := [(xh, .inr (9, [.ref xq1, .int 0, .int (-1), .ref xq2, .ref xq6, .ref xq14, .ref xq22, .ref xq26, .ref xq31, .ref xq35, .int 0, .ref xq36, .int 0, .ref xq41, .ref xq44, .ref xq50, .ref xq59])), (xq6, .inr (8, [.int 0, .int 1, .int 0, .int 0, .int 0, .ref xq9, .ref xq10, .ref xq11, .ref xq12, .ref xq13])), (xq36, .inr (0, [.int 0, .ref xq39, .ref xq40])), (xq26, .inr (2, [.ref xq29, .int 0, .int 0]))]) (rest := []) (k_bargesOfFate3 xq22 xu23) okV_X7_bargesOfFate wd_222 hx hb hml hown hts hK hP hD hS hA hN hl.1 [2, 3] [0, 1, 4, 5] rfl rfl rfl rfl (by decide) rfl rfl rfl (Nat.le_of_ble_eq_true rfl) (Nat.le_of_ble_eq_true rfl) (Nat.le_of_ble_eq_true rfl) (Nat.le_of_ble_eq_true rfl) (Nat.le_of_ble_eq_true rfl) dX9_told_156 (fun r_13 u_12 H locs hw_u_12 hP hD hS => ?_)
      obtain rfl := hw_u_12
      have hP : va_P D classes [(xh, .inr (9, [.ref xq1, .int 0, .int (-1), .ref xq2, .ref xq6, .ref xq14, .ref xq22, .ref xq26, .ref xq31, .ref xq35, .int 0, .ref xq36, .int 0, .ref xq41, .ref xq44, .ref xq50, .ref xq59])), (xq6, .inr (8, [.int 0, .int 1, .int 0, .int 0, .int 0, .ref xq9, .ref xq10, .ref xq11, .ref xq12, .ref xq13])), (xq36, .inr (0, [.int 0, .ref xq39, .ref xq40])), (xq26, .inr (2, [.ref xq29, .int 0, .int 0])), (xq22, .inr (7, [.ref xu23])), (xu23, .inl (cI, 41, .inl (cB2 z0 7)))] H := hP
      have hD : va_D A [(xh, .inr (9, [.ref xq1, .int 0, .int (-1), .ref xq2, .ref xq6, .ref xq14, .ref xq22, .ref xq26, .ref xq31, .ref xq35, .int 0, .ref xq36, .int 0, .ref xq41, .ref xq44, .ref xq50, .ref xq59])), (xq6, .inr (8, [.int 0, .int 1, .int 0, .int 0, .int 0, .ref xq9, .ref xq10, .ref xq11, .ref xq12, .ref xq13])), (xq36, .inr (0, [.int 0, .ref xq39, .ref xq40])), (xq26, .inr (2, [.ref xq29, .int 0, .int 0])), (xq22, .inr (7, [.ref xu23])), (xu23, .inl (cI, 41, .inl (cB2 z0 7)))] := hD
      exact hret 0 () _ _ _ _ dX9_told_159 rfl (by decide +kernel) (cutP (isC := []) hP rfl) (cutD (isC := []) hD rfl rfl) hS
    · have hl : lv_has ls 2 [(0, .ref xh), (1, .int 11)] := hl
      refine lv_tableIn (off := 159) (tgt := 160) hx hb dX9_told_1 (by decide +kernel) (by decide +kernel) (by decide +kernel) (by decide) ?_
      refine lv_aload_n hx hb dX9_told_160 rfl (lv_at hl 0 rfl) ?_
      refine va_get (D := D) (ci := 9) (v := .ref xq22) (C := RX9) (T := TX9) (N := 17) hx hb hts iX9 hown hK hP 0 rfl rfl 6 (by decide) (hts _ wd_96) (fun _ h9 => h9) rfl dX9_told_161 ?_
      refine cVi (wr := [(xh, .inr (9, [.ref xq1, .int 0, .int (-1), .ref xq2, .ref xq6, .ref xq14, .ref xq22, .ref xq26, .ref xq31, .ref xq35, .int 0, .ref xq36, .int 0, .ref xq41, .ref xq44, .ref xq50, .ref xq59])), (xq6, .inr (8, [.int 0, .int 1, .int 0, .int 0, .int 0, .ref xq9, .ref xq10, .ref xq11, .ref xq12, .ref xq13])), (xq36, .inr (0, [.int 0, .ref xq39, .ref xq40])), (xq26, .inr (2, [.ref xq29, .int 0, .int 0]))]) (rest := []) (k_grievanceOfAll xq22 xu23) okV_X7_grievanceOfAll wd_223 hx hb hml hown hts hK hP hD hS hA hN hl.1 [2, 3] [0, 1, 4, 5] rfl rfl rfl rfl (by decide) rfl rfl rfl (Nat.le_of_ble_eq_true rfl) (Nat.le_of_ble_eq_true rfl) (Nat.le_of_ble_eq_true rfl) (Nat.le_of_ble_eq_true rfl) (Nat.le_of_ble_eq_true rfl) dX9_told_164 (fun r_15 u_14 H locs hw_u_14 hP hD hS => ?_)
      obtain rfl := hw_u_14
      have hP : va_P D classes [(xh, .inr (9, [.ref xq1, .int 0, .int (-1), .ref xq2, .ref xq6, .ref xq14, .ref xq22, .ref xq26, .ref xq31, .ref xq35, .int 0, .ref xq36, .int 0, .ref xq41, .ref xq44, .ref xq50, .ref xq59])), (xq6, .inr (8, [.int 0, .int 1, .int 0, .int 0, .int 0, .ref xq9, .ref xq10, .ref xq11, .ref xq12, .ref xq13])), (xq36, .inr (0, [.int 0, .ref xq39, .ref xq40])), (xq26, .inr (2, [.ref xq29, .int 0, .int 0])), (xq22, .inr (7, [.ref xu23])), (xu23, .inl (cI, 41, .inl (cB2 z0 7)))] H := hP
      have hD : va_D A [(xh, .inr (9, [.ref xq1, .int 0, .int (-1), .ref xq2, .ref xq6, .ref xq14, .ref xq22, .ref xq26, .ref xq31, .ref xq35, .int 0, .ref xq36, .int 0, .ref xq41, .ref xq44, .ref xq50, .ref xq59])), (xq6, .inr (8, [.int 0, .int 1, .int 0, .int 0, .int 0, .ref xq9, .ref xq10, .ref xq11, .ref xq12, .ref xq13])), (xq36, .inr (0, [.int 0, .ref xq39, .ref xq40])), (xq26, .inr (2, [.ref xq29, .int 0, .int 0])), (xq22, .inr (7, [.ref xu23])), (xu23, .inl (cI, 41, .inl (cB2 z0 7)))] := hD
      exact hret 0 () _ _ _ _ dX9_told_167 rfl (by decide +kernel) (cutP (isC := []) hP rfl) (cutD (isC := []) hD rfl rfl) hS
    · have hl : lv_has ls 2 [(0, .ref xh), (1, .int 12)] := hl
      refine lv_tableIn (off := 167) (tgt := 168) hx hb dX9_told_1 (by decide +kernel) (by decide +kernel) (by decide +kernel) (by decide) ?_
      refine lv_aload_n hx hb dX9_told_168 rfl (lv_at hl 0 rfl) ?_
      refine va_get (D := D) (ci := 9) (v := .ref xq36) (C := RX9) (T := TX9) (N := 17) hx hb hts iX9 hown hK hP 0 rfl rfl 11 (by decide) (hts _ wd_113) (fun _ h9 => h9) rfl dX9_told_169 ?_
      refine va_get (D := D) (ci := 0) (v := .int 0) (C := RX0) (T := TX0) (N := 3) hx hb hts iX0 hown hK hP 4 rfl rfl 0 (by decide) (hts _ wd_227) (fun _ h9 => h9) rfl dX9_told_172 ?_
      exact hret 0 () _ _ _ _ dX9_told_175 rfl (by decide +kernel) (cutP (isC := []) hP rfl) (cutD (isC := []) hD rfl rfl) hS
    · have hl : lv_has ls 2 [(0, .ref xh), (1, .int 13)] := hl
      refine lv_tableIn (off := 175) (tgt := 176) hx hb dX9_told_1 (by decide +kernel) (by decide +kernel) (by decide +kernel) (by decide) ?_
      refine lv_aload_n hx hb dX9_told_176 rfl (lv_at hl 0 rfl) ?_
      refine va_get (D := D) (ci := 9) (v := .ref xq26) (C := RX9) (T := TX9) (N := 17) hx hb hts iX9 hown hK hP 0 rfl rfl 7 (by decide) (hts _ wd_102) (fun _ h9 => h9) rfl dX9_told_177 ?_
      refine va_get (D := D) (ci := 2) (v := .int 0) (C := RX2) (T := TX2) (N := 3) hx hb hts iX2 hown hK hP 5 rfl rfl 2 (by decide) (hts _ wd_228) (fun _ h9 => h9) rfl dX9_told_180 ?_
      exact hret 0 () _ _ _ _ dX9_told_183 rfl (by decide +kernel) (cutP (isC := []) hP rfl) (cutD (isC := []) hD rfl rfl) hS
def rm_k_x_bridge : Room := { frames := 1, cells := 0, slots := 0, locals := 21 }
set_option maxHeartbeats 4000000 in
set_option maxRecDepth 100000 in
theorem k_x_bridge {l : Launch} {D : va_G} {cI cZ : ClassId} {sz : Nat} (xh xq1 xq2 xq6 xq14 xq22 xq26 xq31 xq35 xq36 xq41 xq44 xq50 xq59 xq9 xq10 xq11 xq12 xq13 : Nat) (v1 v2 : Int32) : KI l yX9_bridge cX9_bridge 3 (some .int) rm_k_x_bridge D cI cZ [.ref xh, .int v1, .int v2] sz [(xh, .inr (9, [.ref xq1, .int 0, .int (-1), .ref xq2, .ref xq6, .ref xq14, .ref xq22, .ref xq26, .ref xq31, .ref xq35, .int 0, .ref xq36, .int 0, .ref xq41, .ref xq44, .ref xq50, .ref xq59])), (xq6, .inr (8, [.int 0, .int 1, .int 0, .int 0, .int 0, .ref xq9, .ref xq10, .ref xq11, .ref xq12, .ref xq13]))] (fun (r : Int32) (_ : Unit) => r = (-1000000001)) (fun (_ : Unit) => []) := by
  refine KI.go rfl (Nat.le_of_ble_eq_true rfl) ?_
  intro p e s m args below meth c ls A Q hx hb hml hts hown hin hP hK hD hS hA hN hl hret
  have hl : lv_has ls 3 [(0, .ref xh), (1, .int v1), (2, .int v2)] := hl
  refine lv_aload_n hx hb dX9_bridge_0 rfl (lv_at hl 0 rfl) ?_
  refine va_get (D := D) (ci := 9) (v := .ref xq6) (C := RX9) (T := TX9) (N := 17) hx hb hts iX9 hown hK hP 0 rfl rfl 4 (by decide) (hts _ wd_89) (fun _ h9 => h9) rfl dX9_bridge_1 ?_
  refine lv_iload_n hx hb dX9_bridge_4 rfl (lv_at hl 1 rfl) ?_
  refine cVi (wr := [(xh, .inr (9, [.ref xq1, .int 0, .int (-1), .ref xq2, .ref xq6, .ref xq14, .ref xq22, .ref xq26, .ref xq31, .ref xq35, .int 0, .ref xq36, .int 0, .ref xq41, .ref xq44, .ref xq50, .ref xq59]))]) (rest := []) (k_hasBridge xq6 0 1 0 0 0 xq9 xq10 xq11 xq12 xq13 v1) okV_X8_hasBridge wd_229 hx hb hml hown hts hK hP hD hS hA hN hl.1 [1] [0] rfl rfl rfl rfl (by decide) rfl rfl rfl (Nat.le_of_ble_eq_true rfl) (Nat.le_of_ble_eq_true rfl) (Nat.le_of_ble_eq_true rfl) (Nat.le_of_ble_eq_true rfl) (Nat.le_of_ble_eq_true rfl) dX9_bridge_5 (fun r_2 u_1 H locs hw_u_1 hP hD hS => ?_)
  obtain rfl := hw_u_1
  have hP : va_P D classes [(xh, .inr (9, [.ref xq1, .int 0, .int (-1), .ref xq2, .ref xq6, .ref xq14, .ref xq22, .ref xq26, .ref xq31, .ref xq35, .int 0, .ref xq36, .int 0, .ref xq41, .ref xq44, .ref xq50, .ref xq59])), (xq6, .inr (8, [.int 0, .int 1, .int 0, .int 0, .int 0, .ref xq9, .ref xq10, .ref xq11, .ref xq12, .ref xq13]))] H := hP
  have hD : va_D A [(xh, .inr (9, [.ref xq1, .int 0, .int (-1), .ref xq2, .ref xq6, .ref xq14, .ref xq22, .ref xq26, .ref xq31, .ref xq35, .int 0, .ref xq36, .int 0, .ref xq41, .ref xq44, .ref xq50, .ref xq59])), (xq6, .inr (8, [.int 0, .int 1, .int 0, .int 0, .int 0, .ref xq9, .ref xq10, .ref xq11, .ref xq12, .ref xq13]))] := hD
  refine lv_topi (fun z_3 ez_3 => ?_)
  obtain rfl : z_3 = 0 := ez_3.trans (hasF0 _)
  refine lv_if_ne (tgt := 14) hx hb dX9_bridge_8 (by decide) (fun c_4 => absurd (by decide +kernel) c_4) (fun c_4 => ?_)
  refine lv_ldc (v := (-1000000001)) hx hb hown (hts _ wd_233) dX9_bridge_11 ?_
  exact hret (-1000000001) () _ _ _ _ dX9_bridge_13 rfl rfl (cutP (isC := []) hP rfl) (cutD (isC := []) hD rfl rfl) hS
def rm_k_x_couple : Room := { frames := 1, cells := 0, slots := 0, locals := 21 }
set_option maxHeartbeats 4000000 in
set_option maxRecDepth 100000 in
theorem k_x_couple {l : Launch} {D : va_G} {cI cZ : ClassId} {sz : Nat} (xh xq1 xq2 xq6 xq14 xq22 xq26 xq31 xq35 xq36 xq41 xq44 xq50 xq59 xq9 xq10 xq11 xq12 xq13 : Nat) (v1 v2 : Int32) : KI l yX9_couple cX9_couple 3 (some .int) rm_k_x_couple D cI cZ [.ref xh, .int v1, .int v2] sz [(xh, .inr (9, [.ref xq1, .int 0, .int (-1), .ref xq2, .ref xq6, .ref xq14, .ref xq22, .ref xq26, .ref xq31, .ref xq35, .int 0, .ref xq36, .int 0, .ref xq41, .ref xq44, .ref xq50, .ref xq59])), (xq6, .inr (8, [.int 0, .int 1, .int 0, .int 0, .int 0, .ref xq9, .ref xq10, .ref xq11, .ref xq12, .ref xq13]))] (fun (r : Int32) (_ : Unit) => r = (-1000000001)) (fun (_ : Unit) => []) := by
  refine KI.go rfl (Nat.le_of_ble_eq_true rfl) ?_
  intro p e s m args below meth c ls A Q hx hb hml hts hown hin hP hK hD hS hA hN hl hret
  have hl : lv_has ls 3 [(0, .ref xh), (1, .int v1), (2, .int v2)] := hl
  refine lv_aload_n hx hb dX9_couple_0 rfl (lv_at hl 0 rfl) ?_
  refine va_get (D := D) (ci := 9) (v := .ref xq6) (C := RX9) (T := TX9) (N := 17) hx hb hts iX9 hown hK hP 0 rfl rfl 4 (by decide) (hts _ wd_89) (fun _ h9 => h9) rfl dX9_couple_1 ?_
  refine lv_iload_n hx hb dX9_couple_4 rfl (lv_at hl 1 rfl) ?_
  refine cVi (wr := [(xh, .inr (9, [.ref xq1, .int 0, .int (-1), .ref xq2, .ref xq6, .ref xq14, .ref xq22, .ref xq26, .ref xq31, .ref xq35, .int 0, .ref xq36, .int 0, .ref xq41, .ref xq44, .ref xq50, .ref xq59]))]) (rest := []) (k_hasCouple xq6 0 1 0 0 0 xq9 xq10 xq11 xq12 xq13 v1) okV_X8_hasCouple wd_234 hx hb hml hown hts hK hP hD hS hA hN hl.1 [1] [0] rfl rfl rfl rfl (by decide) rfl rfl rfl (Nat.le_of_ble_eq_true rfl) (Nat.le_of_ble_eq_true rfl) (Nat.le_of_ble_eq_true rfl) (Nat.le_of_ble_eq_true rfl) (Nat.le_of_ble_eq_true rfl) dX9_couple_5 (fun r_2 u_1 H locs hw_u_1 hP hD hS => ?_)
  obtain rfl := hw_u_1
  have hP : va_P D classes [(xh, .inr (9, [.ref xq1, .int 0, .int (-1), .ref xq2, .ref xq6, .ref xq14, .ref xq22, .ref xq26, .ref xq31, .ref xq35, .int 0, .ref xq36, .int 0, .ref xq41, .ref xq44, .ref xq50, .ref xq59])), (xq6, .inr (8, [.int 0, .int 1, .int 0, .int 0, .int 0, .ref xq9, .ref xq10, .ref xq11, .ref xq12, .ref xq13]))] H := hP
  have hD : va_D A [(xh, .inr (9, [.ref xq1, .int 0, .int (-1), .ref xq2, .ref xq6, .ref xq14, .ref xq22, .ref xq26, .ref xq31, .ref xq35, .int 0, .ref xq36, .int 0, .ref xq41, .ref xq44, .ref xq50, .ref xq59])), (xq6, .inr (8, [.int 0, .int 1, .int 0, .int 0, .int 0, .ref xq9, .ref xq10, .ref xq11, .ref xq12, .ref xq13]))] := hD
  refine lv_topi (fun z_3 ez_3 => ?_)
  obtain rfl : z_3 = 0 := ez_3.trans (hasF0 _)
  refine lv_if_ne (tgt := 14) hx hb dX9_couple_8 (by decide) (fun c_4 => absurd (by decide +kernel) c_4) (fun c_4 => ?_)
  refine lv_ldc (v := (-1000000001)) hx hb hown (hts _ wd_233) dX9_couple_11 ?_
  exact hret (-1000000001) () _ _ _ _ dX9_couple_13 rfl rfl (cutP (isC := []) hP rfl) (cutD (isC := []) hD rfl rfl) hS
def rm_k_x_force : Room := { frames := 1, cells := 0, slots := 0, locals := 21 }
set_option maxHeartbeats 4000000 in
set_option maxRecDepth 100000 in
theorem k_x_force {l : Launch} {D : va_G} {cI cZ : ClassId} {sz : Nat} (xh xq1 xq2 xq6 xq14 xq22 xq26 xq31 xq35 xq36 xq41 xq44 xq50 xq59 xq9 xq10 xq11 xq12 xq13 : Nat) (v1 v2 : Int32) : KI l yX9_force cX9_force 3 (some .int) rm_k_x_force D cI cZ [.ref xh, .int v1, .int v2] sz [(xh, .inr (9, [.ref xq1, .int 0, .int (-1), .ref xq2, .ref xq6, .ref xq14, .ref xq22, .ref xq26, .ref xq31, .ref xq35, .int 0, .ref xq36, .int 0, .ref xq41, .ref xq44, .ref xq50, .ref xq59])), (xq6, .inr (8, [.int 0, .int 1, .int 0, .int 0, .int 0, .ref xq9, .ref xq10, .ref xq11, .ref xq12, .ref xq13]))] (fun (r : Int32) (_ : Unit) => r = (-1000000001)) (fun (_ : Unit) => []) := by
  refine KI.go rfl (Nat.le_of_ble_eq_true rfl) ?_
  intro p e s m args below meth c ls A Q hx hb hml hts hown hin hP hK hD hS hA hN hl hret
  have hl : lv_has ls 3 [(0, .ref xh), (1, .int v1), (2, .int v2)] := hl
  refine lv_aload_n hx hb dX9_force_0 rfl (lv_at hl 0 rfl) ?_
  refine va_get (D := D) (ci := 9) (v := .ref xq6) (C := RX9) (T := TX9) (N := 17) hx hb hts iX9 hown hK hP 0 rfl rfl 4 (by decide) (hts _ wd_89) (fun _ h9 => h9) rfl dX9_force_1 ?_
  refine lv_iload_n hx hb dX9_force_4 rfl (lv_at hl 1 rfl) ?_
  refine cVi (wr := [(xh, .inr (9, [.ref xq1, .int 0, .int (-1), .ref xq2, .ref xq6, .ref xq14, .ref xq22, .ref xq26, .ref xq31, .ref xq35, .int 0, .ref xq36, .int 0, .ref xq41, .ref xq44, .ref xq50, .ref xq59]))]) (rest := []) (k_hasCouple xq6 0 1 0 0 0 xq9 xq10 xq11 xq12 xq13 v1) okV_X8_hasCouple wd_234 hx hb hml hown hts hK hP hD hS hA hN hl.1 [1] [0] rfl rfl rfl rfl (by decide) rfl rfl rfl (Nat.le_of_ble_eq_true rfl) (Nat.le_of_ble_eq_true rfl) (Nat.le_of_ble_eq_true rfl) (Nat.le_of_ble_eq_true rfl) (Nat.le_of_ble_eq_true rfl) dX9_force_5 (fun r_2 u_1 H locs hw_u_1 hP hD hS => ?_)
  obtain rfl := hw_u_1
  have hP : va_P D classes [(xh, .inr (9, [.ref xq1, .int 0, .int (-1), .ref xq2, .ref xq6, .ref xq14, .ref xq22, .ref xq26, .ref xq31, .ref xq35, .int 0, .ref xq36, .int 0, .ref xq41, .ref xq44, .ref xq50, .ref xq59])), (xq6, .inr (8, [.int 0, .int 1, .int 0, .int 0, .int 0, .ref xq9, .ref xq10, .ref xq11, .ref xq12, .ref xq13]))] H := hP
  have hD : va_D A [(xh, .inr (9, [.ref xq1, .int 0, .int (-1), .ref xq2, .ref xq6, .ref xq14, .ref xq22, .ref xq26, .ref xq31, .ref xq35, .int 0, .ref xq36, .int 0, .ref xq41, .ref xq44, .ref xq50, .ref xq59])), (xq6, .inr (8, [.int 0, .int 1, .int 0, .int 0, .int 0, .ref xq9, .ref xq10, .ref xq11, .ref xq12, .ref xq13]))] := hD
  refine lv_topi (fun z_3 ez_3 => ?_)
  obtain rfl : z_3 = 0 := ez_3.trans (hasF0 _)
  refine lv_if_eq (tgt := 22) hx hb dX9_force_8 (by decide) (fun c_4 => ?_) (fun c_4 => absurd (by decide +kernel) c_4)
  refine lv_ldc (v := (-1000000001)) hx hb hown (hts _ wd_233) dX9_force_22 ?_
  exact hret (-1000000001) () _ _ _ _ dX9_force_24 rfl rfl (cutP (isC := []) hP rfl) (cutD (isC := []) hD rfl rfl) hS
def rm_k_x_barge : Room := { frames := 1, cells := 0, slots := 0, locals := 21 }
set_option maxHeartbeats 4000000 in
set_option maxRecDepth 100000 in
theorem k_x_barge {l : Launch} {D : va_G} {cI cZ : ClassId} {sz : Nat} (xh xq1 xq2 xq6 xq14 xq22 xq26 xq31 xq35 xq36 xq41 xq44 xq50 xq59 xq9 xq10 xq11 xq12 xq13 : Nat) (v1 v2 : Int32) : KI l yX9_barge cX9_barge 3 (some .int) rm_k_x_barge D cI cZ [.ref xh, .int v1, .int v2] sz [(xh, .inr (9, [.ref xq1, .int 0, .int (-1), .ref xq2, .ref xq6, .ref xq14, .ref xq22, .ref xq26, .ref xq31, .ref xq35, .int 0, .ref xq36, .int 0, .ref xq41, .ref xq44, .ref xq50, .ref xq59])), (xq6, .inr (8, [.int 0, .int 1, .int 0, .int 0, .int 0, .ref xq9, .ref xq10, .ref xq11, .ref xq12, .ref xq13]))] (fun (r : Int32) (_ : Unit) => r = (-1000000001)) (fun (_ : Unit) => []) := by
  refine KI.go rfl (Nat.le_of_ble_eq_true rfl) ?_
  intro p e s m args below meth c ls A Q hx hb hml hts hown hin hP hK hD hS hA hN hl hret
  have hl : lv_has ls 3 [(0, .ref xh), (1, .int v1), (2, .int v2)] := hl
  refine lv_aload_n hx hb dX9_barge_0 rfl (lv_at hl 0 rfl) ?_
  refine va_get (D := D) (ci := 9) (v := .ref xq6) (C := RX9) (T := TX9) (N := 17) hx hb hts iX9 hown hK hP 0 rfl rfl 4 (by decide) (hts _ wd_89) (fun _ h9 => h9) rfl dX9_barge_1 ?_
  refine lv_iload_n hx hb dX9_barge_4 rfl (lv_at hl 1 rfl) ?_
  refine cVi (wr := [(xh, .inr (9, [.ref xq1, .int 0, .int (-1), .ref xq2, .ref xq6, .ref xq14, .ref xq22, .ref xq26, .ref xq31, .ref xq35, .int 0, .ref xq36, .int 0, .ref xq41, .ref xq44, .ref xq50, .ref xq59]))]) (rest := []) (k_hasBarge xq6 0 1 0 0 0 xq9 xq10 xq11 xq12 xq13 v1) okV_X8_hasBarge wd_238 hx hb hml hown hts hK hP hD hS hA hN hl.1 [1] [0] rfl rfl rfl rfl (by decide) rfl rfl rfl (Nat.le_of_ble_eq_true rfl) (Nat.le_of_ble_eq_true rfl) (Nat.le_of_ble_eq_true rfl) (Nat.le_of_ble_eq_true rfl) (Nat.le_of_ble_eq_true rfl) dX9_barge_5 (fun r_2 u_1 H locs hw_u_1 hP hD hS => ?_)
  obtain rfl := hw_u_1
  have hP : va_P D classes [(xh, .inr (9, [.ref xq1, .int 0, .int (-1), .ref xq2, .ref xq6, .ref xq14, .ref xq22, .ref xq26, .ref xq31, .ref xq35, .int 0, .ref xq36, .int 0, .ref xq41, .ref xq44, .ref xq50, .ref xq59])), (xq6, .inr (8, [.int 0, .int 1, .int 0, .int 0, .int 0, .ref xq9, .ref xq10, .ref xq11, .ref xq12, .ref xq13]))] H := hP
  have hD : va_D A [(xh, .inr (9, [.ref xq1, .int 0, .int (-1), .ref xq2, .ref xq6, .ref xq14, .ref xq22, .ref xq26, .ref xq31, .ref xq35, .int 0, .ref xq36, .int 0, .ref xq41, .ref xq44, .ref xq50, .ref xq59])), (xq6, .inr (8, [.int 0, .int 1, .int 0, .int 0, .int 0, .ref xq9, .ref xq10, .ref xq11, .ref xq12, .ref xq13]))] := hD
  refine lv_topi (fun z_3 ez_3 => ?_)
  obtain rfl : z_3 = 0 := ez_3.trans (hasF0 _)
  refine lv_if_ne (tgt := 14) hx hb dX9_barge_8 (by decide) (fun c_4 => absurd (by decide +kernel) c_4) (fun c_4 => ?_)
  refine lv_ldc (v := (-1000000001)) hx hb hown (hts _ wd_233) dX9_barge_11 ?_
  exact hret (-1000000001) () _ _ _ _ dX9_barge_13 rfl rfl (cutP (isC := []) hP rfl) (cutD (isC := []) hD rfl rfl) hS
def rm_k_x_send : Room := { frames := 1, cells := 0, slots := 0, locals := 21 }
set_option maxHeartbeats 4000000 in
set_option maxRecDepth 100000 in
theorem k_x_send {l : Launch} {D : va_G} {cI cZ : ClassId} {sz : Nat} (xh xq1 xq2 xq6 xq14 xq22 xq26 xq31 xq35 xq36 xq41 xq44 xq50 xq59 xq9 xq10 xq11 xq12 xq13 : Nat) (v1 v2 v3 : Int32) : KI l yX9_send cX9_send 6 (some .int) rm_k_x_send D cI cZ [.ref xh, .int v1, .int v2, .int v3] sz [(xh, .inr (9, [.ref xq1, .int 0, .int (-1), .ref xq2, .ref xq6, .ref xq14, .ref xq22, .ref xq26, .ref xq31, .ref xq35, .int 0, .ref xq36, .int 0, .ref xq41, .ref xq44, .ref xq50, .ref xq59])), (xq6, .inr (8, [.int 0, .int 1, .int 0, .int 0, .int 0, .ref xq9, .ref xq10, .ref xq11, .ref xq12, .ref xq13]))] (fun (r : Int32) (_ : Unit) => r = (-1000000001)) (fun (_ : Unit) => []) := by
  refine KI.go rfl (Nat.le_of_ble_eq_true rfl) ?_
  intro p e s m args below meth c ls A Q hx hb hml hts hown hin hP hK hD hS hA hN hl hret
  have hl : lv_has ls 6 [(0, .ref xh), (1, .int v1), (2, .int v2), (3, .int v3)] := hl
  refine lv_aload_n hx hb dX9_send_0 rfl (lv_at hl 0 rfl) ?_
  refine va_get (D := D) (ci := 9) (v := .ref xq6) (C := RX9) (T := TX9) (N := 17) hx hb hts iX9 hown hK hP 0 rfl rfl 4 (by decide) (hts _ wd_89) (fun _ h9 => h9) rfl dX9_send_1 ?_
  refine lv_iload_n hx hb dX9_send_4 rfl (lv_at hl 1 rfl) ?_
  refine cVi (wr := [(xh, .inr (9, [.ref xq1, .int 0, .int (-1), .ref xq2, .ref xq6, .ref xq14, .ref xq22, .ref xq26, .ref xq31, .ref xq35, .int 0, .ref xq36, .int 0, .ref xq41, .ref xq44, .ref xq50, .ref xq59]))]) (rest := []) (k_hasCouple xq6 0 1 0 0 0 xq9 xq10 xq11 xq12 xq13 v1) okV_X8_hasCouple wd_234 hx hb hml hown hts hK hP hD hS hA hN hl.1 [1] [0] rfl rfl rfl rfl (by decide) rfl rfl rfl (Nat.le_of_ble_eq_true rfl) (Nat.le_of_ble_eq_true rfl) (Nat.le_of_ble_eq_true rfl) (Nat.le_of_ble_eq_true rfl) (Nat.le_of_ble_eq_true rfl) dX9_send_5 (fun r_2 u_1 H locs hw_u_1 hP hD hS => ?_)
  obtain rfl := hw_u_1
  have hP : va_P D classes [(xh, .inr (9, [.ref xq1, .int 0, .int (-1), .ref xq2, .ref xq6, .ref xq14, .ref xq22, .ref xq26, .ref xq31, .ref xq35, .int 0, .ref xq36, .int 0, .ref xq41, .ref xq44, .ref xq50, .ref xq59])), (xq6, .inr (8, [.int 0, .int 1, .int 0, .int 0, .int 0, .ref xq9, .ref xq10, .ref xq11, .ref xq12, .ref xq13]))] H := hP
  have hD : va_D A [(xh, .inr (9, [.ref xq1, .int 0, .int (-1), .ref xq2, .ref xq6, .ref xq14, .ref xq22, .ref xq26, .ref xq31, .ref xq35, .int 0, .ref xq36, .int 0, .ref xq41, .ref xq44, .ref xq50, .ref xq59])), (xq6, .inr (8, [.int 0, .int 1, .int 0, .int 0, .int 0, .ref xq9, .ref xq10, .ref xq11, .ref xq12, .ref xq13]))] := hD
  refine lv_topi (fun z_3 ez_3 => ?_)
  obtain rfl : z_3 = 0 := ez_3.trans (hasF0 _)
  refine lv_if_eq (tgt := 33) hx hb dX9_send_8 (by decide) (fun c_4 => ?_) (fun c_4 => absurd (by decide +kernel) c_4)
  refine lv_ldc (v := (-1000000001)) hx hb hown (hts _ wd_233) dX9_send_33 ?_
  exact hret (-1000000001) () _ _ _ _ dX9_send_35 rfl rfl (cutP (isC := []) hP rfl) (cutD (isC := []) hD rfl rfl) hS
def rm_k_x_home : Room := { frames := 1, cells := 0, slots := 0, locals := 21 }
set_option maxHeartbeats 4000000 in
set_option maxRecDepth 100000 in
theorem k_x_home {l : Launch} {D : va_G} {cI cZ : ClassId} {sz : Nat} (xh xq1 xq2 xq6 xq14 xq22 xq26 xq31 xq35 xq36 xq41 xq44 xq50 xq59 xq9 xq10 xq11 xq12 xq13 : Nat) (v1 : Int32) : KI l yX9_home cX9_home 3 (some .int) rm_k_x_home D cI cZ [.ref xh, .int v1] sz [(xh, .inr (9, [.ref xq1, .int 0, .int (-1), .ref xq2, .ref xq6, .ref xq14, .ref xq22, .ref xq26, .ref xq31, .ref xq35, .int 0, .ref xq36, .int 0, .ref xq41, .ref xq44, .ref xq50, .ref xq59])), (xq6, .inr (8, [.int 0, .int 1, .int 0, .int 0, .int 0, .ref xq9, .ref xq10, .ref xq11, .ref xq12, .ref xq13]))] (fun (r : Int32) (_ : Unit) => r = (-1000000001)) (fun (_ : Unit) => []) := by
  refine KI.go rfl (Nat.le_of_ble_eq_true rfl) ?_
  intro p e s m args below meth c ls A Q hx hb hml hts hown hin hP hK hD hS hA hN hl hret
  have hl : lv_has ls 3 [(0, .ref xh), (1, .int v1)] := hl
  refine lv_aload_n hx hb dX9_home_0 rfl (lv_at hl 0 rfl) ?_
  refine va_get (D := D) (ci := 9) (v := .ref xq6) (C := RX9) (T := TX9) (N := 17) hx hb hts iX9 hown hK hP 0 rfl rfl 4 (by decide) (hts _ wd_89) (fun _ h9 => h9) rfl dX9_home_1 ?_
  refine lv_iload_n hx hb dX9_home_4 rfl (lv_at hl 1 rfl) ?_
  refine cVi (wr := [(xh, .inr (9, [.ref xq1, .int 0, .int (-1), .ref xq2, .ref xq6, .ref xq14, .ref xq22, .ref xq26, .ref xq31, .ref xq35, .int 0, .ref xq36, .int 0, .ref xq41, .ref xq44, .ref xq50, .ref xq59]))]) (rest := []) (k_hasCouple xq6 0 1 0 0 0 xq9 xq10 xq11 xq12 xq13 v1) okV_X8_hasCouple wd_234 hx hb hml hown hts hK hP hD hS hA hN hl.1 [1] [0] rfl rfl rfl rfl (by decide) rfl rfl rfl (Nat.le_of_ble_eq_true rfl) (Nat.le_of_ble_eq_true rfl) (Nat.le_of_ble_eq_true rfl) (Nat.le_of_ble_eq_true rfl) (Nat.le_of_ble_eq_true rfl) dX9_home_5 (fun r_2 u_1 H locs hw_u_1 hP hD hS => ?_)
  obtain rfl := hw_u_1
  have hP : va_P D classes [(xh, .inr (9, [.ref xq1, .int 0, .int (-1), .ref xq2, .ref xq6, .ref xq14, .ref xq22, .ref xq26, .ref xq31, .ref xq35, .int 0, .ref xq36, .int 0, .ref xq41, .ref xq44, .ref xq50, .ref xq59])), (xq6, .inr (8, [.int 0, .int 1, .int 0, .int 0, .int 0, .ref xq9, .ref xq10, .ref xq11, .ref xq12, .ref xq13]))] H := hP
  have hD : va_D A [(xh, .inr (9, [.ref xq1, .int 0, .int (-1), .ref xq2, .ref xq6, .ref xq14, .ref xq22, .ref xq26, .ref xq31, .ref xq35, .int 0, .ref xq36, .int 0, .ref xq41, .ref xq44, .ref xq50, .ref xq59])), (xq6, .inr (8, [.int 0, .int 1, .int 0, .int 0, .int 0, .ref xq9, .ref xq10, .ref xq11, .ref xq12, .ref xq13]))] := hD
  refine lv_topi (fun z_3 ez_3 => ?_)
  obtain rfl : z_3 = 0 := ez_3.trans (hasF0 _)
  refine lv_if_ne (tgt := 14) hx hb dX9_home_8 (by decide) (fun c_4 => absurd (by decide +kernel) c_4) (fun c_4 => ?_)
  refine lv_ldc (v := (-1000000001)) hx hb hown (hts _ wd_233) dX9_home_11 ?_
  exact hret (-1000000001) () _ _ _ _ dX9_home_13 rfl rfl (cutP (isC := []) hP rfl) (cutD (isC := []) hD rfl rfl) hS
def rm_k_x_pass : Room := { frames := 1, cells := 0, slots := 0, locals := 21 }
set_option maxHeartbeats 4000000 in
set_option maxRecDepth 100000 in
theorem k_x_pass {l : Launch} {D : va_G} {cI cZ : ClassId} {sz : Nat} (xh xq1 xq2 xq6 xq14 xq22 xq26 xq31 xq35 xq36 xq41 xq44 xq50 xq59 xq9 xq10 xq11 xq12 xq13 : Nat) (v1 : Int32) : KI l yX9_pass cX9_pass 4 (some .int) rm_k_x_pass D cI cZ [.ref xh, .int v1] sz [(xh, .inr (9, [.ref xq1, .int 0, .int (-1), .ref xq2, .ref xq6, .ref xq14, .ref xq22, .ref xq26, .ref xq31, .ref xq35, .int 0, .ref xq36, .int 0, .ref xq41, .ref xq44, .ref xq50, .ref xq59])), (xq6, .inr (8, [.int 0, .int 1, .int 0, .int 0, .int 0, .ref xq9, .ref xq10, .ref xq11, .ref xq12, .ref xq13]))] (fun (r : Int32) (_ : Unit) => r = (-1000000001)) (fun (_ : Unit) => []) := by
  refine KI.go rfl (Nat.le_of_ble_eq_true rfl) ?_
  intro p e s m args below meth c ls A Q hx hb hml hts hown hin hP hK hD hS hA hN hl hret
  have hl : lv_has ls 4 [(0, .ref xh), (1, .int v1)] := hl
  refine lv_aload_n hx hb dX9_pass_0 rfl (lv_at hl 0 rfl) ?_
  refine va_get (D := D) (ci := 9) (v := .ref xq6) (C := RX9) (T := TX9) (N := 17) hx hb hts iX9 hown hK hP 0 rfl rfl 4 (by decide) (hts _ wd_89) (fun _ h9 => h9) rfl dX9_pass_1 ?_
  refine lv_iload_n hx hb dX9_pass_4 rfl (lv_at hl 1 rfl) ?_
  refine cVi (wr := [(xh, .inr (9, [.ref xq1, .int 0, .int (-1), .ref xq2, .ref xq6, .ref xq14, .ref xq22, .ref xq26, .ref xq31, .ref xq35, .int 0, .ref xq36, .int 0, .ref xq41, .ref xq44, .ref xq50, .ref xq59]))]) (rest := []) (k_hasBarge xq6 0 1 0 0 0 xq9 xq10 xq11 xq12 xq13 v1) okV_X8_hasBarge wd_238 hx hb hml hown hts hK hP hD hS hA hN hl.1 [1] [0] rfl rfl rfl rfl (by decide) rfl rfl rfl (Nat.le_of_ble_eq_true rfl) (Nat.le_of_ble_eq_true rfl) (Nat.le_of_ble_eq_true rfl) (Nat.le_of_ble_eq_true rfl) (Nat.le_of_ble_eq_true rfl) dX9_pass_5 (fun r_2 u_1 H locs hw_u_1 hP hD hS => ?_)
  obtain rfl := hw_u_1
  have hP : va_P D classes [(xh, .inr (9, [.ref xq1, .int 0, .int (-1), .ref xq2, .ref xq6, .ref xq14, .ref xq22, .ref xq26, .ref xq31, .ref xq35, .int 0, .ref xq36, .int 0, .ref xq41, .ref xq44, .ref xq50, .ref xq59])), (xq6, .inr (8, [.int 0, .int 1, .int 0, .int 0, .int 0, .ref xq9, .ref xq10, .ref xq11, .ref xq12, .ref xq13]))] H := hP
  have hD : va_D A [(xh, .inr (9, [.ref xq1, .int 0, .int (-1), .ref xq2, .ref xq6, .ref xq14, .ref xq22, .ref xq26, .ref xq31, .ref xq35, .int 0, .ref xq36, .int 0, .ref xq41, .ref xq44, .ref xq50, .ref xq59])), (xq6, .inr (8, [.int 0, .int 1, .int 0, .int 0, .int 0, .ref xq9, .ref xq10, .ref xq11, .ref xq12, .ref xq13]))] := hD
  refine lv_topi (fun z_3 ez_3 => ?_)
  obtain rfl : z_3 = 0 := ez_3.trans (hasF0 _)
  refine lv_if_ne (tgt := 14) hx hb dX9_pass_8 (by decide) (fun c_4 => absurd (by decide +kernel) c_4) (fun c_4 => ?_)
  refine lv_ldc (v := (-1000000001)) hx hb hown (hts _ wd_233) dX9_pass_11 ?_
  exact hret (-1000000001) () _ _ _ _ dX9_pass_13 rfl rfl (cutP (isC := []) hP rfl) (cutD (isC := []) hD rfl rfl) hS
def rm_k_x_grieve : Room := { frames := 1, cells := 0, slots := 0, locals := 21 }
set_option maxHeartbeats 4000000 in
set_option maxRecDepth 100000 in
theorem k_x_grieve {l : Launch} {D : va_G} {cI cZ : ClassId} {sz : Nat} (xh xq1 xq2 xq6 xq14 xq22 xq26 xq31 xq35 xq36 xq41 xq44 xq50 xq59 xq9 xq10 xq11 xq12 xq13 : Nat) (v1 v2 : Int32) : KI l yX9_grieve cX9_grieve 3 (some .int) rm_k_x_grieve D cI cZ [.ref xh, .int v1, .int v2] sz [(xh, .inr (9, [.ref xq1, .int 0, .int (-1), .ref xq2, .ref xq6, .ref xq14, .ref xq22, .ref xq26, .ref xq31, .ref xq35, .int 0, .ref xq36, .int 0, .ref xq41, .ref xq44, .ref xq50, .ref xq59])), (xq6, .inr (8, [.int 0, .int 1, .int 0, .int 0, .int 0, .ref xq9, .ref xq10, .ref xq11, .ref xq12, .ref xq13]))] (fun (r : Int32) (_ : Unit) => r = (-1000000001)) (fun (_ : Unit) => []) := by
  refine KI.go rfl (Nat.le_of_ble_eq_true rfl) ?_
  intro p e s m args below meth c ls A Q hx hb hml hts hown hin hP hK hD hS hA hN hl hret
  have hl : lv_has ls 3 [(0, .ref xh), (1, .int v1), (2, .int v2)] := hl
  refine lv_aload_n hx hb dX9_grieve_0 rfl (lv_at hl 0 rfl) ?_
  refine va_get (D := D) (ci := 9) (v := .ref xq6) (C := RX9) (T := TX9) (N := 17) hx hb hts iX9 hown hK hP 0 rfl rfl 4 (by decide) (hts _ wd_89) (fun _ h9 => h9) rfl dX9_grieve_1 ?_
  refine lv_iload_n hx hb dX9_grieve_4 rfl (lv_at hl 1 rfl) ?_
  refine cVi (wr := [(xh, .inr (9, [.ref xq1, .int 0, .int (-1), .ref xq2, .ref xq6, .ref xq14, .ref xq22, .ref xq26, .ref xq31, .ref xq35, .int 0, .ref xq36, .int 0, .ref xq41, .ref xq44, .ref xq50, .ref xq59]))]) (rest := []) (k_hasCouple xq6 0 1 0 0 0 xq9 xq10 xq11 xq12 xq13 v1) okV_X8_hasCouple wd_234 hx hb hml hown hts hK hP hD hS hA hN hl.1 [1] [0] rfl rfl rfl rfl (by decide) rfl rfl rfl (Nat.le_of_ble_eq_true rfl) (Nat.le_of_ble_eq_true rfl) (Nat.le_of_ble_eq_true rfl) (Nat.le_of_ble_eq_true rfl) (Nat.le_of_ble_eq_true rfl) dX9_grieve_5 (fun r_2 u_1 H locs hw_u_1 hP hD hS => ?_)
  obtain rfl := hw_u_1
  have hP : va_P D classes [(xh, .inr (9, [.ref xq1, .int 0, .int (-1), .ref xq2, .ref xq6, .ref xq14, .ref xq22, .ref xq26, .ref xq31, .ref xq35, .int 0, .ref xq36, .int 0, .ref xq41, .ref xq44, .ref xq50, .ref xq59])), (xq6, .inr (8, [.int 0, .int 1, .int 0, .int 0, .int 0, .ref xq9, .ref xq10, .ref xq11, .ref xq12, .ref xq13]))] H := hP
  have hD : va_D A [(xh, .inr (9, [.ref xq1, .int 0, .int (-1), .ref xq2, .ref xq6, .ref xq14, .ref xq22, .ref xq26, .ref xq31, .ref xq35, .int 0, .ref xq36, .int 0, .ref xq41, .ref xq44, .ref xq50, .ref xq59])), (xq6, .inr (8, [.int 0, .int 1, .int 0, .int 0, .int 0, .ref xq9, .ref xq10, .ref xq11, .ref xq12, .ref xq13]))] := hD
  refine lv_topi (fun z_3 ez_3 => ?_)
  obtain rfl : z_3 = 0 := ez_3.trans (hasF0 _)
  refine lv_if_ne (tgt := 14) hx hb dX9_grieve_8 (by decide) (fun c_4 => absurd (by decide +kernel) c_4) (fun c_4 => ?_)
  refine lv_ldc (v := (-1000000001)) hx hb hown (hts _ wd_233) dX9_grieve_11 ?_
  exact hret (-1000000001) () _ _ _ _ dX9_grieve_13 rfl rfl (cutP (isC := []) hP rfl) (cutD (isC := []) hD rfl rfl) hS
def rm_k_x_could : Room := { frames := 1, cells := 0, slots := 0, locals := 21 }
set_option maxHeartbeats 4000000 in
set_option maxRecDepth 100000 in
theorem k_x_could {l : Launch} {D : va_G} {cI cZ : ClassId} {sz : Nat} (xh xq1 xq2 xq6 xq14 xq22 xq26 xq31 xq35 xq36 xq41 xq44 xq50 xq59 xq9 xq10 xq11 xq12 xq13 : Nat) (v1 v2 v3 v4 : Int32) : KI l yX9_could cX9_could 5 (some .int) rm_k_x_could D cI cZ [.ref xh, .int v1, .int v2, .int v3, .int v4] sz [(xh, .inr (9, [.ref xq1, .int 0, .int (-1), .ref xq2, .ref xq6, .ref xq14, .ref xq22, .ref xq26, .ref xq31, .ref xq35, .int 0, .ref xq36, .int 0, .ref xq41, .ref xq44, .ref xq50, .ref xq59])), (xq6, .inr (8, [.int 0, .int 1, .int 0, .int 0, .int 0, .ref xq9, .ref xq10, .ref xq11, .ref xq12, .ref xq13]))] (fun (r : Int32) (_ : Unit) => r = (-1000000001)) (fun (_ : Unit) => []) := by
  refine KI.go rfl (Nat.le_of_ble_eq_true rfl) ?_
  intro p e s m args below meth c ls A Q hx hb hml hts hown hin hP hK hD hS hA hN hl hret
  have hl : lv_has ls 5 [(0, .ref xh), (1, .int v1), (2, .int v2), (3, .int v3), (4, .int v4)] := hl
  refine lv_aload_n hx hb dX9_could_0 rfl (lv_at hl 0 rfl) ?_
  refine va_get (D := D) (ci := 9) (v := .ref xq6) (C := RX9) (T := TX9) (N := 17) hx hb hts iX9 hown hK hP 0 rfl rfl 4 (by decide) (hts _ wd_89) (fun _ h9 => h9) rfl dX9_could_1 ?_
  refine lv_iload_n hx hb dX9_could_4 rfl (lv_at hl 1 rfl) ?_
  refine cVi (wr := [(xh, .inr (9, [.ref xq1, .int 0, .int (-1), .ref xq2, .ref xq6, .ref xq14, .ref xq22, .ref xq26, .ref xq31, .ref xq35, .int 0, .ref xq36, .int 0, .ref xq41, .ref xq44, .ref xq50, .ref xq59]))]) (rest := []) (k_hasCouple xq6 0 1 0 0 0 xq9 xq10 xq11 xq12 xq13 v1) okV_X8_hasCouple wd_234 hx hb hml hown hts hK hP hD hS hA hN hl.1 [1] [0] rfl rfl rfl rfl (by decide) rfl rfl rfl (Nat.le_of_ble_eq_true rfl) (Nat.le_of_ble_eq_true rfl) (Nat.le_of_ble_eq_true rfl) (Nat.le_of_ble_eq_true rfl) (Nat.le_of_ble_eq_true rfl) dX9_could_5 (fun r_2 u_1 H locs hw_u_1 hP hD hS => ?_)
  obtain rfl := hw_u_1
  have hP : va_P D classes [(xh, .inr (9, [.ref xq1, .int 0, .int (-1), .ref xq2, .ref xq6, .ref xq14, .ref xq22, .ref xq26, .ref xq31, .ref xq35, .int 0, .ref xq36, .int 0, .ref xq41, .ref xq44, .ref xq50, .ref xq59])), (xq6, .inr (8, [.int 0, .int 1, .int 0, .int 0, .int 0, .ref xq9, .ref xq10, .ref xq11, .ref xq12, .ref xq13]))] H := hP
  have hD : va_D A [(xh, .inr (9, [.ref xq1, .int 0, .int (-1), .ref xq2, .ref xq6, .ref xq14, .ref xq22, .ref xq26, .ref xq31, .ref xq35, .int 0, .ref xq36, .int 0, .ref xq41, .ref xq44, .ref xq50, .ref xq59])), (xq6, .inr (8, [.int 0, .int 1, .int 0, .int 0, .int 0, .ref xq9, .ref xq10, .ref xq11, .ref xq12, .ref xq13]))] := hD
  refine lv_topi (fun z_3 ez_3 => ?_)
  obtain rfl : z_3 = 0 := ez_3.trans (hasF0 _)
  refine lv_if_eq (tgt := 33) hx hb dX9_could_8 (by decide) (fun c_4 => ?_) (fun c_4 => absurd (by decide +kernel) c_4)
  refine lv_ldc (v := (-1000000001)) hx hb hown (hts _ wd_233) dX9_could_33 ?_
  exact hret (-1000000001) () _ _ _ _ dX9_could_35 rfl rfl (cutP (isC := []) hP rfl) (cutD (isC := []) hD rfl rfl) hS
def rm_k_x_bestTheme : Room := { frames := 1, cells := 0, slots := 0, locals := 21 }
set_option maxHeartbeats 4000000 in
set_option maxRecDepth 100000 in
theorem k_x_bestTheme {l : Launch} {D : va_G} {cI cZ : ClassId} {sz : Nat} (xh xq1 xq2 xq6 xq14 xq22 xq26 xq31 xq35 xq36 xq41 xq44 xq50 xq59 xq9 xq10 xq11 xq12 xq13 : Nat) (v1 v2 : Int32) : KI l yX9_bestTheme cX9_bestTheme 3 (some .int) rm_k_x_bestTheme D cI cZ [.ref xh, .int v1, .int v2] sz [(xh, .inr (9, [.ref xq1, .int 0, .int (-1), .ref xq2, .ref xq6, .ref xq14, .ref xq22, .ref xq26, .ref xq31, .ref xq35, .int 0, .ref xq36, .int 0, .ref xq41, .ref xq44, .ref xq50, .ref xq59])), (xq6, .inr (8, [.int 0, .int 1, .int 0, .int 0, .int 0, .ref xq9, .ref xq10, .ref xq11, .ref xq12, .ref xq13]))] (fun (r : Int32) (_ : Unit) => r = (-1000000001)) (fun (_ : Unit) => []) := by
  refine KI.go rfl (Nat.le_of_ble_eq_true rfl) ?_
  intro p e s m args below meth c ls A Q hx hb hml hts hown hin hP hK hD hS hA hN hl hret
  have hl : lv_has ls 3 [(0, .ref xh), (1, .int v1), (2, .int v2)] := hl
  refine lv_aload_n hx hb dX9_bestTheme_0 rfl (lv_at hl 0 rfl) ?_
  refine va_get (D := D) (ci := 9) (v := .ref xq6) (C := RX9) (T := TX9) (N := 17) hx hb hts iX9 hown hK hP 0 rfl rfl 4 (by decide) (hts _ wd_89) (fun _ h9 => h9) rfl dX9_bestTheme_1 ?_
  refine lv_iload_n hx hb dX9_bestTheme_4 rfl (lv_at hl 1 rfl) ?_
  refine cVi (wr := [(xh, .inr (9, [.ref xq1, .int 0, .int (-1), .ref xq2, .ref xq6, .ref xq14, .ref xq22, .ref xq26, .ref xq31, .ref xq35, .int 0, .ref xq36, .int 0, .ref xq41, .ref xq44, .ref xq50, .ref xq59]))]) (rest := []) (k_hasCouple xq6 0 1 0 0 0 xq9 xq10 xq11 xq12 xq13 v1) okV_X8_hasCouple wd_234 hx hb hml hown hts hK hP hD hS hA hN hl.1 [1] [0] rfl rfl rfl rfl (by decide) rfl rfl rfl (Nat.le_of_ble_eq_true rfl) (Nat.le_of_ble_eq_true rfl) (Nat.le_of_ble_eq_true rfl) (Nat.le_of_ble_eq_true rfl) (Nat.le_of_ble_eq_true rfl) dX9_bestTheme_5 (fun r_2 u_1 H locs hw_u_1 hP hD hS => ?_)
  obtain rfl := hw_u_1
  have hP : va_P D classes [(xh, .inr (9, [.ref xq1, .int 0, .int (-1), .ref xq2, .ref xq6, .ref xq14, .ref xq22, .ref xq26, .ref xq31, .ref xq35, .int 0, .ref xq36, .int 0, .ref xq41, .ref xq44, .ref xq50, .ref xq59])), (xq6, .inr (8, [.int 0, .int 1, .int 0, .int 0, .int 0, .ref xq9, .ref xq10, .ref xq11, .ref xq12, .ref xq13]))] H := hP
  have hD : va_D A [(xh, .inr (9, [.ref xq1, .int 0, .int (-1), .ref xq2, .ref xq6, .ref xq14, .ref xq22, .ref xq26, .ref xq31, .ref xq35, .int 0, .ref xq36, .int 0, .ref xq41, .ref xq44, .ref xq50, .ref xq59])), (xq6, .inr (8, [.int 0, .int 1, .int 0, .int 0, .int 0, .ref xq9, .ref xq10, .ref xq11, .ref xq12, .ref xq13]))] := hD
  refine lv_topi (fun z_3 ez_3 => ?_)
  obtain rfl : z_3 = 0 := ez_3.trans (hasF0 _)
  refine lv_if_eq (tgt := 22) hx hb dX9_bestTheme_8 (by decide) (fun c_4 => ?_) (fun c_4 => absurd (by decide +kernel) c_4)
  refine lv_ldc (v := (-1000000001)) hx hb hown (hts _ wd_233) dX9_bestTheme_22 ?_
  exact hret (-1000000001) () _ _ _ _ dX9_bestTheme_24 rfl rfl (cutP (isC := []) hP rfl) (cutD (isC := []) hD rfl rfl) hS
def rm_k_x_who : Room := { frames := 1, cells := 0, slots := 0, locals := 21 }
set_option maxHeartbeats 4000000 in
set_option maxRecDepth 100000 in
theorem k_x_who {l : Launch} {D : va_G} {cI cZ : ClassId} {sz : Nat} (xh xq1 xq2 xq6 xq14 xq22 xq26 xq31 xq35 xq36 xq41 xq44 xq50 xq59 xq9 xq10 xq11 xq12 xq13 : Nat) (v1 v2 : Int32) : KI l yX9_who cX9_who 5 (some .int) rm_k_x_who D cI cZ [.ref xh, .int v1, .int v2] sz [(xh, .inr (9, [.ref xq1, .int 0, .int (-1), .ref xq2, .ref xq6, .ref xq14, .ref xq22, .ref xq26, .ref xq31, .ref xq35, .int 0, .ref xq36, .int 0, .ref xq41, .ref xq44, .ref xq50, .ref xq59])), (xq6, .inr (8, [.int 0, .int 1, .int 0, .int 0, .int 0, .ref xq9, .ref xq10, .ref xq11, .ref xq12, .ref xq13]))] (fun (r : Int32) (_ : Unit) => r = (-1000000001)) (fun (_ : Unit) => []) := by
  refine KI.go rfl (Nat.le_of_ble_eq_true rfl) ?_
  intro p e s m args below meth c ls A Q hx hb hml hts hown hin hP hK hD hS hA hN hl hret
  have hl : lv_has ls 5 [(0, .ref xh), (1, .int v1), (2, .int v2)] := hl
  refine lv_aload_n hx hb dX9_who_0 rfl (lv_at hl 0 rfl) ?_
  refine va_get (D := D) (ci := 9) (v := .ref xq6) (C := RX9) (T := TX9) (N := 17) hx hb hts iX9 hown hK hP 0 rfl rfl 4 (by decide) (hts _ wd_89) (fun _ h9 => h9) rfl dX9_who_1 ?_
  refine lv_iload_n hx hb dX9_who_4 rfl (lv_at hl 1 rfl) ?_
  refine cVi (wr := [(xh, .inr (9, [.ref xq1, .int 0, .int (-1), .ref xq2, .ref xq6, .ref xq14, .ref xq22, .ref xq26, .ref xq31, .ref xq35, .int 0, .ref xq36, .int 0, .ref xq41, .ref xq44, .ref xq50, .ref xq59]))]) (rest := []) (k_hasBridge xq6 0 1 0 0 0 xq9 xq10 xq11 xq12 xq13 v1) okV_X8_hasBridge wd_229 hx hb hml hown hts hK hP hD hS hA hN hl.1 [1] [0] rfl rfl rfl rfl (by decide) rfl rfl rfl (Nat.le_of_ble_eq_true rfl) (Nat.le_of_ble_eq_true rfl) (Nat.le_of_ble_eq_true rfl) (Nat.le_of_ble_eq_true rfl) (Nat.le_of_ble_eq_true rfl) dX9_who_5 (fun r_2 u_1 H locs hw_u_1 hP hD hS => ?_)
  obtain rfl := hw_u_1
  have hP : va_P D classes [(xh, .inr (9, [.ref xq1, .int 0, .int (-1), .ref xq2, .ref xq6, .ref xq14, .ref xq22, .ref xq26, .ref xq31, .ref xq35, .int 0, .ref xq36, .int 0, .ref xq41, .ref xq44, .ref xq50, .ref xq59])), (xq6, .inr (8, [.int 0, .int 1, .int 0, .int 0, .int 0, .ref xq9, .ref xq10, .ref xq11, .ref xq12, .ref xq13]))] H := hP
  have hD : va_D A [(xh, .inr (9, [.ref xq1, .int 0, .int (-1), .ref xq2, .ref xq6, .ref xq14, .ref xq22, .ref xq26, .ref xq31, .ref xq35, .int 0, .ref xq36, .int 0, .ref xq41, .ref xq44, .ref xq50, .ref xq59])), (xq6, .inr (8, [.int 0, .int 1, .int 0, .int 0, .int 0, .ref xq9, .ref xq10, .ref xq11, .ref xq12, .ref xq13]))] := hD
  refine lv_topi (fun z_3 ez_3 => ?_)
  obtain rfl : z_3 = 0 := ez_3.trans (hasF0 _)
  refine lv_if_eq (tgt := 25) hx hb dX9_who_8 (by decide) (fun c_4 => ?_) (fun c_4 => absurd (by decide +kernel) c_4)
  refine lv_ldc (v := (-1000000001)) hx hb hown (hts _ wd_233) dX9_who_25 ?_
  exact hret (-1000000001) () _ _ _ _ dX9_who_27 rfl rfl (cutP (isC := []) hP rfl) (cutD (isC := []) hD rfl rfl) hS
def rm_k_x_toldHer : Room := { frames := 1, cells := 0, slots := 0, locals := 21 }
set_option maxHeartbeats 4000000 in
set_option maxRecDepth 100000 in
theorem k_x_toldHer {l : Launch} {D : va_G} {cI cZ : ClassId} {sz : Nat} (xh xq1 xq2 xq6 xq14 xq22 xq26 xq31 xq35 xq36 xq41 xq44 xq50 xq59 xq9 xq10 xq11 xq12 xq13 : Nat) (v1 v2 v3 : Int32) : KI l yX9_toldHer cX9_toldHer 8 (some .int) rm_k_x_toldHer D cI cZ [.ref xh, .int v1, .int v2, .int v3] sz [(xh, .inr (9, [.ref xq1, .int 0, .int (-1), .ref xq2, .ref xq6, .ref xq14, .ref xq22, .ref xq26, .ref xq31, .ref xq35, .int 0, .ref xq36, .int 0, .ref xq41, .ref xq44, .ref xq50, .ref xq59])), (xq6, .inr (8, [.int 0, .int 1, .int 0, .int 0, .int 0, .ref xq9, .ref xq10, .ref xq11, .ref xq12, .ref xq13]))] (fun (r : Int32) (_ : Unit) => r = (-1000000001)) (fun (_ : Unit) => []) := by
  refine KI.go rfl (Nat.le_of_ble_eq_true rfl) ?_
  intro p e s m args below meth c ls A Q hx hb hml hts hown hin hP hK hD hS hA hN hl hret
  have hl : lv_has ls 8 [(0, .ref xh), (1, .int v1), (2, .int v2), (3, .int v3)] := hl
  refine lv_aload_n hx hb dX9_toldHer_0 rfl (lv_at hl 0 rfl) ?_
  refine va_get (D := D) (ci := 9) (v := .ref xq6) (C := RX9) (T := TX9) (N := 17) hx hb hts iX9 hown hK hP 0 rfl rfl 4 (by decide) (hts _ wd_89) (fun _ h9 => h9) rfl dX9_toldHer_1 ?_
  refine lv_iload_n hx hb dX9_toldHer_4 rfl (lv_at hl 1 rfl) ?_
  refine cVi (wr := [(xh, .inr (9, [.ref xq1, .int 0, .int (-1), .ref xq2, .ref xq6, .ref xq14, .ref xq22, .ref xq26, .ref xq31, .ref xq35, .int 0, .ref xq36, .int 0, .ref xq41, .ref xq44, .ref xq50, .ref xq59]))]) (rest := []) (k_hasBridge xq6 0 1 0 0 0 xq9 xq10 xq11 xq12 xq13 v1) okV_X8_hasBridge wd_229 hx hb hml hown hts hK hP hD hS hA hN hl.1 [1] [0] rfl rfl rfl rfl (by decide) rfl rfl rfl (Nat.le_of_ble_eq_true rfl) (Nat.le_of_ble_eq_true rfl) (Nat.le_of_ble_eq_true rfl) (Nat.le_of_ble_eq_true rfl) (Nat.le_of_ble_eq_true rfl) dX9_toldHer_5 (fun r_2 u_1 H locs hw_u_1 hP hD hS => ?_)
  obtain rfl := hw_u_1
  have hP : va_P D classes [(xh, .inr (9, [.ref xq1, .int 0, .int (-1), .ref xq2, .ref xq6, .ref xq14, .ref xq22, .ref xq26, .ref xq31, .ref xq35, .int 0, .ref xq36, .int 0, .ref xq41, .ref xq44, .ref xq50, .ref xq59])), (xq6, .inr (8, [.int 0, .int 1, .int 0, .int 0, .int 0, .ref xq9, .ref xq10, .ref xq11, .ref xq12, .ref xq13]))] H := hP
  have hD : va_D A [(xh, .inr (9, [.ref xq1, .int 0, .int (-1), .ref xq2, .ref xq6, .ref xq14, .ref xq22, .ref xq26, .ref xq31, .ref xq35, .int 0, .ref xq36, .int 0, .ref xq41, .ref xq44, .ref xq50, .ref xq59])), (xq6, .inr (8, [.int 0, .int 1, .int 0, .int 0, .int 0, .ref xq9, .ref xq10, .ref xq11, .ref xq12, .ref xq13]))] := hD
  refine lv_topi (fun z_3 ez_3 => ?_)
  obtain rfl : z_3 = 0 := ez_3.trans (hasF0 _)
  refine lv_if_ne (tgt := 14) hx hb dX9_toldHer_8 (by decide) (fun c_4 => absurd (by decide +kernel) c_4) (fun c_4 => ?_)
  refine lv_ldc (v := (-1000000001)) hx hb hown (hts _ wd_233) dX9_toldHer_11 ?_
  exact hret (-1000000001) () _ _ _ _ dX9_toldHer_13 rfl rfl (cutP (isC := []) hP rfl) (cutD (isC := []) hD rfl rfl) hS
def rm_k_x_lasts : Room := { frames := 1, cells := 0, slots := 0, locals := 21 }
set_option maxHeartbeats 4000000 in
set_option maxRecDepth 100000 in
theorem k_x_lasts {l : Launch} {D : va_G} {cI cZ : ClassId} {sz : Nat} (xh xq1 xq2 xq6 xq14 xq22 xq26 xq31 xq35 xq36 xq41 xq44 xq50 xq59 xq9 xq10 xq11 xq12 xq13 : Nat) (v1 v2 : Int32) : KI l yX9_lasts cX9_lasts 3 (some .int) rm_k_x_lasts D cI cZ [.ref xh, .int v1, .int v2] sz [(xh, .inr (9, [.ref xq1, .int 0, .int (-1), .ref xq2, .ref xq6, .ref xq14, .ref xq22, .ref xq26, .ref xq31, .ref xq35, .int 0, .ref xq36, .int 0, .ref xq41, .ref xq44, .ref xq50, .ref xq59])), (xq6, .inr (8, [.int 0, .int 1, .int 0, .int 0, .int 0, .ref xq9, .ref xq10, .ref xq11, .ref xq12, .ref xq13]))] (fun (r : Int32) (_ : Unit) => r = (-1000000001)) (fun (_ : Unit) => []) := by
  refine KI.go rfl (Nat.le_of_ble_eq_true rfl) ?_
  intro p e s m args below meth c ls A Q hx hb hml hts hown hin hP hK hD hS hA hN hl hret
  have hl : lv_has ls 3 [(0, .ref xh), (1, .int v1), (2, .int v2)] := hl
  refine lv_aload_n hx hb dX9_lasts_0 rfl (lv_at hl 0 rfl) ?_
  refine va_get (D := D) (ci := 9) (v := .ref xq6) (C := RX9) (T := TX9) (N := 17) hx hb hts iX9 hown hK hP 0 rfl rfl 4 (by decide) (hts _ wd_89) (fun _ h9 => h9) rfl dX9_lasts_1 ?_
  refine lv_iload_n hx hb dX9_lasts_4 rfl (lv_at hl 1 rfl) ?_
  refine cVi (wr := [(xh, .inr (9, [.ref xq1, .int 0, .int (-1), .ref xq2, .ref xq6, .ref xq14, .ref xq22, .ref xq26, .ref xq31, .ref xq35, .int 0, .ref xq36, .int 0, .ref xq41, .ref xq44, .ref xq50, .ref xq59]))]) (rest := []) (k_hasCouple xq6 0 1 0 0 0 xq9 xq10 xq11 xq12 xq13 v1) okV_X8_hasCouple wd_234 hx hb hml hown hts hK hP hD hS hA hN hl.1 [1] [0] rfl rfl rfl rfl (by decide) rfl rfl rfl (Nat.le_of_ble_eq_true rfl) (Nat.le_of_ble_eq_true rfl) (Nat.le_of_ble_eq_true rfl) (Nat.le_of_ble_eq_true rfl) (Nat.le_of_ble_eq_true rfl) dX9_lasts_5 (fun r_2 u_1 H locs hw_u_1 hP hD hS => ?_)
  obtain rfl := hw_u_1
  have hP : va_P D classes [(xh, .inr (9, [.ref xq1, .int 0, .int (-1), .ref xq2, .ref xq6, .ref xq14, .ref xq22, .ref xq26, .ref xq31, .ref xq35, .int 0, .ref xq36, .int 0, .ref xq41, .ref xq44, .ref xq50, .ref xq59])), (xq6, .inr (8, [.int 0, .int 1, .int 0, .int 0, .int 0, .ref xq9, .ref xq10, .ref xq11, .ref xq12, .ref xq13]))] H := hP
  have hD : va_D A [(xh, .inr (9, [.ref xq1, .int 0, .int (-1), .ref xq2, .ref xq6, .ref xq14, .ref xq22, .ref xq26, .ref xq31, .ref xq35, .int 0, .ref xq36, .int 0, .ref xq41, .ref xq44, .ref xq50, .ref xq59])), (xq6, .inr (8, [.int 0, .int 1, .int 0, .int 0, .int 0, .ref xq9, .ref xq10, .ref xq11, .ref xq12, .ref xq13]))] := hD
  refine lv_topi (fun z_3 ez_3 => ?_)
  obtain rfl : z_3 = 0 := ez_3.trans (hasF0 _)
  refine lv_if_eq (tgt := 22) hx hb dX9_lasts_8 (by decide) (fun c_4 => ?_) (fun c_4 => absurd (by decide +kernel) c_4)
  refine lv_ldc (v := (-1000000001)) hx hb hown (hts _ wd_233) dX9_lasts_22 ?_
  exact hret (-1000000001) () _ _ _ _ dX9_lasts_24 rfl rfl (cutP (isC := []) hP rfl) (cutD (isC := []) hD rfl rfl) hS
def rm_k_x_hire : Room := { frames := 1, cells := 0, slots := 0, locals := 21 }
set_option maxHeartbeats 4000000 in
set_option maxRecDepth 100000 in
theorem k_x_hire {l : Launch} {D : va_G} {cI cZ : ClassId} {sz : Nat} (xh xq1 xq2 xq6 xq14 xq22 xq26 xq31 xq35 xq36 xq41 xq44 xq50 xq59 xq9 xq10 xq11 xq12 xq13 : Nat) (v1 v2 : Int32) : KI l yX9_hire cX9_hire 8 (some .int) rm_k_x_hire D cI cZ [.ref xh, .int v1, .int v2] sz [(xh, .inr (9, [.ref xq1, .int 0, .int (-1), .ref xq2, .ref xq6, .ref xq14, .ref xq22, .ref xq26, .ref xq31, .ref xq35, .int 0, .ref xq36, .int 0, .ref xq41, .ref xq44, .ref xq50, .ref xq59])), (xq6, .inr (8, [.int 0, .int 1, .int 0, .int 0, .int 0, .ref xq9, .ref xq10, .ref xq11, .ref xq12, .ref xq13]))] (fun (r : Int32) (_ : Unit) => r = (-1000000001)) (fun (_ : Unit) => []) := by
  refine KI.go rfl (Nat.le_of_ble_eq_true rfl) ?_
  intro p e s m args below meth c ls A Q hx hb hml hts hown hin hP hK hD hS hA hN hl hret
  have hl : lv_has ls 8 [(0, .ref xh), (1, .int v1), (2, .int v2)] := hl
  refine lv_aload_n hx hb dX9_hire_0 rfl (lv_at hl 0 rfl) ?_
  refine va_get (D := D) (ci := 9) (v := .ref xq6) (C := RX9) (T := TX9) (N := 17) hx hb hts iX9 hown hK hP 0 rfl rfl 4 (by decide) (hts _ wd_89) (fun _ h9 => h9) rfl dX9_hire_1 ?_
  refine lv_iload_n hx hb dX9_hire_4 rfl (lv_at hl 1 rfl) ?_
  refine cVi (wr := [(xh, .inr (9, [.ref xq1, .int 0, .int (-1), .ref xq2, .ref xq6, .ref xq14, .ref xq22, .ref xq26, .ref xq31, .ref xq35, .int 0, .ref xq36, .int 0, .ref xq41, .ref xq44, .ref xq50, .ref xq59]))]) (rest := []) (k_hasBridge xq6 0 1 0 0 0 xq9 xq10 xq11 xq12 xq13 v1) okV_X8_hasBridge wd_229 hx hb hml hown hts hK hP hD hS hA hN hl.1 [1] [0] rfl rfl rfl rfl (by decide) rfl rfl rfl (Nat.le_of_ble_eq_true rfl) (Nat.le_of_ble_eq_true rfl) (Nat.le_of_ble_eq_true rfl) (Nat.le_of_ble_eq_true rfl) (Nat.le_of_ble_eq_true rfl) dX9_hire_5 (fun r_2 u_1 H locs hw_u_1 hP hD hS => ?_)
  obtain rfl := hw_u_1
  have hP : va_P D classes [(xh, .inr (9, [.ref xq1, .int 0, .int (-1), .ref xq2, .ref xq6, .ref xq14, .ref xq22, .ref xq26, .ref xq31, .ref xq35, .int 0, .ref xq36, .int 0, .ref xq41, .ref xq44, .ref xq50, .ref xq59])), (xq6, .inr (8, [.int 0, .int 1, .int 0, .int 0, .int 0, .ref xq9, .ref xq10, .ref xq11, .ref xq12, .ref xq13]))] H := hP
  have hD : va_D A [(xh, .inr (9, [.ref xq1, .int 0, .int (-1), .ref xq2, .ref xq6, .ref xq14, .ref xq22, .ref xq26, .ref xq31, .ref xq35, .int 0, .ref xq36, .int 0, .ref xq41, .ref xq44, .ref xq50, .ref xq59])), (xq6, .inr (8, [.int 0, .int 1, .int 0, .int 0, .int 0, .ref xq9, .ref xq10, .ref xq11, .ref xq12, .ref xq13]))] := hD
  refine lv_topi (fun z_3 ez_3 => ?_)
  obtain rfl : z_3 = 0 := ez_3.trans (hasF0 _)
  refine lv_if_ne (tgt := 14) hx hb dX9_hire_8 (by decide) (fun c_4 => absurd (by decide +kernel) c_4) (fun c_4 => ?_)
  refine lv_ldc (v := (-1000000001)) hx hb hown (hts _ wd_233) dX9_hire_11 ?_
  exact hret (-1000000001) () _ _ _ _ dX9_hire_13 rfl rfl (cutP (isC := []) hP rfl) (cutD (isC := []) hD rfl rfl) hS
def rm_k_x_midstream : Room := { frames := 1, cells := 0, slots := 0, locals := 21 }
set_option maxHeartbeats 4000000 in
set_option maxRecDepth 100000 in
theorem k_x_midstream {l : Launch} {D : va_G} {cI cZ : ClassId} {sz : Nat} (xh xq1 xq2 xq6 xq14 xq22 xq26 xq31 xq35 xq36 xq41 xq44 xq50 xq59 xq9 xq10 xq11 xq12 xq13 : Nat) (v1 v2 v3 : Int32) : KI l yX9_midstream cX9_midstream 8 (some .int) rm_k_x_midstream D cI cZ [.ref xh, .int v1, .int v2, .int v3] sz [(xh, .inr (9, [.ref xq1, .int 0, .int (-1), .ref xq2, .ref xq6, .ref xq14, .ref xq22, .ref xq26, .ref xq31, .ref xq35, .int 0, .ref xq36, .int 0, .ref xq41, .ref xq44, .ref xq50, .ref xq59])), (xq6, .inr (8, [.int 0, .int 1, .int 0, .int 0, .int 0, .ref xq9, .ref xq10, .ref xq11, .ref xq12, .ref xq13]))] (fun (r : Int32) (_ : Unit) => r = (-1000000001)) (fun (_ : Unit) => []) := by
  refine KI.go rfl (Nat.le_of_ble_eq_true rfl) ?_
  intro p e s m args below meth c ls A Q hx hb hml hts hown hin hP hK hD hS hA hN hl hret
  have hl : lv_has ls 8 [(0, .ref xh), (1, .int v1), (2, .int v2), (3, .int v3)] := hl
  refine lv_aload_n hx hb dX9_midstream_0 rfl (lv_at hl 0 rfl) ?_
  refine va_get (D := D) (ci := 9) (v := .ref xq6) (C := RX9) (T := TX9) (N := 17) hx hb hts iX9 hown hK hP 0 rfl rfl 4 (by decide) (hts _ wd_89) (fun _ h9 => h9) rfl dX9_midstream_1 ?_
  refine lv_iload_n hx hb dX9_midstream_4 rfl (lv_at hl 1 rfl) ?_
  refine cVi (wr := [(xh, .inr (9, [.ref xq1, .int 0, .int (-1), .ref xq2, .ref xq6, .ref xq14, .ref xq22, .ref xq26, .ref xq31, .ref xq35, .int 0, .ref xq36, .int 0, .ref xq41, .ref xq44, .ref xq50, .ref xq59]))]) (rest := []) (k_hasCouple xq6 0 1 0 0 0 xq9 xq10 xq11 xq12 xq13 v1) okV_X8_hasCouple wd_234 hx hb hml hown hts hK hP hD hS hA hN hl.1 [1] [0] rfl rfl rfl rfl (by decide) rfl rfl rfl (Nat.le_of_ble_eq_true rfl) (Nat.le_of_ble_eq_true rfl) (Nat.le_of_ble_eq_true rfl) (Nat.le_of_ble_eq_true rfl) (Nat.le_of_ble_eq_true rfl) dX9_midstream_5 (fun r_2 u_1 H locs hw_u_1 hP hD hS => ?_)
  obtain rfl := hw_u_1
  have hP : va_P D classes [(xh, .inr (9, [.ref xq1, .int 0, .int (-1), .ref xq2, .ref xq6, .ref xq14, .ref xq22, .ref xq26, .ref xq31, .ref xq35, .int 0, .ref xq36, .int 0, .ref xq41, .ref xq44, .ref xq50, .ref xq59])), (xq6, .inr (8, [.int 0, .int 1, .int 0, .int 0, .int 0, .ref xq9, .ref xq10, .ref xq11, .ref xq12, .ref xq13]))] H := hP
  have hD : va_D A [(xh, .inr (9, [.ref xq1, .int 0, .int (-1), .ref xq2, .ref xq6, .ref xq14, .ref xq22, .ref xq26, .ref xq31, .ref xq35, .int 0, .ref xq36, .int 0, .ref xq41, .ref xq44, .ref xq50, .ref xq59])), (xq6, .inr (8, [.int 0, .int 1, .int 0, .int 0, .int 0, .ref xq9, .ref xq10, .ref xq11, .ref xq12, .ref xq13]))] := hD
  refine lv_topi (fun z_3 ez_3 => ?_)
  obtain rfl : z_3 = 0 := ez_3.trans (hasF0 _)
  refine lv_if_ne (tgt := 14) hx hb dX9_midstream_8 (by decide) (fun c_4 => absurd (by decide +kernel) c_4) (fun c_4 => ?_)
  refine lv_ldc (v := (-1000000001)) hx hb hown (hts _ wd_233) dX9_midstream_11 ?_
  exact hret (-1000000001) () _ _ _ _ dX9_midstream_13 rfl rfl (cutP (isC := []) hP rfl) (cutD (isC := []) hD rfl rfl) hS
def rm_k_x_write : Room := { frames := 1, cells := 0, slots := 0, locals := 21 }
set_option maxHeartbeats 4000000 in
set_option maxRecDepth 100000 in
theorem k_x_write {l : Launch} {D : va_G} {cI cZ : ClassId} {sz : Nat} (xh xq1 xq2 xq6 xq14 xq22 xq26 xq31 xq35 xq36 xq41 xq44 xq50 xq59 xq9 xq10 xq11 xq12 xq13 : Nat) (v1 v2 : Int32) : KI l yX9_write cX9_write 3 (some .int) rm_k_x_write D cI cZ [.ref xh, .int v1, .int v2] sz [(xh, .inr (9, [.ref xq1, .int 0, .int (-1), .ref xq2, .ref xq6, .ref xq14, .ref xq22, .ref xq26, .ref xq31, .ref xq35, .int 0, .ref xq36, .int 0, .ref xq41, .ref xq44, .ref xq50, .ref xq59])), (xq6, .inr (8, [.int 0, .int 1, .int 0, .int 0, .int 0, .ref xq9, .ref xq10, .ref xq11, .ref xq12, .ref xq13]))] (fun (r : Int32) (_ : Unit) => r = (-1000000001)) (fun (_ : Unit) => []) := by
  refine KI.go rfl (Nat.le_of_ble_eq_true rfl) ?_
  intro p e s m args below meth c ls A Q hx hb hml hts hown hin hP hK hD hS hA hN hl hret
  have hl : lv_has ls 3 [(0, .ref xh), (1, .int v1), (2, .int v2)] := hl
  refine lv_aload_n hx hb dX9_write_0 rfl (lv_at hl 0 rfl) ?_
  refine va_get (D := D) (ci := 9) (v := .ref xq6) (C := RX9) (T := TX9) (N := 17) hx hb hts iX9 hown hK hP 0 rfl rfl 4 (by decide) (hts _ wd_89) (fun _ h9 => h9) rfl dX9_write_1 ?_
  refine lv_iload_n hx hb dX9_write_4 rfl (lv_at hl 1 rfl) ?_
  refine cVi (wr := [(xh, .inr (9, [.ref xq1, .int 0, .int (-1), .ref xq2, .ref xq6, .ref xq14, .ref xq22, .ref xq26, .ref xq31, .ref xq35, .int 0, .ref xq36, .int 0, .ref xq41, .ref xq44, .ref xq50, .ref xq59]))]) (rest := []) (k_hasCouple xq6 0 1 0 0 0 xq9 xq10 xq11 xq12 xq13 v1) okV_X8_hasCouple wd_234 hx hb hml hown hts hK hP hD hS hA hN hl.1 [1] [0] rfl rfl rfl rfl (by decide) rfl rfl rfl (Nat.le_of_ble_eq_true rfl) (Nat.le_of_ble_eq_true rfl) (Nat.le_of_ble_eq_true rfl) (Nat.le_of_ble_eq_true rfl) (Nat.le_of_ble_eq_true rfl) dX9_write_5 (fun r_2 u_1 H locs hw_u_1 hP hD hS => ?_)
  obtain rfl := hw_u_1
  have hP : va_P D classes [(xh, .inr (9, [.ref xq1, .int 0, .int (-1), .ref xq2, .ref xq6, .ref xq14, .ref xq22, .ref xq26, .ref xq31, .ref xq35, .int 0, .ref xq36, .int 0, .ref xq41, .ref xq44, .ref xq50, .ref xq59])), (xq6, .inr (8, [.int 0, .int 1, .int 0, .int 0, .int 0, .ref xq9, .ref xq10, .ref xq11, .ref xq12, .ref xq13]))] H := hP
  have hD : va_D A [(xh, .inr (9, [.ref xq1, .int 0, .int (-1), .ref xq2, .ref xq6, .ref xq14, .ref xq22, .ref xq26, .ref xq31, .ref xq35, .int 0, .ref xq36, .int 0, .ref xq41, .ref xq44, .ref xq50, .ref xq59])), (xq6, .inr (8, [.int 0, .int 1, .int 0, .int 0, .int 0, .ref xq9, .ref xq10, .ref xq11, .ref xq12, .ref xq13]))] := hD
  refine lv_topi (fun z_3 ez_3 => ?_)
  obtain rfl : z_3 = 0 := ez_3.trans (hasF0 _)
  refine lv_if_ne (tgt := 14) hx hb dX9_write_8 (by decide) (fun c_4 => absurd (by decide +kernel) c_4) (fun c_4 => ?_)
  refine lv_ldc (v := (-1000000001)) hx hb hown (hts _ wd_233) dX9_write_11 ?_
  exact hret (-1000000001) () _ _ _ _ dX9_write_13 rfl rfl (cutP (isC := []) hP rfl) (cutD (isC := []) hD rfl rfl) hS
def rm_k_x_drift : Room := { frames := 0, cells := 0, slots := 0, locals := 0 }
set_option maxHeartbeats 4000000 in
set_option maxRecDepth 100000 in
theorem k_x_drift {l : Launch} {D : va_G} {cI cZ : ClassId} {sz : Nat} (xh xq1 xq2 xq6 xq14 xq22 xq26 xq31 xq35 xq36 xq41 xq44 xq50 xq59 xq9 xq10 xq11 xq12 xq13 : Nat) (v : Int32) : KI l yX9_drift cX9_drift 5 (some .int) rm_k_x_drift D cI cZ [.ref xh, .int v] sz [(xh, .inr (9, [.ref xq1, .int 0, .int (-1), .ref xq2, .ref xq6, .ref xq14, .ref xq22, .ref xq26, .ref xq31, .ref xq35, .int 0, .ref xq36, .int 0, .ref xq41, .ref xq44, .ref xq50, .ref xq59])), (xq6, .inr (8, [.int 0, .int 1, .int 0, .int 0, .int 0, .ref xq9, .ref xq10, .ref xq11, .ref xq12, .ref xq13]))] (fun (r : Int32) (_ : Unit) => r = rg 1 99 v (-1000000002) (-1000000003)) (fun (_ : Unit) => []) := by
  refine KI.go rfl (Nat.le_of_ble_eq_true rfl) ?_
  intro p e s m args below meth c ls A Q hx hb hml hts hown hin hP hK hD hS hA hN hl hret
  have hl : lv_has ls 5 [(0, .ref xh), (1, .int v)] := hl
  refine lv_iload_n hx hb dX9_drift_0 rfl (lv_at hl 1 rfl) ?_
  refine lv_iconst (v := 1) hx hb dX9_drift_1 (by decide) ?_
  refine lv_icmp_lt (tgt := 11) hx hb dX9_drift_2 (by decide) (fun c_1 => ?_) (fun c_1 => ?_)
  · refine lv_ldc (v := (-1000000002)) hx hb hown (hts _ wd_191) dX9_drift_11 ?_
    exact hret (-1000000002) () _ _ _ _ dX9_drift_13 rfl (rg_lo c_1) (cutP (isC := []) hP rfl) (cutD (isC := []) hD rfl rfl) hS
  · refine lv_iload_n hx hb dX9_drift_5 rfl (lv_at hl 1 rfl) ?_
    refine lv_bipush (v := 99) hx hb dX9_drift_6 (by decide) ?_
    refine lv_icmp_le (tgt := 14) hx hb dX9_drift_8 (by decide) (fun c_2 => ?_) (fun c_2 => ?_)
    · refine lv_aload_n hx hb dX9_drift_14 rfl (lv_at hl 0 rfl) ?_
      refine va_get (D := D) (ci := 9) (v := .ref xq6) (C := RX9) (T := TX9) (N := 17) hx hb hts iX9 hown hK hP 0 rfl rfl 4 (by decide) (hts _ wd_89) (fun _ h9 => h9) rfl dX9_drift_15 ?_
      refine va_get (D := D) (ci := 8) (v := .int 0) (C := RX8) (T := TX8) (N := 10) hx hb hts iX8 hown hK hP 1 rfl rfl 2 (by decide) (hts _ wd_214) (fun _ h9 => h9) rfl dX9_drift_18 ?_
      refine lv_if_ne (tgt := 27) hx hb dX9_drift_21 (by decide) (fun c_3 => absurd (by decide +kernel) c_3) (fun c_3 => ?_)
      refine lv_ldc (v := (-1000000003)) hx hb hown (hts _ wd_242) dX9_drift_24 ?_
      exact hret (-1000000003) () _ _ _ _ dX9_drift_26 rfl (rg_in c_1 c_2) (cutP (isC := []) hP rfl) (cutD (isC := []) hD rfl rfl) hS
    · refine lv_ldc (v := (-1000000002)) hx hb hown (hts _ wd_191) dX9_drift_11 ?_
      exact hret (-1000000002) () _ _ _ _ dX9_drift_13 rfl (rg_hi c_2) (cutP (isC := []) hP rfl) (cutD (isC := []) hD rfl rfl) hS
def rm_k_x_undo : Room := { frames := 0, cells := 0, slots := 0, locals := 0 }
set_option maxHeartbeats 4000000 in
set_option maxRecDepth 100000 in
theorem k_x_undo {l : Launch} {D : va_G} {cI cZ : ClassId} {sz : Nat} (xh xq1 xq2 xq6 xq14 xq22 xq26 xq31 xq35 xq36 xq41 xq44 xq50 xq59 xq29 : Nat) : KI l yX9_undo cX9_undo 1 (some .int) rm_k_x_undo D cI cZ [.ref xh] sz [(xh, .inr (9, [.ref xq1, .int 0, .int (-1), .ref xq2, .ref xq6, .ref xq14, .ref xq22, .ref xq26, .ref xq31, .ref xq35, .int 0, .ref xq36, .int 0, .ref xq41, .ref xq44, .ref xq50, .ref xq59])), (xq26, .inr (2, [.ref xq29, .int 0, .int 0]))] (fun (r : Int32) (_ : Unit) => r = (-1000000003)) (fun (_ : Unit) => []) := by
  refine KI.go rfl (Nat.le_of_ble_eq_true rfl) ?_
  intro p e s m args below meth c ls A Q hx hb hml hts hown hin hP hK hD hS hA hN hl hret
  have hl : lv_has ls 1 [(0, .ref xh)] := hl
  refine lv_aload_n hx hb dX9_undo_0 rfl (lv_at hl 0 rfl) ?_
  refine va_get (D := D) (ci := 9) (v := .ref xq26) (C := RX9) (T := TX9) (N := 17) hx hb hts iX9 hown hK hP 0 rfl rfl 7 (by decide) (hts _ wd_102) (fun _ h9 => h9) rfl dX9_undo_1 ?_
  refine va_get (D := D) (ci := 2) (v := .int 0) (C := RX2) (T := TX2) (N := 3) hx hb hts iX2 hown hK hP 1 rfl rfl 2 (by decide) (hts _ wd_228) (fun _ h9 => h9) rfl dX9_undo_4 ?_
  refine lv_if_ne (tgt := 13) hx hb dX9_undo_7 (by decide) (fun c_1 => absurd (by decide +kernel) c_1) (fun c_1 => ?_)
  refine lv_ldc (v := (-1000000003)) hx hb hown (hts _ wd_242) dX9_undo_10 ?_
  exact hret (-1000000003) () _ _ _ _ dX9_undo_12 rfl rfl (cutP (isC := []) hP rfl) (cutD (isC := []) hD rfl rfl) hS
def rm_k_x_order : Room := { frames := 4, cells := 0, slots := 0, locals := 87 }
set_option maxHeartbeats 4000000 in
set_option maxRecDepth 100000 in
theorem k_x_order {l : Launch} {D : va_G} {cI cZ : ClassId} {sz : Nat} (xh xq1 xq2 xq6 xq14 xq22 xq26 xq31 xq35 xq36 xq41 xq44 xq50 xq59 xq53 xq54 xq55 xq56 xq57 xq58 xq9 xq10 xq11 xq12 xq13 xu23 : Nat) (v : Int32) : KI l yX9_order cX9_order 3 (some .int) rm_k_x_order D cI cZ [.ref xh, .int v] sz [(xh, .inr (9, [.ref xq1, .int 0, .int (-1), .ref xq2, .ref xq6, .ref xq14, .ref xq22, .ref xq26, .ref xq31, .ref xq35, .int 0, .ref xq36, .int 0, .ref xq41, .ref xq44, .ref xq50, .ref xq59])), (xq50, .inr (1, [.int 0, .ref xq53, .ref xq54, .ref xq55, .ref xq56, .ref xq57, .ref xq58, .int 0, .int 0, .null])), (xq54, .inl (cI, 6, .inl z0)), (xq55, .inl (cI, 48, .inl z0)), (xq56, .inl (cI, 128, .inl z0)), (xq57, .inl (cI, 128, .inl z0)), (xq58, .inl (cI, 128, .inl z0)), (xq6, .inr (8, [.int 0, .int 1, .int 0, .int 0, .int 0, .ref xq9, .ref xq10, .ref xq11, .ref xq12, .ref xq13])), (xq22, .inr (7, [.ref xu23])), (xu23, .inl (cI, 41, .inl (cB2 z0 7)))] (fun (r : Int32) (_ : Unit) => r = orderS v) (fun (_ : Unit) => []) := by
  refine KI.go rfl (Nat.le_of_ble_eq_true rfl) ?_
  intro p e s m args below meth c ls A Q hx hb hml hts hown hin hP hK hD hS hA hN hl hret
  have hl : lv_has ls 3 [(0, .ref xh), (1, .int v)] := hl
  refine lv_aload_n hx hb dX9_order_0 rfl (lv_at hl 0 rfl) ?_
  refine va_get (D := D) (ci := 9) (v := .ref xq50) (C := RX9) (T := TX9) (N := 17) hx hb hts iX9 hown hK hP 0 rfl rfl 15 (by decide) (hts _ wd_132) (fun _ h9 => h9) rfl dX9_order_1 ?_
  refine lv_aload_n hx hb dX9_order_4 rfl (lv_at hl 0 rfl) ?_
  refine va_get (D := D) (ci := 9) (v := .ref xq6) (C := RX9) (T := TX9) (N := 17) hx hb hts iX9 hown hK hP 0 rfl rfl 4 (by decide) (hts _ wd_89) (fun _ h9 => h9) rfl dX9_order_5 ?_
  refine lv_aload_n hx hb dX9_order_8 rfl (lv_at hl 0 rfl) ?_
  refine va_get (D := D) (ci := 9) (v := .ref xq22) (C := RX9) (T := TX9) (N := 17) hx hb hts iX9 hown hK hP 0 rfl rfl 6 (by decide) (hts _ wd_96) (fun _ h9 => h9) rfl dX9_order_9 ?_
  refine cVv (wr := [(xh, .inr (9, [.ref xq1, .int 0, .int (-1), .ref xq2, .ref xq6, .ref xq14, .ref xq22, .ref xq26, .ref xq31, .ref xq35, .int 0, .ref xq36, .int 0, .ref xq41, .ref xq44, .ref xq50, .ref xq59])), (xq56, .inl (cI, 128, .inl z0)), (xq57, .inl (cI, 128, .inl z0)), (xq58, .inl (cI, 128, .inl z0))]) (rest := []) (k_gather xq50 xq53 xq54 xq55 xq56 xq57 xq58 xq6 xq9 xq10 xq11 xq12 xq13 xq22 xu23) okV_X1_gather wd_243 hx hb hml hown hts hK hP hD hS hA hN hl.1 [1, 2, 3, 7, 8, 9] [0, 4, 5, 6] rfl rfl rfl rfl (by decide) rfl rfl rfl (Nat.le_of_ble_eq_true rfl) (Nat.le_of_ble_eq_true rfl) (Nat.le_of_ble_eq_true rfl) (Nat.le_of_ble_eq_true rfl) (Nat.le_of_ble_eq_true rfl) dX9_order_12 (fun u_1 H locs hw_u_1 hP hD hS => ?_)
  have hP : va_P D classes [(xh, .inr (9, [.ref xq1, .int 0, .int (-1), .ref xq2, .ref xq6, .ref xq14, .ref xq22, .ref xq26, .ref xq31, .ref xq35, .int 0, .ref xq36, .int 0, .ref xq41, .ref xq44, .ref xq50, .ref xq59])), (xq56, .inl (cI, 128, .inl z0)), (xq57, .inl (cI, 128, .inl z0)), (xq58, .inl (cI, 128, .inl z0)), (xq50, .inr (1, [.int 0, .ref xq53, .ref xq54, .ref xq55, .ref xq56, .ref xq57, .ref xq58, .int 0, .int 0, .ref xq6])), (xq6, .inr (8, [.int 0, .int 1, .int 0, .int 0, .int 0, .ref xq9, .ref xq10, .ref xq11, .ref xq12, .ref xq13]))] H := hP
  have hD : va_D A [(xh, .inr (9, [.ref xq1, .int 0, .int (-1), .ref xq2, .ref xq6, .ref xq14, .ref xq22, .ref xq26, .ref xq31, .ref xq35, .int 0, .ref xq36, .int 0, .ref xq41, .ref xq44, .ref xq50, .ref xq59])), (xq56, .inl (cI, 128, .inl z0)), (xq57, .inl (cI, 128, .inl z0)), (xq58, .inl (cI, 128, .inl z0)), (xq50, .inr (1, [.int 0, .ref xq53, .ref xq54, .ref xq55, .ref xq56, .ref xq57, .ref xq58, .int 0, .int 0, .ref xq6])), (xq6, .inr (8, [.int 0, .int 1, .int 0, .int 0, .int 0, .ref xq9, .ref xq10, .ref xq11, .ref xq12, .ref xq13]))] := hD
  refine lv_iconst (v := 0) hx hb dX9_order_15 (by decide) ?_
  refine lv_istore_n (lv' := [(2, .int 0), (0, .ref xh), (1, .int v)]) hx hb dX9_order_16 rfl hl (by decide) rfl (fun ls hl => ?_)
  refine lv_iload_n hx hb dX9_order_17 rfl (lv_at hl 0 rfl) ?_
  refine lv_aload_n hx hb dX9_order_18 rfl (lv_at hl 1 rfl) ?_
  refine va_get (D := D) (ci := 9) (v := .ref xq6) (C := RX9) (T := TX9) (N := 17) hx hb hts iX9 hown hK hP 0 rfl rfl 4 (by decide) (hts _ wd_89) (fun _ h9 => h9) rfl dX9_order_19 ?_
  refine va_get (D := D) (ci := 8) (v := .int 0) (C := RX8) (T := TX8) (N := 10) hx hb hts iX8 hown hK hP 5 rfl rfl 0 (by decide) (hts _ wd_212) (fun _ h9 => h9) rfl dX9_order_22 ?_
  refine lv_icmp_ge (tgt := 39) hx hb dX9_order_25 (by decide) (fun c_3 => ?_) (fun c_3 => absurd (by decide +kernel) c_3)
  refine lv_aload_n hx hb dX9_order_39 rfl (lv_at hl 1 rfl) ?_
  refine va_get (D := D) (ci := 9) (v := .ref xq50) (C := RX9) (T := TX9) (N := 17) hx hb hts iX9 hown hK hP 0 rfl rfl 15 (by decide) (hts _ wd_132) (fun _ h9 => h9) rfl dX9_order_40 ?_
  refine cVv (wr := [(xh, .inr (9, [.ref xq1, .int 0, .int (-1), .ref xq2, .ref xq6, .ref xq14, .ref xq22, .ref xq26, .ref xq31, .ref xq35, .int 0, .ref xq36, .int 0, .ref xq41, .ref xq44, .ref xq50, .ref xq59]))]) (rest := []) (k_solve xq50 0 xq53 xq54 xq55 xq56 xq57 xq58 xq6 xq9 xq10 xq11 xq12 xq13) okV_X1_solve wd_247 hx hb hml hown hts hK hP hD hS hA hN hl.1 [4, 1, 2, 3, 5] [0] rfl rfl rfl rfl (by decide) rfl rfl rfl (Nat.le_of_ble_eq_true rfl) (Nat.le_of_ble_eq_true rfl) (Nat.le_of_ble_eq_true rfl) (Nat.le_of_ble_eq_true rfl) (Nat.le_of_ble_eq_true rfl) dX9_order_43 (fun u_4 H locs hw_u_4 hP hD hS => ?_)
  have hP : va_P D classes [(xh, .inr (9, [.ref xq1, .int 0, .int (-1), .ref xq2, .ref xq6, .ref xq14, .ref xq22, .ref xq26, .ref xq31, .ref xq35, .int 0, .ref xq36, .int 0, .ref xq41, .ref xq44, .ref xq50, .ref xq59])), (xq50, .inr (1, [.int 0, .ref xq53, .ref xq54, .ref xq55, .ref xq56, .ref xq57, .ref xq58, .int 0, .int 0, .ref xq6])), (xq6, .inr (8, [.int 0, .int 1, .int 0, .int 0, .int 0, .ref xq9, .ref xq10, .ref xq11, .ref xq12, .ref xq13]))] H := hP
  have hD : va_D A [(xh, .inr (9, [.ref xq1, .int 0, .int (-1), .ref xq2, .ref xq6, .ref xq14, .ref xq22, .ref xq26, .ref xq31, .ref xq35, .int 0, .ref xq36, .int 0, .ref xq41, .ref xq44, .ref xq50, .ref xq59])), (xq50, .inr (1, [.int 0, .ref xq53, .ref xq54, .ref xq55, .ref xq56, .ref xq57, .ref xq58, .int 0, .int 0, .ref xq6])), (xq6, .inr (8, [.int 0, .int 1, .int 0, .int 0, .int 0, .ref xq9, .ref xq10, .ref xq11, .ref xq12, .ref xq13]))] := hD
  refine lv_iload_n hx hb dX9_order_46 rfl (lv_at hl 2 rfl) ?_
  refine lv_iconst (v := (-1)) hx hb dX9_order_47 (by decide) ?_
  refine lv_icmp_ne (tgt := 59) hx hb dX9_order_48 (by decide) (fun c_6 => ?_) (fun c_6 => ?_)
  · refine lv_iload_n hx hb dX9_order_59 rfl (lv_at hl 2 rfl) ?_
    refine lv_if_lt (tgt := 88) hx hb dX9_order_60 (by decide) (fun c_7 => ?_) (fun c_7 => ?_)
    · refine lv_iconst (v := (-1)) hx hb dX9_order_88 (by decide) ?_
      exact hret (-1) () _ _ _ _ dX9_order_89 rfl (if_neg c_6).symm (cutP (isC := []) hP rfl) (cutD (isC := []) hD rfl rfl) hS
    · refine lv_iload_n hx hb dX9_order_63 rfl (lv_at hl 2 rfl) ?_
      refine lv_aload_n hx hb dX9_order_64 rfl (lv_at hl 1 rfl) ?_
      refine va_get (D := D) (ci := 9) (v := .ref xq50) (C := RX9) (T := TX9) (N := 17) hx hb hts iX9 hown hK hP 0 rfl rfl 15 (by decide) (hts _ wd_132) (fun _ h9 => h9) rfl dX9_order_65 ?_
      refine va_get (D := D) (ci := 1) (v := .int 0) (C := RX1) (T := TX1) (N := 10) hx hb hts iX1 hown hK hP 1 rfl rfl 0 (by decide) (hts _ wd_251) (fun _ h9 => h9) rfl dX9_order_68 ?_
      refine lv_icmp_ge (tgt := 88) hx hb dX9_order_71 (by decide) (fun c_8 => ?_) (fun c_8 => absurd (Int32.not_lt.mp c_7) c_8)
      refine lv_iconst (v := (-1)) hx hb dX9_order_88 (by decide) ?_
      exact hret (-1) () _ _ _ _ dX9_order_89 rfl (if_neg c_6).symm (cutP (isC := []) hP rfl) (cutD (isC := []) hD rfl rfl) hS
  · refine lv_aload_n hx hb dX9_order_51 rfl (lv_at hl 1 rfl) ?_
    refine va_get (D := D) (ci := 9) (v := .ref xq50) (C := RX9) (T := TX9) (N := 17) hx hb hts iX9 hown hK hP 0 rfl rfl 15 (by decide) (hts _ wd_132) (fun _ h9 => h9) rfl dX9_order_52 ?_
    refine va_get (D := D) (ci := 1) (v := .int 0) (C := RX1) (T := TX1) (N := 10) hx hb hts iX1 hown hK hP 1 rfl rfl 0 (by decide) (hts _ wd_251) (fun _ h9 => h9) rfl dX9_order_55 ?_
    exact hret 0 () _ _ _ _ dX9_order_58 rfl (if_pos c_6).symm (cutP (isC := []) hP rfl) (cutD (isC := []) hD rfl rfl) hS
def rm_k_x_wornOut : Room := { frames := 0, cells := 0, slots := 0, locals := 0 }
set_option maxHeartbeats 4000000 in
set_option maxRecDepth 100000 in
theorem k_x_wornOut {l : Launch} {D : va_G} {cI cZ : ClassId} {sz : Nat} (xh xq1 xq2 xq6 xq14 xq22 xq26 xq31 xq35 xq36 xq41 xq44 xq50 xq59 xq9 xq10 xq11 xq12 xq13 : Nat) : KI l yX9_wornOut cX9_wornOut 6 (some .int) rm_k_x_wornOut D cI cZ [.ref xh] sz [(xh, .inr (9, [.ref xq1, .int 0, .int (-1), .ref xq2, .ref xq6, .ref xq14, .ref xq22, .ref xq26, .ref xq31, .ref xq35, .int 0, .ref xq36, .int 0, .ref xq41, .ref xq44, .ref xq50, .ref xq59])), (xq6, .inr (8, [.int 0, .int 1, .int 0, .int 0, .int 0, .ref xq9, .ref xq10, .ref xq11, .ref xq12, .ref xq13]))] (fun (r : Int32) (_ : Unit) => r = (-1)) (fun (_ : Unit) => []) := by
  refine KI.go rfl (Nat.le_of_ble_eq_true rfl) ?_
  intro p e s m args below meth c ls A Q hx hb hml hts hown hin hP hK hD hS hA hN hl hret
  have hl : lv_has ls 6 [(0, .ref xh)] := hl
  refine lv_iconst (v := (-1)) hx hb dX9_wornOut_0 (by decide) ?_
  refine lv_istore_n (lv' := [(1, .int (-1)), (0, .ref xh)]) hx hb dX9_wornOut_1 rfl hl (by decide) rfl (fun ls hl => ?_)
  refine lv_iconst (v := 0) hx hb dX9_wornOut_2 (by decide) ?_
  refine lv_istore_n (lv' := [(2, .int 0), (1, .int (-1)), (0, .ref xh)]) hx hb dX9_wornOut_3 rfl hl (by decide) rfl (fun ls hl => ?_)
  refine lv_iconst (v := 0) hx hb dX9_wornOut_4 (by decide) ?_
  refine lv_istore_n (lv' := [(3, .int 0), (2, .int 0), (1, .int (-1)), (0, .ref xh)]) hx hb dX9_wornOut_5 rfl hl (by decide) rfl (fun ls hl => ?_)
  refine lv_iload_n hx hb dX9_wornOut_6 rfl (lv_at hl 0 rfl) ?_
  refine lv_aload_n hx hb dX9_wornOut_7 rfl (lv_at hl 3 rfl) ?_
  refine va_get (D := D) (ci := 9) (v := .ref xq6) (C := RX9) (T := TX9) (N := 17) hx hb hts iX9 hown hK hP 0 rfl rfl 4 (by decide) (hts _ wd_89) (fun _ h9 => h9) rfl dX9_wornOut_8 ?_
  refine va_get (D := D) (ci := 8) (v := .int 0) (C := RX8) (T := TX8) (N := 10) hx hb hts iX8 hown hK hP 1 rfl rfl 2 (by decide) (hts _ wd_214) (fun _ h9 => h9) rfl dX9_wornOut_11 ?_
  refine lv_icmp_ge (tgt := 91) hx hb dX9_wornOut_14 (by decide) (fun c_1 => ?_) (fun c_1 => absurd (by decide +kernel) c_1)
  refine lv_iload_n hx hb dX9_wornOut_91 rfl (lv_at hl 2 rfl) ?_
  exact hret (-1) () _ _ _ _ dX9_wornOut_92 rfl rfl (cutP (isC := []) hP rfl) (cutD (isC := []) hD rfl rfl) hS
def rm_k_x_carried : Room := { frames := 3, cells := 0, slots := 0, locals := 64 }
set_option maxHeartbeats 4000000 in
set_option maxRecDepth 100000 in
theorem k_x_carried {l : Launch} {D : va_G} {cI cZ : ClassId} {sz : Nat} (xh xq1 xq2 xq6 xq14 xq22 xq26 xq31 xq35 xq36 xq41 xq44 xq50 xq59 xq9 xq10 xq11 xq12 xq13 xu23 : Nat) (v : Int32) : KI l yX9_carried cX9_carried 5 (some .int) rm_k_x_carried D cI cZ [.ref xh, .int v] sz [(xh, .inr (9, [.ref xq1, .int 0, .int (-1), .ref xq2, .ref xq6, .ref xq14, .ref xq22, .ref xq26, .ref xq31, .ref xq35, .int 0, .ref xq36, .int 0, .ref xq41, .ref xq44, .ref xq50, .ref xq59])), (xq6, .inr (8, [.int 0, .int 1, .int 0, .int 0, .int 0, .ref xq9, .ref xq10, .ref xq11, .ref xq12, .ref xq13])), (xq22, .inr (7, [.ref xu23])), (xu23, .inl (cI, 41, .inl (cB2 z0 7)))] (fun (r : Int32) (_ : Unit) => r = carriedS v) (fun (_ : Unit) => []) := by
  refine KI.go rfl (Nat.le_of_ble_eq_true rfl) ?_
  intro p e s m args below meth c ls A Q hx hb hml hts hown hin hP hK hD hS hA hN hl hret
  have hl : lv_has ls 5 [(0, .ref xh), (1, .int v)] := hl
  refine lv_iload_n hx hb dX9_carried_0 rfl (lv_at hl 1 rfl) ?_
  refine lv_iconst (v := (-1)) hx hb dX9_carried_1 (by decide) ?_
  refine lv_icmp_eq (tgt := 19) hx hb dX9_carried_2 (by decide) (fun c_1 => ?_) (fun c_1 => ?_)
  · refine lv_aload_n hx hb dX9_carried_19 rfl (lv_at hl 0 rfl) ?_
    refine va_get (D := D) (ci := 9) (v := .ref xq22) (C := RX9) (T := TX9) (N := 17) hx hb hts iX9 hown hK hP 0 rfl rfl 6 (by decide) (hts _ wd_96) (fun _ h9 => h9) rfl dX9_carried_20 ?_
    refine lv_iconst (v := 0) hx hb dX9_carried_23 (by decide) ?_
    refine cVi (wr := [(xh, .inr (9, [.ref xq1, .int 0, .int (-1), .ref xq2, .ref xq6, .ref xq14, .ref xq22, .ref xq26, .ref xq31, .ref xq35, .int 0, .ref xq36, .int 0, .ref xq41, .ref xq44, .ref xq50, .ref xq59])), (xq6, .inr (8, [.int 0, .int 1, .int 0, .int 0, .int 0, .ref xq9, .ref xq10, .ref xq11, .ref xq12, .ref xq13]))]) (rest := []) (k_coupleAt0 xq22 xu23) okV_X7_coupleAt wd_252 hx hb hml hown hts hK hP hD hS hA hN hl.1 [2, 3] [0, 1] rfl rfl rfl rfl (by decide) rfl rfl rfl (Nat.le_of_ble_eq_true rfl) (Nat.le_of_ble_eq_true rfl) (Nat.le_of_ble_eq_true rfl) (Nat.le_of_ble_eq_true rfl) (Nat.le_of_ble_eq_true rfl) dX9_carried_24 (fun r_3 u_2 H locs hw_u_2 hP hD hS => ?_)
    obtain rfl := hw_u_2
    have hP : va_P D classes [(xh, .inr (9, [.ref xq1, .int 0, .int (-1), .ref xq2, .ref xq6, .ref xq14, .ref xq22, .ref xq26, .ref xq31, .ref xq35, .int 0, .ref xq36, .int 0, .ref xq41, .ref xq44, .ref xq50, .ref xq59])), (xq6, .inr (8, [.int 0, .int 1, .int 0, .int 0, .int 0, .ref xq9, .ref xq10, .ref xq11, .ref xq12, .ref xq13])), (xq22, .inr (7, [.ref xu23])), (xu23, .inl (cI, 41, .inl (cB2 z0 7)))] H := hP
    have hD : va_D A [(xh, .inr (9, [.ref xq1, .int 0, .int (-1), .ref xq2, .ref xq6, .ref xq14, .ref xq22, .ref xq26, .ref xq31, .ref xq35, .int 0, .ref xq36, .int 0, .ref xq41, .ref xq44, .ref xq50, .ref xq59])), (xq6, .inr (8, [.int 0, .int 1, .int 0, .int 0, .int 0, .ref xq9, .ref xq10, .ref xq11, .ref xq12, .ref xq13])), (xq22, .inr (7, [.ref xu23])), (xu23, .inl (cI, 41, .inl (cB2 z0 7)))] := hD
    refine lv_istore_n (lv' := [(2, .int (-1)), (0, .ref xh), (1, .int v)]) hx hb dX9_carried_27 rfl hl (by decide) rfl (fun ls hl => ?_)
    refine lv_iload_n hx hb dX9_carried_28 rfl (lv_at hl 0 rfl) ?_
    refine lv_iconst (v := (-1)) hx hb dX9_carried_29 (by decide) ?_
    refine lv_icmp_ne (tgt := 36) hx hb dX9_carried_30 (by decide) (fun c_4 => absurd (by decide +kernel) c_4) (fun c_4 => ?_)
    refine lv_ldc (v := (-1000000003)) hx hb hown (hts _ wd_242) dX9_carried_33 ?_
    exact hret (-1000000003) () _ _ _ _ dX9_carried_35 rfl (if_pos c_1).symm (cutP (isC := []) hP rfl) (cutD (isC := []) hD rfl rfl) hS
  · refine lv_aload_n hx hb dX9_carried_5 rfl (lv_at hl 0 rfl) ?_
    refine va_get (D := D) (ci := 9) (v := .ref xq6) (C := RX9) (T := TX9) (N := 17) hx hb hts iX9 hown hK hP 0 rfl rfl 4 (by decide) (hts _ wd_89) (fun _ h9 => h9) rfl dX9_carried_6 ?_
    refine lv_iload_n hx hb dX9_carried_9 rfl (lv_at hl 1 rfl) ?_
    refine cVi (wr := [(xh, .inr (9, [.ref xq1, .int 0, .int (-1), .ref xq2, .ref xq6, .ref xq14, .ref xq22, .ref xq26, .ref xq31, .ref xq35, .int 0, .ref xq36, .int 0, .ref xq41, .ref xq44, .ref xq50, .ref xq59])), (xq22, .inr (7, [.ref xu23])), (xu23, .inl (cI, 41, .inl (cB2 z0 7)))]) (rest := []) (k_hasBridge xq6 0 1 0 0 0 xq9 xq10 xq11 xq12 xq13 v) okV_X8_hasBridge wd_229 hx hb hml hown hts hK hP hD hS hA hN hl.1 [1] [0, 2, 3] rfl rfl rfl rfl (by decide) rfl rfl rfl (Nat.le_of_ble_eq_true rfl) (Nat.le_of_ble_eq_true rfl) (Nat.le_of_ble_eq_true rfl) (Nat.le_of_ble_eq_true rfl) (Nat.le_of_ble_eq_true rfl) dX9_carried_10 (fun r_6 u_5 H locs hw_u_5 hP hD hS => ?_)
    obtain rfl := hw_u_5
    have hP : va_P D classes [(xh, .inr (9, [.ref xq1, .int 0, .int (-1), .ref xq2, .ref xq6, .ref xq14, .ref xq22, .ref xq26, .ref xq31, .ref xq35, .int 0, .ref xq36, .int 0, .ref xq41, .ref xq44, .ref xq50, .ref xq59])), (xq22, .inr (7, [.ref xu23])), (xu23, .inl (cI, 41, .inl (cB2 z0 7))), (xq6, .inr (8, [.int 0, .int 1, .int 0, .int 0, .int 0, .ref xq9, .ref xq10, .ref xq11, .ref xq12, .ref xq13]))] H := hP
    have hD : va_D A [(xh, .inr (9, [.ref xq1, .int 0, .int (-1), .ref xq2, .ref xq6, .ref xq14, .ref xq22, .ref xq26, .ref xq31, .ref xq35, .int 0, .ref xq36, .int 0, .ref xq41, .ref xq44, .ref xq50, .ref xq59])), (xq22, .inr (7, [.ref xu23])), (xu23, .inl (cI, 41, .inl (cB2 z0 7))), (xq6, .inr (8, [.int 0, .int 1, .int 0, .int 0, .int 0, .ref xq9, .ref xq10, .ref xq11, .ref xq12, .ref xq13]))] := hD
    refine lv_topi (fun z_7 ez_7 => ?_)
    obtain rfl : z_7 = 0 := ez_7.trans (hasF0 _)
    refine lv_if_ne (tgt := 19) hx hb dX9_carried_13 (by decide) (fun c_8 => absurd (by decide +kernel) c_8) (fun c_8 => ?_)
    refine lv_ldc (v := (-1000000001)) hx hb hown (hts _ wd_233) dX9_carried_16 ?_
    exact hret (-1000000001) () _ _ _ _ dX9_carried_18 rfl (if_neg c_1).symm (cutP (isC := []) hP rfl) (cutD (isC := []) hD rfl rfl) hS
def rm_k_x_fleet : Room := { frames := 3, cells := 0, slots := 0, locals := 65 }
set_option maxHeartbeats 4000000 in
set_option maxRecDepth 100000 in
theorem k_x_fleet {l : Launch} {D : va_G} {cI cZ : ClassId} {sz : Nat} (xh xq1 xq2 xq6 xq14 xq22 xq26 xq31 xq35 xq36 xq41 xq44 xq50 xq59 xq9 xq10 xq11 xq12 xq13 xu23 : Nat) (v : Int32) : KI l yX9_fleet cX9_fleet 7 (some .int) rm_k_x_fleet D cI cZ [.ref xh, .int v] sz [(xh, .inr (9, [.ref xq1, .int 0, .int (-1), .ref xq2, .ref xq6, .ref xq14, .ref xq22, .ref xq26, .ref xq31, .ref xq35, .int 0, .ref xq36, .int 0, .ref xq41, .ref xq44, .ref xq50, .ref xq59])), (xq6, .inr (8, [.int 0, .int 1, .int 0, .int 0, .int 0, .ref xq9, .ref xq10, .ref xq11, .ref xq12, .ref xq13])), (xq22, .inr (7, [.ref xu23])), (xu23, .inl (cI, 41, .inl (cB2 z0 7)))] (fun (r : Int32) (_ : Unit) => r = rg 1 9 v (-1000000002) 0) (fun (_ : Unit) => []) := by
  refine KI.go rfl (Nat.le_of_ble_eq_true rfl) ?_
  intro p e s m args below meth c ls A Q hx hb hml hts hown hin hP hK hD hS hA hN hl hret
  have hl : lv_has ls 7 [(0, .ref xh), (1, .int v)] := hl
  refine lv_iload_n hx hb dX9_fleet_0 rfl (lv_at hl 1 rfl) ?_
  refine lv_iconst (v := 1) hx hb dX9_fleet_1 (by decide) ?_
  refine lv_icmp_lt (tgt := 11) hx hb dX9_fleet_2 (by decide) (fun c_1 => ?_) (fun c_1 => ?_)
  · refine lv_ldc (v := (-1000000002)) hx hb hown (hts _ wd_191) dX9_fleet_11 ?_
    exact hret (-1000000002) () _ _ _ _ dX9_fleet_13 rfl (rg_lo c_1) (cutP (isC := []) hP rfl) (cutD (isC := []) hD rfl rfl) hS
  · refine lv_iload_n hx hb dX9_fleet_5 rfl (lv_at hl 1 rfl) ?_
    refine lv_bipush (v := 9) hx hb dX9_fleet_6 (by decide) ?_
    refine lv_icmp_le (tgt := 14) hx hb dX9_fleet_8 (by decide) (fun c_2 => ?_) (fun c_2 => ?_)
    · refine lv_iload_n hx hb dX9_fleet_14 rfl (lv_at hl 1 rfl) ?_
      refine lv_aload_n hx hb dX9_fleet_15 rfl (lv_at hl 0 rfl) ?_
      refine va_get (D := D) (ci := 9) (v := .ref xq6) (C := RX9) (T := TX9) (N := 17) hx hb hts iX9 hown hK hP 0 rfl rfl 4 (by decide) (hts _ wd_89) (fun _ h9 => h9) rfl dX9_fleet_16 ?_
      refine cVi (wr := [(xh, .inr (9, [.ref xq1, .int 0, .int (-1), .ref xq2, .ref xq6, .ref xq14, .ref xq22, .ref xq26, .ref xq31, .ref xq35, .int 0, .ref xq36, .int 0, .ref xq41, .ref xq44, .ref xq50, .ref xq59])), (xq22, .inr (7, [.ref xu23])), (xu23, .inl (cI, 41, .inl (cB2 z0 7)))]) (rest := [.int v]) (k_needOfAll xq6 xq9 xq10 xq11 xq12 xq13) okV_X8_needOfAll wd_256 hx hb hml hown hts hK hP hD hS hA hN hl.1 [1] [0, 2, 3] rfl rfl rfl rfl (by decide) rfl rfl rfl (Nat.le_of_ble_eq_true rfl) (Nat.le_of_ble_eq_true rfl) (Nat.le_of_ble_eq_true rfl) (Nat.le_of_ble_eq_true rfl) (Nat.le_of_ble_eq_true rfl) dX9_fleet_19 (fun r_4 u_3 H locs hw_u_3 hP hD hS => ?_)
      obtain rfl := hw_u_3
      have hP : va_P D classes [(xh, .inr (9, [.ref xq1, .int 0, .int (-1), .ref xq2, .ref xq6, .ref xq14, .ref xq22, .ref xq26, .ref xq31, .ref xq35, .int 0, .ref xq36, .int 0, .ref xq41, .ref xq44, .ref xq50, .ref xq59])), (xq22, .inr (7, [.ref xu23])), (xu23, .inl (cI, 41, .inl (cB2 z0 7))), (xq6, .inr (8, [.int 0, .int 1, .int 0, .int 0, .int 0, .ref xq9, .ref xq10, .ref xq11, .ref xq12, .ref xq13]))] H := hP
      have hD : va_D A [(xh, .inr (9, [.ref xq1, .int 0, .int (-1), .ref xq2, .ref xq6, .ref xq14, .ref xq22, .ref xq26, .ref xq31, .ref xq35, .int 0, .ref xq36, .int 0, .ref xq41, .ref xq44, .ref xq50, .ref xq59])), (xq22, .inr (7, [.ref xu23])), (xu23, .inl (cI, 41, .inl (cB2 z0 7))), (xq6, .inr (8, [.int 0, .int 1, .int 0, .int 0, .int 0, .ref xq9, .ref xq10, .ref xq11, .ref xq12, .ref xq13]))] := hD
      refine lv_imul hx hb dX9_fleet_22 ?_
      refine lv_topi (fun z_5 ez_5 => ?_)
      obtain rfl : z_5 = 0 := ez_5.trans (i_mul0 _)
      refine lv_istore_n (lv' := [(2, .int 0), (0, .ref xh), (1, .int v)]) hx hb dX9_fleet_23 rfl hl (by decide) rfl (fun ls hl => ?_)
      refine lv_iconst (v := (-1)) hx hb dX9_fleet_24 (by decide) ?_
      refine lv_istore_n (lv' := [(3, .int (-1)), (2, .int 0), (0, .ref xh), (1, .int v)]) hx hb dX9_fleet_25 rfl hl (by decide) rfl (fun ls hl => ?_)
      refine lv_iconst (v := 0) hx hb dX9_fleet_26 (by decide) ?_
      refine lv_istore (lv' := [(4, .int 0), (3, .int (-1)), (2, .int 0), (0, .ref xh), (1, .int v)]) hx hb dX9_fleet_27 hl (by decide) rfl (fun ls hl => ?_)
      refine lv_iload hx hb dX9_fleet_29 (lv_at hl 0 rfl) ?_
      refine lv_iconst (v := 1) hx hb dX9_fleet_31 (by decide) ?_
      refine lv_aload_n hx hb dX9_fleet_32 rfl (lv_at hl 3 rfl) ?_
      refine va_get (D := D) (ci := 9) (v := .ref xq6) (C := RX9) (T := TX9) (N := 17) hx hb hts iX9 hown hK hP 0 rfl rfl 4 (by decide) (hts _ wd_89) (fun _ h9 => h9) rfl dX9_fleet_33 ?_
      refine va_get (D := D) (ci := 8) (v := .int 0) (C := RX8) (T := TX8) (N := 10) hx hb hts iX8 hown hK hP 3 rfl rfl 2 (by decide) (hts _ wd_214) (fun _ h9 => h9) rfl dX9_fleet_36 ?_
      refine lv_ishl hx hb dX9_fleet_39 ?_
      refine lv_topi (fun z_6 ez_6 => ?_)
      obtain rfl : z_6 = 1 := ez_6.trans (by decide +kernel)
      refine lv_icmp_ge (tgt := 119) hx hb dX9_fleet_40 (by decide) (fun c_7 => absurd c_7 (by decide +kernel)) (fun c_7 => ?_)
      refine lv_iload_n hx hb dX9_fleet_43 rfl (lv_at hl 1 rfl) ?_
      refine lv_iconst (v := (-1)) hx hb dX9_fleet_44 (by decide) ?_
      refine lv_icmp_eq (tgt := 60) hx hb dX9_fleet_45 (by decide) (fun c_8 => ?_) (fun c_8 => absurd (by decide +kernel) c_8)
      refine lv_iconst (v := 1) hx hb dX9_fleet_60 (by decide) ?_
      refine lv_goto (tgt := 65) hx hb dX9_fleet_61 (by decide) ?_
      refine lv_istore (lv' := [(5, .int 1), (4, .int 0), (3, .int (-1)), (2, .int 0), (0, .ref xh), (1, .int v)]) hx hb dX9_fleet_65 hl (by decide) rfl (fun ls hl => ?_)
      refine lv_iload hx hb dX9_fleet_67 (lv_at hl 1 rfl) ?_
      refine lv_aload_n hx hb dX9_fleet_69 rfl (lv_at hl 4 rfl) ?_
      refine va_get (D := D) (ci := 9) (v := .ref xq22) (C := RX9) (T := TX9) (N := 17) hx hb hts iX9 hown hK hP 0 rfl rfl 6 (by decide) (hts _ wd_96) (fun _ h9 => h9) rfl dX9_fleet_70 ?_
      refine cVi (wr := [(xh, .inr (9, [.ref xq1, .int 0, .int (-1), .ref xq2, .ref xq6, .ref xq14, .ref xq22, .ref xq26, .ref xq31, .ref xq35, .int 0, .ref xq36, .int 0, .ref xq41, .ref xq44, .ref xq50, .ref xq59])), (xq6, .inr (8, [.int 0, .int 1, .int 0, .int 0, .int 0, .ref xq9, .ref xq10, .ref xq11, .ref xq12, .ref xq13]))]) (rest := [.int 0]) (k_reconciledSet xq22 xu23 (cB2 z0 7)) okV_X7_reconciledSet wd_218 hx hb hml hown hts hK hP hD hS hA hN hl.1 [1, 2] [0, 3] rfl rfl rfl rfl (by decide) rfl rfl rfl (Nat.le_of_ble_eq_true rfl) (Nat.le_of_ble_eq_true rfl) (Nat.le_of_ble_eq_true rfl) (Nat.le_of_ble_eq_true rfl) (Nat.le_of_ble_eq_true rfl) dX9_fleet_73 (fun r_10 u_9 H locs hw_u_9 hP hD hS => ?_)
      obtain rfl := hw_u_9
      have hP : va_P D classes [(xh, .inr (9, [.ref xq1, .int 0, .int (-1), .ref xq2, .ref xq6, .ref xq14, .ref xq22, .ref xq26, .ref xq31, .ref xq35, .int 0, .ref xq36, .int 0, .ref xq41, .ref xq44, .ref xq50, .ref xq59])), (xq6, .inr (8, [.int 0, .int 1, .int 0, .int 0, .int 0, .ref xq9, .ref xq10, .ref xq11, .ref xq12, .ref xq13])), (xq22, .inr (7, [.ref xu23])), (xu23, .inl (cI, 41, .inl (cB2 z0 7)))] H := hP
      have hD : va_D A [(xh, .inr (9, [.ref xq1, .int 0, .int (-1), .ref xq2, .ref xq6, .ref xq14, .ref xq22, .ref xq26, .ref xq31, .ref xq35, .int 0, .ref xq36, .int 0, .ref xq41, .ref xq44, .ref xq50, .ref xq59])), (xq6, .inr (8, [.int 0, .int 1, .int 0, .int 0, .int 0, .ref xq9, .ref xq10, .ref xq11, .ref xq12, .ref xq13])), (xq22, .inr (7, [.ref xu23])), (xu23, .inl (cI, 41, .inl (cB2 z0 7)))] := hD
      refine lv_topi (fun z_11 ez_11 => ?_)
      obtain rfl : z_11 = 0 := ez_11.trans (by decide +kernel)
      refine lv_iand hx hb dX9_fleet_76 ?_
      refine lv_topi (fun z_12 ez_12 => ?_)
      obtain rfl : z_12 = 0 := ez_12.trans (by decide +kernel)
      refine lv_if_ne (tgt := 84) hx hb dX9_fleet_77 (by decide) (fun c_13 => absurd (by decide +kernel) c_13) (fun c_13 => ?_)
      refine lv_iconst (v := 1) hx hb dX9_fleet_80 (by decide) ?_
      refine lv_goto (tgt := 85) hx hb dX9_fleet_81 (by decide) ?_
      refine lv_istore (lv' := [(6, .int 1), (5, .int 1), (4, .int 0), (3, .int (-1)), (2, .int 0), (0, .ref xh), (1, .int v)]) hx hb dX9_fleet_85 hl (by decide) rfl (fun ls hl => ?_)
      refine lv_iload hx hb dX9_fleet_87 (lv_at hl 1 rfl) ?_
      refine lv_if_eq (tgt := 113) hx hb dX9_fleet_89 (by decide) (fun c_14 => absurd c_14 (by decide +kernel)) (fun c_14 => ?_)
      refine lv_iload hx hb dX9_fleet_92 (lv_at hl 0 rfl) ?_
      refine lv_if_eq (tgt := 113) hx hb dX9_fleet_94 (by decide) (fun c_15 => absurd c_15 (by decide +kernel)) (fun c_15 => ?_)
      refine lv_aload_n hx hb dX9_fleet_97 rfl (lv_at hl 5 rfl) ?_
      refine va_get (D := D) (ci := 9) (v := .ref xq22) (C := RX9) (T := TX9) (N := 17) hx hb hts iX9 hown hK hP 0 rfl rfl 6 (by decide) (hts _ wd_96) (fun _ h9 => h9) rfl dX9_fleet_98 ?_
      refine lv_iload hx hb dX9_fleet_101 (lv_at hl 2 rfl) ?_
      refine cVi (wr := [(xh, .inr (9, [.ref xq1, .int 0, .int (-1), .ref xq2, .ref xq6, .ref xq14, .ref xq22, .ref xq26, .ref xq31, .ref xq35, .int 0, .ref xq36, .int 0, .ref xq41, .ref xq44, .ref xq50, .ref xq59])), (xq6, .inr (8, [.int 0, .int 1, .int 0, .int 0, .int 0, .ref xq9, .ref xq10, .ref xq11, .ref xq12, .ref xq13]))]) (rest := []) (k_grievanceOfSet0 xq22 xu23) okV_X7_grievanceOfSet wd_260 hx hb hml hown hts hK hP hD hS hA hN hl.1 [2, 3] [0, 1] rfl rfl rfl rfl (by decide) rfl rfl rfl (Nat.le_of_ble_eq_true rfl) (Nat.le_of_ble_eq_true rfl) (Nat.le_of_ble_eq_true rfl) (Nat.le_of_ble_eq_true rfl) (Nat.le_of_ble_eq_true rfl) dX9_fleet_103 (fun r_17 u_16 H locs hw_u_16 hP hD hS => ?_)
      obtain rfl := hw_u_16
      have hP : va_P D classes [(xh, .inr (9, [.ref xq1, .int 0, .int (-1), .ref xq2, .ref xq6, .ref xq14, .ref xq22, .ref xq26, .ref xq31, .ref xq35, .int 0, .ref xq36, .int 0, .ref xq41, .ref xq44, .ref xq50, .ref xq59])), (xq6, .inr (8, [.int 0, .int 1, .int 0, .int 0, .int 0, .ref xq9, .ref xq10, .ref xq11, .ref xq12, .ref xq13])), (xq22, .inr (7, [.ref xu23])), (xu23, .inl (cI, 41, .inl (cB2 z0 7)))] H := hP
      have hD : va_D A [(xh, .inr (9, [.ref xq1, .int 0, .int (-1), .ref xq2, .ref xq6, .ref xq14, .ref xq22, .ref xq26, .ref xq31, .ref xq35, .int 0, .ref xq36, .int 0, .ref xq41, .ref xq44, .ref xq50, .ref xq59])), (xq6, .inr (8, [.int 0, .int 1, .int 0, .int 0, .int 0, .ref xq9, .ref xq10, .ref xq11, .ref xq12, .ref xq13])), (xq22, .inr (7, [.ref xu23])), (xu23, .inl (cI, 41, .inl (cB2 z0 7)))] := hD
      refine lv_iload_n hx hb dX9_fleet_106 rfl (lv_at hl 4 rfl) ?_
      refine lv_icmp_lt (tgt := 113) hx hb dX9_fleet_107 (by decide) (fun c_18 => absurd c_18 (by decide +kernel)) (fun c_18 => ?_)
      refine lv_iload hx hb dX9_fleet_110 (lv_at hl 2 rfl) ?_
      refine lv_istore_n (lv' := [(3, .int 0), (6, .int 1), (5, .int 1), (4, .int 0), (2, .int 0), (0, .ref xh), (1, .int v)]) hx hb dX9_fleet_112 rfl hl (by decide) rfl (fun ls hl => ?_)
      refine lv_iinc (v := 1) (lv' := [(4, .int 1), (3, .int 0), (6, .int 1), (5, .int 1), (2, .int 0), (0, .ref xh), (1, .int v)]) hx hb dX9_fleet_113 hl (k := 3) rfl (by decide +kernel) (by decide) rfl (fun ls hl => ?_)
      refine lv_goto (tgt := 29) hx hb dX9_fleet_116 (by decide) ?_
      refine lv_iload hx hb dX9_fleet_29 (lv_at hl 0 rfl) ?_
      refine lv_iconst (v := 1) hx hb dX9_fleet_31 (by decide) ?_
      refine lv_aload_n hx hb dX9_fleet_32 rfl (lv_at hl 5 rfl) ?_
      refine va_get (D := D) (ci := 9) (v := .ref xq6) (C := RX9) (T := TX9) (N := 17) hx hb hts iX9 hown hK hP 0 rfl rfl 4 (by decide) (hts _ wd_89) (fun _ h9 => h9) rfl dX9_fleet_33 ?_
      refine va_get (D := D) (ci := 8) (v := .int 0) (C := RX8) (T := TX8) (N := 10) hx hb hts iX8 hown hK hP 1 rfl rfl 2 (by decide) (hts _ wd_214) (fun _ h9 => h9) rfl dX9_fleet_36 ?_
      refine lv_ishl hx hb dX9_fleet_39 ?_
      refine lv_topi (fun z_19 ez_19 => ?_)
      obtain rfl : z_19 = 1 := ez_19.trans (by decide +kernel)
      refine lv_icmp_ge (tgt := 119) hx hb dX9_fleet_40 (by decide) (fun c_20 => ?_) (fun c_20 => absurd (by decide +kernel) c_20)
      refine lv_iload_n hx hb dX9_fleet_119 rfl (lv_at hl 1 rfl) ?_
      exact hret 0 () _ _ _ _ dX9_fleet_120 rfl (rg_in c_1 c_2) (cutP (isC := []) hP rfl) (cutD (isC := []) hD rfl rfl) hS
    · refine lv_ldc (v := (-1000000002)) hx hb hown (hts _ wd_191) dX9_fleet_11 ?_
      exact hret (-1000000002) () _ _ _ _ dX9_fleet_13 rfl (rg_hi c_2) (cutP (isC := []) hP rfl) (cutD (isC := []) hD rfl rfl) hS
def rm_k_x_tear : Room := { frames := 1, cells := 0, slots := 0, locals := 20 }
set_option maxHeartbeats 4000000 in
set_option maxRecDepth 100000 in
theorem k_x_tear {l : Launch} {D : va_G} {cI cZ : ClassId} {sz : Nat} (xh xq1 xq2 xq6 xq14 xq22 xq26 xq31 xq35 xq36 xq41 xq44 xq50 xq59 xq39 xq40 : Nat) : KI l yX9_tear cX9_tear 2 (some .int) rm_k_x_tear D cI cZ [.ref xh] sz [(xh, .inr (9, [.ref xq1, .int 0, .int (-1), .ref xq2, .ref xq6, .ref xq14, .ref xq22, .ref xq26, .ref xq31, .ref xq35, .int 0, .ref xq36, .int 0, .ref xq41, .ref xq44, .ref xq50, .ref xq59])), (xq36, .inr (0, [.int 0, .ref xq39, .ref xq40]))] (fun (r : Int32) (_ : Unit) => r = 0) (fun (_ : Unit) => []) := by
  refine KI.go rfl (Nat.le_of_ble_eq_true rfl) ?_
  intro p e s m args below meth c ls A Q hx hb hml hts hown hin hP hK hD hS hA hN hl hret
  have hl : lv_has ls 2 [(0, .ref xh)] := hl
  refine lv_aload_n hx hb dX9_tear_0 rfl (lv_at hl 0 rfl) ?_
  refine va_get (D := D) (ci := 9) (v := .ref xq36) (C := RX9) (T := TX9) (N := 17) hx hb hts iX9 hown hK hP 0 rfl rfl 11 (by decide) (hts _ wd_113) (fun _ h9 => h9) rfl dX9_tear_1 ?_
  refine va_get (D := D) (ci := 0) (v := .int 0) (C := RX0) (T := TX0) (N := 3) hx hb hts iX0 hown hK hP 1 rfl rfl 0 (by decide) (hts _ wd_227) (fun _ h9 => h9) rfl dX9_tear_4 ?_
  refine lv_istore_n (lv' := [(1, .int 0), (0, .ref xh)]) hx hb dX9_tear_7 rfl hl (by decide) rfl (fun ls hl => ?_)
  refine lv_aload_n hx hb dX9_tear_8 rfl (lv_at hl 1 rfl) ?_
  refine va_get (D := D) (ci := 9) (v := .ref xq36) (C := RX9) (T := TX9) (N := 17) hx hb hts iX9 hown hK hP 0 rfl rfl 11 (by decide) (hts _ wd_113) (fun _ h9 => h9) rfl dX9_tear_9 ?_
  refine cVv (wr := [(xh, .inr (9, [.ref xq1, .int 0, .int (-1), .ref xq2, .ref xq6, .ref xq14, .ref xq22, .ref xq26, .ref xq31, .ref xq35, .int 0, .ref xq36, .int 0, .ref xq41, .ref xq44, .ref xq50, .ref xq59]))]) (rest := []) (k_bookclear xq36 0 xq39 xq40) okV_X0_clear wd_208 hx hb hml hown hts hK hP hD hS hA hN hl.1 [1] [0] rfl rfl rfl rfl (by decide) rfl rfl rfl (Nat.le_of_ble_eq_true rfl) (Nat.le_of_ble_eq_true rfl) (Nat.le_of_ble_eq_true rfl) (Nat.le_of_ble_eq_true rfl) (Nat.le_of_ble_eq_true rfl) dX9_tear_12 (fun u_1 H locs hw_u_1 hP hD hS => ?_)
  have hP : va_P D classes [(xh, .inr (9, [.ref xq1, .int 0, .int (-1), .ref xq2, .ref xq6, .ref xq14, .ref xq22, .ref xq26, .ref xq31, .ref xq35, .int 0, .ref xq36, .int 0, .ref xq41, .ref xq44, .ref xq50, .ref xq59])), (xq36, .inr (0, [.int 0, .ref xq39, .ref xq40]))] H := hP
  have hD : va_D A [(xh, .inr (9, [.ref xq1, .int 0, .int (-1), .ref xq2, .ref xq6, .ref xq14, .ref xq22, .ref xq26, .ref xq31, .ref xq35, .int 0, .ref xq36, .int 0, .ref xq41, .ref xq44, .ref xq50, .ref xq59])), (xq36, .inr (0, [.int 0, .ref xq39, .ref xq40]))] := hD
  refine lv_iload_n hx hb dX9_tear_15 rfl (lv_at hl 0 rfl) ?_
  exact hret 0 () _ _ _ _ dX9_tear_16 rfl rfl (cutP (isC := []) hP rfl) (cutD (isC := []) hD rfl rfl) hS
def rm_k_x_judge : Room := { frames := 1, cells := 0, slots := 0, locals := 22 }
set_option maxHeartbeats 4000000 in
set_option maxRecDepth 100000 in
theorem k_x_judge {l : Launch} {D : va_G} {cI cZ : ClassId} {sz : Nat} (xh xq1 xq2 xq6 xq14 xq22 xq26 xq31 xq35 xq36 xq41 xq44 xq50 xq59 xq39 xq40 : Nat) : KI l yX9_judge cX9_judge 1 (some .int) rm_k_x_judge D cI cZ [.ref xh] sz [(xh, .inr (9, [.ref xq1, .int 0, .int (-1), .ref xq2, .ref xq6, .ref xq14, .ref xq22, .ref xq26, .ref xq31, .ref xq35, .int 0, .ref xq36, .int 0, .ref xq41, .ref xq44, .ref xq50, .ref xq59])), (xq36, .inr (0, [.int 0, .ref xq39, .ref xq40]))] (fun (r : Int32) (_ : Unit) => r = (-1)) (fun (_ : Unit) => []) := by
  refine KI.go rfl (Nat.le_of_ble_eq_true rfl) ?_
  intro p e s m args below meth c ls A Q hx hb hml hts hown hin hP hK hD hS hA hN hl hret
  have hl : lv_has ls 1 [(0, .ref xh)] := hl
  refine lv_aload_n hx hb dX9_judge_0 rfl (lv_at hl 0 rfl) ?_
  refine va_get (D := D) (ci := 9) (v := .ref xq36) (C := RX9) (T := TX9) (N := 17) hx hb hts iX9 hown hK hP 0 rfl rfl 11 (by decide) (hts _ wd_113) (fun _ h9 => h9) rfl dX9_judge_1 ?_
  refine lv_aload_n hx hb dX9_judge_4 rfl (lv_at hl 0 rfl) ?_
  refine va_get (D := D) (ci := 9) (v := .ref xq22) (C := RX9) (T := TX9) (N := 17) hx hb hts iX9 hown hK hP 0 rfl rfl 6 (by decide) (hts _ wd_96) (fun _ h9 => h9) rfl dX9_judge_5 ?_
  refine cVi (wr := [(xh, .inr (9, [.ref xq1, .int 0, .int (-1), .ref xq2, .ref xq6, .ref xq14, .ref xq22, .ref xq26, .ref xq31, .ref xq35, .int 0, .ref xq36, .int 0, .ref xq41, .ref xq44, .ref xq50, .ref xq59]))]) (rest := []) (k_firstWrong xq36 xq39 xq40 xq22) okV_X0_firstWrong wd_261 hx hb hml hown hts hK hP hD hS hA hN hl.1 [1] [0] rfl rfl rfl rfl (by decide) rfl rfl rfl (Nat.le_of_ble_eq_true rfl) (Nat.le_of_ble_eq_true rfl) (Nat.le_of_ble_eq_true rfl) (Nat.le_of_ble_eq_true rfl) (Nat.le_of_ble_eq_true rfl) dX9_judge_8 (fun r_2 u_1 H locs hw_u_1 hP hD hS => ?_)
  obtain rfl := hw_u_1
  have hP : va_P D classes [(xh, .inr (9, [.ref xq1, .int 0, .int (-1), .ref xq2, .ref xq6, .ref xq14, .ref xq22, .ref xq26, .ref xq31, .ref xq35, .int 0, .ref xq36, .int 0, .ref xq41, .ref xq44, .ref xq50, .ref xq59])), (xq36, .inr (0, [.int 0, .ref xq39, .ref xq40]))] H := hP
  have hD : va_D A [(xh, .inr (9, [.ref xq1, .int 0, .int (-1), .ref xq2, .ref xq6, .ref xq14, .ref xq22, .ref xq26, .ref xq31, .ref xq35, .int 0, .ref xq36, .int 0, .ref xq41, .ref xq44, .ref xq50, .ref xq59])), (xq36, .inr (0, [.int 0, .ref xq39, .ref xq40]))] := hD
  exact hret (-1) () _ _ _ _ dX9_judge_11 rfl rfl (cutP (isC := []) hP rfl) (cutD (isC := []) hD rfl rfl) hS
def rm_k_x_seed : Room := { frames := 0, cells := 0, slots := 0, locals := 0 }
set_option maxHeartbeats 4000000 in
set_option maxRecDepth 100000 in
theorem k_x_seed {l : Launch} {D : va_G} {cI cZ : ClassId} {sz : Nat} (xh xq1 xq2 xq6 xq14 xq22 xq26 xq31 xq35 xq36 xq41 xq44 xq50 xq59 : Nat) (v : Int32) : KI l yX9_seed cX9_seed 3 (some .int) rm_k_x_seed D cI cZ [.ref xh, .int v] sz [(xh, .inr (9, [.ref xq1, .int 0, .int (-1), .ref xq2, .ref xq6, .ref xq14, .ref xq22, .ref xq26, .ref xq31, .ref xq35, .int 0, .ref xq36, .int 0, .ref xq41, .ref xq44, .ref xq50, .ref xq59]))] (fun (r : Int32) (_ : Unit) => r = seedS v) (fun (_ : Unit) => []) := by
  refine KI.go rfl (Nat.le_of_ble_eq_true rfl) ?_
  intro p e s m args below meth c ls A Q hx hb hml hts hown hin hP hK hD hS hA hN hl hret
  have hl : lv_has ls 3 [(0, .ref xh), (1, .int v)] := hl
  refine lv_iload_n hx hb dX9_seed_0 rfl (lv_at hl 1 rfl) ?_
  refine lv_if_ge (tgt := 7) hx hb dX9_seed_1 (by decide) (fun c_1 => ?_) (fun c_1 => ?_)
  · refine lv_aload_n hx hb dX9_seed_7 rfl (lv_at hl 0 rfl) ?_
    refine va_get (D := D) (ci := 9) (v := .int 0) (C := RX9) (T := TX9) (N := 17) hx hb hts iX9 hown hK hP 0 rfl rfl 12 (by decide) (hts _ wd_114) (fun _ h9 => h9) rfl dX9_seed_8 ?_
    refine lv_istore_n (lv' := [(2, .int 0), (0, .ref xh), (1, .int v)]) hx hb dX9_seed_11 rfl hl (by decide) rfl (fun ls hl => ?_)
    refine lv_aload_n hx hb dX9_seed_12 rfl (lv_at hl 1 rfl) ?_
    refine lv_iload_n hx hb dX9_seed_13 rfl (lv_at hl 2 rfl) ?_
    refine va_put (D := D) (ci := 9) (v := .int v) (ty := .int) (C := RX9) (T := TX9) (N := 17) hx hb hts iX9 tyX9 tyX9_ok nmX9 hown hK hP hD hS 0 rfl rfl 12 (by decide) (hts _ wd_114) (fun _ h9 => h9) rfl (by decide +kernel) rfl rfl (Nat.le_of_ble_eq_true rfl) dX9_seed_14 (fun H locs hP hD hS => ?_)
    have hP : va_P D classes [(xh, .inr (9, [.ref xq1, .int 0, .int (-1), .ref xq2, .ref xq6, .ref xq14, .ref xq22, .ref xq26, .ref xq31, .ref xq35, .int 0, .ref xq36, .int v, .ref xq41, .ref xq44, .ref xq50, .ref xq59]))] H := hP
    have hD : va_D A [(xh, .inr (9, [.ref xq1, .int 0, .int (-1), .ref xq2, .ref xq6, .ref xq14, .ref xq22, .ref xq26, .ref xq31, .ref xq35, .int 0, .ref xq36, .int v, .ref xq41, .ref xq44, .ref xq50, .ref xq59]))] := hD
    refine lv_iload_n hx hb dX9_seed_17 rfl (lv_at hl 0 rfl) ?_
    exact hret 0 () _ _ _ _ dX9_seed_18 rfl (if_neg (Int32.not_lt.mpr c_1)).symm (cutP (isC := []) hP rfl) (cutD (isC := []) hD rfl rfl) hS
  · refine lv_ldc (v := (-1000000002)) hx hb hown (hts _ wd_191) dX9_seed_4 ?_
    exact hret (-1000000002) () _ _ _ _ dX9_seed_6 rfl (if_pos (Int32.not_le.mp c_1)).symm (cutP (isC := []) hP rfl) (cutD (isC := []) hD rfl rfl) hS
def rm_k_x_keep : Room := { frames := 2, cells := 0, slots := 0, locals := 82 }
set_option maxHeartbeats 4000000 in
set_option maxRecDepth 100000 in
theorem k_x_keep {l : Launch} {D : va_G} {cI cZ : ClassId} {sz : Nat} (xh xq1 xq2 xq6 xq14 xq22 xq26 xq31 xq35 xq36 xq41 xq44 xq50 xq59 xu32 xu23 xq29 : Nat) (v : Int32) : KI l yX9_keep cX9_keep 2 (some .int) rm_k_x_keep D cI cZ [.ref xh, .int v] sz [(xh, .inr (9, [.ref xq1, .int 0, .int (-1), .ref xq2, .ref xq6, .ref xq14, .ref xq22, .ref xq26, .ref xq31, .ref xq35, .int 0, .ref xq36, .int 0, .ref xq41, .ref xq44, .ref xq50, .ref xq59])), (xq31, .inr (6, [.int 2, .ref xu32])), (xu32, .inl (cI, 82, .inl z0)), (xq22, .inr (7, [.ref xu23])), (xu23, .inl (cI, 41, .inl (cB2 z0 7))), (xq35, .inl (cI, 2, .inl z0)), (xq26, .inr (2, [.ref xq29, .int 0, .int 0]))] (fun (r : Int32) (_ : Unit) => r = rg 0 1 v (-1000000001) 1) (fun (_ : Unit) => []) := by
  refine KI.go rfl (Nat.le_of_ble_eq_true rfl) ?_
  intro p e s m args below meth c ls A Q hx hb hml hts hown hin hP hK hD hS hA hN hl hret
  have hl : lv_has ls 2 [(0, .ref xh), (1, .int v)] := hl
  refine lv_iload_n hx hb dX9_keep_0 rfl (lv_at hl 1 rfl) ?_
  refine lv_if_lt (tgt := 9) hx hb dX9_keep_1 (by decide) (fun c_1 => ?_) (fun c_1 => ?_)
  · refine lv_ldc (v := (-1000000001)) hx hb hown (hts _ wd_233) dX9_keep_9 ?_
    exact hret (-1000000001) () _ _ _ _ dX9_keep_11 rfl (rg_lo c_1) (cutP (isC := []) hP rfl) (cutD (isC := []) hD rfl rfl) hS
  · refine lv_iload_n hx hb dX9_keep_4 rfl (lv_at hl 1 rfl) ?_
    refine lv_iconst (v := 2) hx hb dX9_keep_5 (by decide) ?_
    refine lv_icmp_lt (tgt := 12) hx hb dX9_keep_6 (by decide) (fun c_2 => ?_) (fun c_2 => ?_)
    · rcases two_of c_1 (le1_of c_2) with rfl | rfl
      · have hl : lv_has ls 2 [(0, .ref xh), (1, .int 0)] := hl
        refine lv_aload_n hx hb dX9_keep_12 rfl (lv_at hl 0 rfl) ?_
        refine va_get (D := D) (ci := 9) (v := .ref xq31) (C := RX9) (T := TX9) (N := 17) hx hb hts iX9 hown hK hP 0 rfl rfl 8 (by decide) (hts _ wd_105) (fun _ h9 => h9) rfl dX9_keep_13 ?_
        refine lv_iload_n hx hb dX9_keep_16 rfl (lv_at hl 1 rfl) ?_
        refine lv_aload_n hx hb dX9_keep_17 rfl (lv_at hl 0 rfl) ?_
        refine va_get (D := D) (ci := 9) (v := .ref xq22) (C := RX9) (T := TX9) (N := 17) hx hb hts iX9 hown hK hP 0 rfl rfl 6 (by decide) (hts _ wd_96) (fun _ h9 => h9) rfl dX9_keep_18 ?_
        refine cVv (wr := [(xh, .inr (9, [.ref xq1, .int 0, .int (-1), .ref xq2, .ref xq6, .ref xq14, .ref xq22, .ref xq26, .ref xq31, .ref xq35, .int 0, .ref xq36, .int 0, .ref xq41, .ref xq44, .ref xq50, .ref xq59])), (xq35, .inl (cI, 2, .inl z0)), (xq26, .inr (2, [.ref xq29, .int 0, .int 0]))]) (rest := []) (k_store0 xq31 xu32 xq22 xu23 (cB2 z0 7)) okV_X6_store wd_265 hx hb hml hown hts hK hP hD hS hA hN hl.1 [1, 2, 3, 4] [0, 5, 6] rfl rfl rfl rfl (by decide) rfl rfl rfl (Nat.le_of_ble_eq_true rfl) (Nat.le_of_ble_eq_true rfl) (Nat.le_of_ble_eq_true rfl) (Nat.le_of_ble_eq_true rfl) (Nat.le_of_ble_eq_true rfl) dX9_keep_21 (fun u_3 H locs hw_u_3 hP hD hS => ?_)
        have hP : va_P D classes [(xh, .inr (9, [.ref xq1, .int 0, .int (-1), .ref xq2, .ref xq6, .ref xq14, .ref xq22, .ref xq26, .ref xq31, .ref xq35, .int 0, .ref xq36, .int 0, .ref xq41, .ref xq44, .ref xq50, .ref xq59])), (xq35, .inl (cI, 2, .inl z0)), (xq26, .inr (2, [.ref xq29, .int 0, .int 0])), (xq31, .inr (6, [.int 2, .ref xu32])), (xu32, .inl (cI, 82, .inl (va_cpy (cB2 z0 7) z0 (0 : Int32).toNatClampNeg (0 : Int32).toNatClampNeg (41 : Int32).toNatClampNeg))), (xq22, .inr (7, [.ref xu23])), (xu23, .inl (cI, 41, .inl (cB2 z0 7)))] H := hP
        have hD : va_D A [(xh, .inr (9, [.ref xq1, .int 0, .int (-1), .ref xq2, .ref xq6, .ref xq14, .ref xq22, .ref xq26, .ref xq31, .ref xq35, .int 0, .ref xq36, .int 0, .ref xq41, .ref xq44, .ref xq50, .ref xq59])), (xq35, .inl (cI, 2, .inl z0)), (xq26, .inr (2, [.ref xq29, .int 0, .int 0])), (xq31, .inr (6, [.int 2, .ref xu32])), (xu32, .inl (cI, 82, .inl (va_cpy (cB2 z0 7) z0 (0 : Int32).toNatClampNeg (0 : Int32).toNatClampNeg (41 : Int32).toNatClampNeg))), (xq22, .inr (7, [.ref xu23])), (xu23, .inl (cI, 41, .inl (cB2 z0 7)))] := hD
        refine lv_aload_n hx hb dX9_keep_24 rfl (lv_at hl 0 rfl) ?_
        refine va_get (D := D) (ci := 9) (v := .ref xq35) (C := RX9) (T := TX9) (N := 17) hx hb hts iX9 hown hK hP 0 rfl rfl 9 (by decide) (hts _ wd_106) (fun _ h9 => h9) rfl dX9_keep_25 ?_
        refine lv_iload_n hx hb dX9_keep_28 rfl (lv_at hl 1 rfl) ?_
        refine lv_aload_n hx hb dX9_keep_29 rfl (lv_at hl 0 rfl) ?_
        refine va_get (D := D) (ci := 9) (v := .int 0) (C := RX9) (T := TX9) (N := 17) hx hb hts iX9 hown hK hP 0 rfl rfl 12 (by decide) (hts _ wd_114) (fun _ h9 => h9) rfl dX9_keep_30 ?_
        refine cSv (wr := [(xh, .inr (9, [.ref xq1, .int 0, .int (-1), .ref xq2, .ref xq6, .ref xq14, .ref xq22, .ref xq26, .ref xq31, .ref xq35, .int 0, .ref xq36, .int 0, .ref xq41, .ref xq44, .ref xq50, .ref xq59])), (xq26, .inr (2, [.ref xq29, .int 0, .int 0])), (xq31, .inr (6, [.int 2, .ref xu32])), (xu32, .inl (cI, 82, .inl (va_cpy (cB2 z0 7) z0 (0 : Int32).toNatClampNeg (0 : Int32).toNatClampNeg (41 : Int32).toNatClampNeg))), (xq22, .inr (7, [.ref xu23])), (xu23, .inl (cI, 41, .inl (cB2 z0 7)))]) (rest := []) (k_put xq35 2 z0 0 0 (by decide)) okS_X9_put wd_192 hx hb hml hown hts hK hP hD hS hA hN hl.1 [1] [0, 2, 3, 4, 5, 6] rfl rfl rfl rfl (by decide) rfl (Nat.le_of_ble_eq_true rfl) (Nat.le_of_ble_eq_true rfl) (Nat.le_of_ble_eq_true rfl) (Nat.le_of_ble_eq_true rfl) (Nat.le_of_ble_eq_true rfl) dX9_keep_33 (fun u_5 H locs hw_u_5 hP hD hS => ?_)
        have hP : va_P D classes [(xh, .inr (9, [.ref xq1, .int 0, .int (-1), .ref xq2, .ref xq6, .ref xq14, .ref xq22, .ref xq26, .ref xq31, .ref xq35, .int 0, .ref xq36, .int 0, .ref xq41, .ref xq44, .ref xq50, .ref xq59])), (xq26, .inr (2, [.ref xq29, .int 0, .int 0])), (xq31, .inr (6, [.int 2, .ref xu32])), (xu32, .inl (cI, 82, .inl (va_cpy (cB2 z0 7) z0 (0 : Int32).toNatClampNeg (0 : Int32).toNatClampNeg (41 : Int32).toNatClampNeg))), (xq22, .inr (7, [.ref xu23])), (xu23, .inl (cI, 41, .inl (cB2 z0 7))), (xq35, .inl (cI, 2, .inl (putF 2 z0 0 0)))] H := hP
        have hD : va_D A [(xh, .inr (9, [.ref xq1, .int 0, .int (-1), .ref xq2, .ref xq6, .ref xq14, .ref xq22, .ref xq26, .ref xq31, .ref xq35, .int 0, .ref xq36, .int 0, .ref xq41, .ref xq44, .ref xq50, .ref xq59])), (xq26, .inr (2, [.ref xq29, .int 0, .int 0])), (xq31, .inr (6, [.int 2, .ref xu32])), (xu32, .inl (cI, 82, .inl (va_cpy (cB2 z0 7) z0 (0 : Int32).toNatClampNeg (0 : Int32).toNatClampNeg (41 : Int32).toNatClampNeg))), (xq22, .inr (7, [.ref xu23])), (xu23, .inl (cI, 41, .inl (cB2 z0 7))), (xq35, .inl (cI, 2, .inl (putF 2 z0 0 0)))] := hD
        refine lv_aload_n hx hb dX9_keep_36 rfl (lv_at hl 0 rfl) ?_
        refine lv_dup hx hb dX9_keep_37 rfl ?_
        refine va_get (D := D) (ci := 9) (v := .int 0) (C := RX9) (T := TX9) (N := 17) hx hb hts iX9 hown hK hP 0 rfl rfl 10 (by decide) (hts _ wd_107) (fun _ h9 => h9) rfl dX9_keep_38 ?_
        refine lv_iconst (v := 1) hx hb dX9_keep_41 (by decide) ?_
        refine lv_iload_n hx hb dX9_keep_42 rfl (lv_at hl 1 rfl) ?_
        refine lv_ishl hx hb dX9_keep_43 ?_
        refine lv_topi (fun z_7 ez_7 => ?_)
        obtain rfl : z_7 = 1 := ez_7.trans (by decide +kernel)
        refine lv_ior hx hb dX9_keep_44 ?_
        refine lv_topi (fun z_8 ez_8 => ?_)
        obtain rfl : z_8 = 1 := ez_8.trans (by decide +kernel)
        refine va_put (D := D) (ci := 9) (v := .int 1) (ty := .int) (C := RX9) (T := TX9) (N := 17) hx hb hts iX9 tyX9 tyX9_ok nmX9 hown hK hP hD hS 0 rfl rfl 10 (by decide) (hts _ wd_107) (fun _ h9 => h9) rfl (by decide +kernel) rfl rfl (Nat.le_of_ble_eq_true rfl) dX9_keep_45 (fun H locs hP hD hS => ?_)
        have hP : va_P D classes [(xh, .inr (9, [.ref xq1, .int 0, .int (-1), .ref xq2, .ref xq6, .ref xq14, .ref xq22, .ref xq26, .ref xq31, .ref xq35, .int 1, .ref xq36, .int 0, .ref xq41, .ref xq44, .ref xq50, .ref xq59])), (xq26, .inr (2, [.ref xq29, .int 0, .int 0])), (xq31, .inr (6, [.int 2, .ref xu32])), (xu32, .inl (cI, 82, .inl (va_cpy (cB2 z0 7) z0 (0 : Int32).toNatClampNeg (0 : Int32).toNatClampNeg (41 : Int32).toNatClampNeg))), (xq22, .inr (7, [.ref xu23])), (xu23, .inl (cI, 41, .inl (cB2 z0 7))), (xq35, .inl (cI, 2, .inl (putF 2 z0 0 0)))] H := hP
        have hD : va_D A [(xh, .inr (9, [.ref xq1, .int 0, .int (-1), .ref xq2, .ref xq6, .ref xq14, .ref xq22, .ref xq26, .ref xq31, .ref xq35, .int 1, .ref xq36, .int 0, .ref xq41, .ref xq44, .ref xq50, .ref xq59])), (xq26, .inr (2, [.ref xq29, .int 0, .int 0])), (xq31, .inr (6, [.int 2, .ref xu32])), (xu32, .inl (cI, 82, .inl (va_cpy (cB2 z0 7) z0 (0 : Int32).toNatClampNeg (0 : Int32).toNatClampNeg (41 : Int32).toNatClampNeg))), (xq22, .inr (7, [.ref xu23])), (xu23, .inl (cI, 41, .inl (cB2 z0 7))), (xq35, .inl (cI, 2, .inl (putF 2 z0 0 0)))] := hD
        refine lv_aload_n hx hb dX9_keep_48 rfl (lv_at hl 0 rfl) ?_
        refine va_get (D := D) (ci := 9) (v := .ref xq26) (C := RX9) (T := TX9) (N := 17) hx hb hts iX9 hown hK hP 0 rfl rfl 7 (by decide) (hts _ wd_102) (fun _ h9 => h9) rfl dX9_keep_49 ?_
        refine cVv (wr := [(xh, .inr (9, [.ref xq1, .int 0, .int (-1), .ref xq2, .ref xq6, .ref xq14, .ref xq22, .ref xq26, .ref xq31, .ref xq35, .int 1, .ref xq36, .int 0, .ref xq41, .ref xq44, .ref xq50, .ref xq59])), (xq31, .inr (6, [.int 2, .ref xu32])), (xu32, .inl (cI, 82, .inl (va_cpy (cB2 z0 7) z0 (0 : Int32).toNatClampNeg (0 : Int32).toNatClampNeg (41 : Int32).toNatClampNeg))), (xq22, .inr (7, [.ref xu23])), (xu23, .inl (cI, 41, .inl (cB2 z0 7))), (xq35, .inl (cI, 2, .inl (putF 2 z0 0 0)))]) (rest := []) (k_forget xq26 0 0 xq29) okV_X2_forget wd_204 hx hb hml hown hts hK hP hD hS hA hN hl.1 [1] [0, 2, 3, 4, 5, 6] rfl rfl rfl rfl (by decide) rfl rfl rfl (Nat.le_of_ble_eq_true rfl) (Nat.le_of_ble_eq_true rfl) (Nat.le_of_ble_eq_true rfl) (Nat.le_of_ble_eq_true rfl) (Nat.le_of_ble_eq_true rfl) dX9_keep_52 (fun u_9 H locs hw_u_9 hP hD hS => ?_)
        have hP : va_P D classes [(xh, .inr (9, [.ref xq1, .int 0, .int (-1), .ref xq2, .ref xq6, .ref xq14, .ref xq22, .ref xq26, .ref xq31, .ref xq35, .int 1, .ref xq36, .int 0, .ref xq41, .ref xq44, .ref xq50, .ref xq59])), (xq31, .inr (6, [.int 2, .ref xu32])), (xu32, .inl (cI, 82, .inl (va_cpy (cB2 z0 7) z0 (0 : Int32).toNatClampNeg (0 : Int32).toNatClampNeg (41 : Int32).toNatClampNeg))), (xq22, .inr (7, [.ref xu23])), (xu23, .inl (cI, 41, .inl (cB2 z0 7))), (xq35, .inl (cI, 2, .inl (putF 2 z0 0 0))), (xq26, .inr (2, [.ref xq29, .int 0, .int 0]))] H := hP
        have hD : va_D A [(xh, .inr (9, [.ref xq1, .int 0, .int (-1), .ref xq2, .ref xq6, .ref xq14, .ref xq22, .ref xq26, .ref xq31, .ref xq35, .int 1, .ref xq36, .int 0, .ref xq41, .ref xq44, .ref xq50, .ref xq59])), (xq31, .inr (6, [.int 2, .ref xu32])), (xu32, .inl (cI, 82, .inl (va_cpy (cB2 z0 7) z0 (0 : Int32).toNatClampNeg (0 : Int32).toNatClampNeg (41 : Int32).toNatClampNeg))), (xq22, .inr (7, [.ref xu23])), (xu23, .inl (cI, 41, .inl (cB2 z0 7))), (xq35, .inl (cI, 2, .inl (putF 2 z0 0 0))), (xq26, .inr (2, [.ref xq29, .int 0, .int 0]))] := hD
        refine lv_iconst (v := 1) hx hb dX9_keep_55 (by decide) ?_
        exact hret 1 () _ _ _ _ dX9_keep_56 rfl (by decide +kernel) (cutP (isC := []) hP rfl) (cutD (isC := []) hD rfl rfl) hS
      · have hl : lv_has ls 2 [(0, .ref xh), (1, .int 1)] := hl
        refine lv_aload_n hx hb dX9_keep_12 rfl (lv_at hl 0 rfl) ?_
        refine va_get (D := D) (ci := 9) (v := .ref xq31) (C := RX9) (T := TX9) (N := 17) hx hb hts iX9 hown hK hP 0 rfl rfl 8 (by decide) (hts _ wd_105) (fun _ h9 => h9) rfl dX9_keep_13 ?_
        refine lv_iload_n hx hb dX9_keep_16 rfl (lv_at hl 1 rfl) ?_
        refine lv_aload_n hx hb dX9_keep_17 rfl (lv_at hl 0 rfl) ?_
        refine va_get (D := D) (ci := 9) (v := .ref xq22) (C := RX9) (T := TX9) (N := 17) hx hb hts iX9 hown hK hP 0 rfl rfl 6 (by decide) (hts _ wd_96) (fun _ h9 => h9) rfl dX9_keep_18 ?_
        refine cVv (wr := [(xh, .inr (9, [.ref xq1, .int 0, .int (-1), .ref xq2, .ref xq6, .ref xq14, .ref xq22, .ref xq26, .ref xq31, .ref xq35, .int 0, .ref xq36, .int 0, .ref xq41, .ref xq44, .ref xq50, .ref xq59])), (xq35, .inl (cI, 2, .inl z0)), (xq26, .inr (2, [.ref xq29, .int 0, .int 0]))]) (rest := []) (k_store1 xq31 xu32 xq22 xu23 (cB2 z0 7)) okV_X6_store wd_265 hx hb hml hown hts hK hP hD hS hA hN hl.1 [1, 2, 3, 4] [0, 5, 6] rfl rfl rfl rfl (by decide) rfl rfl rfl (Nat.le_of_ble_eq_true rfl) (Nat.le_of_ble_eq_true rfl) (Nat.le_of_ble_eq_true rfl) (Nat.le_of_ble_eq_true rfl) (Nat.le_of_ble_eq_true rfl) dX9_keep_21 (fun u_11 H locs hw_u_11 hP hD hS => ?_)
        have hP : va_P D classes [(xh, .inr (9, [.ref xq1, .int 0, .int (-1), .ref xq2, .ref xq6, .ref xq14, .ref xq22, .ref xq26, .ref xq31, .ref xq35, .int 0, .ref xq36, .int 0, .ref xq41, .ref xq44, .ref xq50, .ref xq59])), (xq35, .inl (cI, 2, .inl z0)), (xq26, .inr (2, [.ref xq29, .int 0, .int 0])), (xq31, .inr (6, [.int 2, .ref xu32])), (xu32, .inl (cI, 82, .inl (va_cpy (cB2 z0 7) z0 (0 : Int32).toNatClampNeg (41 : Int32).toNatClampNeg (41 : Int32).toNatClampNeg))), (xq22, .inr (7, [.ref xu23])), (xu23, .inl (cI, 41, .inl (cB2 z0 7)))] H := hP
        have hD : va_D A [(xh, .inr (9, [.ref xq1, .int 0, .int (-1), .ref xq2, .ref xq6, .ref xq14, .ref xq22, .ref xq26, .ref xq31, .ref xq35, .int 0, .ref xq36, .int 0, .ref xq41, .ref xq44, .ref xq50, .ref xq59])), (xq35, .inl (cI, 2, .inl z0)), (xq26, .inr (2, [.ref xq29, .int 0, .int 0])), (xq31, .inr (6, [.int 2, .ref xu32])), (xu32, .inl (cI, 82, .inl (va_cpy (cB2 z0 7) z0 (0 : Int32).toNatClampNeg (41 : Int32).toNatClampNeg (41 : Int32).toNatClampNeg))), (xq22, .inr (7, [.ref xu23])), (xu23, .inl (cI, 41, .inl (cB2 z0 7)))] := hD
        refine lv_aload_n hx hb dX9_keep_24 rfl (lv_at hl 0 rfl) ?_
        refine va_get (D := D) (ci := 9) (v := .ref xq35) (C := RX9) (T := TX9) (N := 17) hx hb hts iX9 hown hK hP 0 rfl rfl 9 (by decide) (hts _ wd_106) (fun _ h9 => h9) rfl dX9_keep_25 ?_
        refine lv_iload_n hx hb dX9_keep_28 rfl (lv_at hl 1 rfl) ?_
        refine lv_aload_n hx hb dX9_keep_29 rfl (lv_at hl 0 rfl) ?_
        refine va_get (D := D) (ci := 9) (v := .int 0) (C := RX9) (T := TX9) (N := 17) hx hb hts iX9 hown hK hP 0 rfl rfl 12 (by decide) (hts _ wd_114) (fun _ h9 => h9) rfl dX9_keep_30 ?_
        refine cSv (wr := [(xh, .inr (9, [.ref xq1, .int 0, .int (-1), .ref xq2, .ref xq6, .ref xq14, .ref xq22, .ref xq26, .ref xq31, .ref xq35, .int 0, .ref xq36, .int 0, .ref xq41, .ref xq44, .ref xq50, .ref xq59])), (xq26, .inr (2, [.ref xq29, .int 0, .int 0])), (xq31, .inr (6, [.int 2, .ref xu32])), (xu32, .inl (cI, 82, .inl (va_cpy (cB2 z0 7) z0 (0 : Int32).toNatClampNeg (41 : Int32).toNatClampNeg (41 : Int32).toNatClampNeg))), (xq22, .inr (7, [.ref xu23])), (xu23, .inl (cI, 41, .inl (cB2 z0 7)))]) (rest := []) (k_put xq35 2 z0 1 0 (by decide)) okS_X9_put wd_192 hx hb hml hown hts hK hP hD hS hA hN hl.1 [1] [0, 2, 3, 4, 5, 6] rfl rfl rfl rfl (by decide) rfl (Nat.le_of_ble_eq_true rfl) (Nat.le_of_ble_eq_true rfl) (Nat.le_of_ble_eq_true rfl) (Nat.le_of_ble_eq_true rfl) (Nat.le_of_ble_eq_true rfl) dX9_keep_33 (fun u_13 H locs hw_u_13 hP hD hS => ?_)
        have hP : va_P D classes [(xh, .inr (9, [.ref xq1, .int 0, .int (-1), .ref xq2, .ref xq6, .ref xq14, .ref xq22, .ref xq26, .ref xq31, .ref xq35, .int 0, .ref xq36, .int 0, .ref xq41, .ref xq44, .ref xq50, .ref xq59])), (xq26, .inr (2, [.ref xq29, .int 0, .int 0])), (xq31, .inr (6, [.int 2, .ref xu32])), (xu32, .inl (cI, 82, .inl (va_cpy (cB2 z0 7) z0 (0 : Int32).toNatClampNeg (41 : Int32).toNatClampNeg (41 : Int32).toNatClampNeg))), (xq22, .inr (7, [.ref xu23])), (xu23, .inl (cI, 41, .inl (cB2 z0 7))), (xq35, .inl (cI, 2, .inl (putF 2 z0 1 0)))] H := hP
        have hD : va_D A [(xh, .inr (9, [.ref xq1, .int 0, .int (-1), .ref xq2, .ref xq6, .ref xq14, .ref xq22, .ref xq26, .ref xq31, .ref xq35, .int 0, .ref xq36, .int 0, .ref xq41, .ref xq44, .ref xq50, .ref xq59])), (xq26, .inr (2, [.ref xq29, .int 0, .int 0])), (xq31, .inr (6, [.int 2, .ref xu32])), (xu32, .inl (cI, 82, .inl (va_cpy (cB2 z0 7) z0 (0 : Int32).toNatClampNeg (41 : Int32).toNatClampNeg (41 : Int32).toNatClampNeg))), (xq22, .inr (7, [.ref xu23])), (xu23, .inl (cI, 41, .inl (cB2 z0 7))), (xq35, .inl (cI, 2, .inl (putF 2 z0 1 0)))] := hD
        refine lv_aload_n hx hb dX9_keep_36 rfl (lv_at hl 0 rfl) ?_
        refine lv_dup hx hb dX9_keep_37 rfl ?_
        refine va_get (D := D) (ci := 9) (v := .int 0) (C := RX9) (T := TX9) (N := 17) hx hb hts iX9 hown hK hP 0 rfl rfl 10 (by decide) (hts _ wd_107) (fun _ h9 => h9) rfl dX9_keep_38 ?_
        refine lv_iconst (v := 1) hx hb dX9_keep_41 (by decide) ?_
        refine lv_iload_n hx hb dX9_keep_42 rfl (lv_at hl 1 rfl) ?_
        refine lv_ishl hx hb dX9_keep_43 ?_
        refine lv_topi (fun z_15 ez_15 => ?_)
        obtain rfl : z_15 = 2 := ez_15.trans (by decide +kernel)
        refine lv_ior hx hb dX9_keep_44 ?_
        refine lv_topi (fun z_16 ez_16 => ?_)
        obtain rfl : z_16 = 2 := ez_16.trans (by decide +kernel)
        refine va_put (D := D) (ci := 9) (v := .int 2) (ty := .int) (C := RX9) (T := TX9) (N := 17) hx hb hts iX9 tyX9 tyX9_ok nmX9 hown hK hP hD hS 0 rfl rfl 10 (by decide) (hts _ wd_107) (fun _ h9 => h9) rfl (by decide +kernel) rfl rfl (Nat.le_of_ble_eq_true rfl) dX9_keep_45 (fun H locs hP hD hS => ?_)
        have hP : va_P D classes [(xh, .inr (9, [.ref xq1, .int 0, .int (-1), .ref xq2, .ref xq6, .ref xq14, .ref xq22, .ref xq26, .ref xq31, .ref xq35, .int 2, .ref xq36, .int 0, .ref xq41, .ref xq44, .ref xq50, .ref xq59])), (xq26, .inr (2, [.ref xq29, .int 0, .int 0])), (xq31, .inr (6, [.int 2, .ref xu32])), (xu32, .inl (cI, 82, .inl (va_cpy (cB2 z0 7) z0 (0 : Int32).toNatClampNeg (41 : Int32).toNatClampNeg (41 : Int32).toNatClampNeg))), (xq22, .inr (7, [.ref xu23])), (xu23, .inl (cI, 41, .inl (cB2 z0 7))), (xq35, .inl (cI, 2, .inl (putF 2 z0 1 0)))] H := hP
        have hD : va_D A [(xh, .inr (9, [.ref xq1, .int 0, .int (-1), .ref xq2, .ref xq6, .ref xq14, .ref xq22, .ref xq26, .ref xq31, .ref xq35, .int 2, .ref xq36, .int 0, .ref xq41, .ref xq44, .ref xq50, .ref xq59])), (xq26, .inr (2, [.ref xq29, .int 0, .int 0])), (xq31, .inr (6, [.int 2, .ref xu32])), (xu32, .inl (cI, 82, .inl (va_cpy (cB2 z0 7) z0 (0 : Int32).toNatClampNeg (41 : Int32).toNatClampNeg (41 : Int32).toNatClampNeg))), (xq22, .inr (7, [.ref xu23])), (xu23, .inl (cI, 41, .inl (cB2 z0 7))), (xq35, .inl (cI, 2, .inl (putF 2 z0 1 0)))] := hD
        refine lv_aload_n hx hb dX9_keep_48 rfl (lv_at hl 0 rfl) ?_
        refine va_get (D := D) (ci := 9) (v := .ref xq26) (C := RX9) (T := TX9) (N := 17) hx hb hts iX9 hown hK hP 0 rfl rfl 7 (by decide) (hts _ wd_102) (fun _ h9 => h9) rfl dX9_keep_49 ?_
        refine cVv (wr := [(xh, .inr (9, [.ref xq1, .int 0, .int (-1), .ref xq2, .ref xq6, .ref xq14, .ref xq22, .ref xq26, .ref xq31, .ref xq35, .int 2, .ref xq36, .int 0, .ref xq41, .ref xq44, .ref xq50, .ref xq59])), (xq31, .inr (6, [.int 2, .ref xu32])), (xu32, .inl (cI, 82, .inl (va_cpy (cB2 z0 7) z0 (0 : Int32).toNatClampNeg (41 : Int32).toNatClampNeg (41 : Int32).toNatClampNeg))), (xq22, .inr (7, [.ref xu23])), (xu23, .inl (cI, 41, .inl (cB2 z0 7))), (xq35, .inl (cI, 2, .inl (putF 2 z0 1 0)))]) (rest := []) (k_forget xq26 0 0 xq29) okV_X2_forget wd_204 hx hb hml hown hts hK hP hD hS hA hN hl.1 [1] [0, 2, 3, 4, 5, 6] rfl rfl rfl rfl (by decide) rfl rfl rfl (Nat.le_of_ble_eq_true rfl) (Nat.le_of_ble_eq_true rfl) (Nat.le_of_ble_eq_true rfl) (Nat.le_of_ble_eq_true rfl) (Nat.le_of_ble_eq_true rfl) dX9_keep_52 (fun u_17 H locs hw_u_17 hP hD hS => ?_)
        have hP : va_P D classes [(xh, .inr (9, [.ref xq1, .int 0, .int (-1), .ref xq2, .ref xq6, .ref xq14, .ref xq22, .ref xq26, .ref xq31, .ref xq35, .int 2, .ref xq36, .int 0, .ref xq41, .ref xq44, .ref xq50, .ref xq59])), (xq31, .inr (6, [.int 2, .ref xu32])), (xu32, .inl (cI, 82, .inl (va_cpy (cB2 z0 7) z0 (0 : Int32).toNatClampNeg (41 : Int32).toNatClampNeg (41 : Int32).toNatClampNeg))), (xq22, .inr (7, [.ref xu23])), (xu23, .inl (cI, 41, .inl (cB2 z0 7))), (xq35, .inl (cI, 2, .inl (putF 2 z0 1 0))), (xq26, .inr (2, [.ref xq29, .int 0, .int 0]))] H := hP
        have hD : va_D A [(xh, .inr (9, [.ref xq1, .int 0, .int (-1), .ref xq2, .ref xq6, .ref xq14, .ref xq22, .ref xq26, .ref xq31, .ref xq35, .int 2, .ref xq36, .int 0, .ref xq41, .ref xq44, .ref xq50, .ref xq59])), (xq31, .inr (6, [.int 2, .ref xu32])), (xu32, .inl (cI, 82, .inl (va_cpy (cB2 z0 7) z0 (0 : Int32).toNatClampNeg (41 : Int32).toNatClampNeg (41 : Int32).toNatClampNeg))), (xq22, .inr (7, [.ref xu23])), (xu23, .inl (cI, 41, .inl (cB2 z0 7))), (xq35, .inl (cI, 2, .inl (putF 2 z0 1 0))), (xq26, .inr (2, [.ref xq29, .int 0, .int 0]))] := hD
        refine lv_iconst (v := 1) hx hb dX9_keep_55 (by decide) ?_
        exact hret 1 () _ _ _ _ dX9_keep_56 rfl (by decide +kernel) (cutP (isC := []) hP rfl) (cutD (isC := []) hD rfl rfl) hS
    · refine lv_ldc (v := (-1000000001)) hx hb hown (hts _ wd_233) dX9_keep_9 ?_
      exact hret (-1000000001) () _ _ _ _ dX9_keep_11 rfl (rg_hi (fun h => c_2 (Int32.lt_of_le_of_lt h (by decide)))) (cutP (isC := []) hP rfl) (cutD (isC := []) hD rfl rfl) hS
def rm_k_x_goBack : Room := { frames := 0, cells := 0, slots := 0, locals := 0 }
set_option maxHeartbeats 4000000 in
set_option maxRecDepth 100000 in
theorem k_x_goBack {l : Launch} {D : va_G} {cI cZ : ClassId} {sz : Nat} (xh xq1 xq2 xq6 xq14 xq22 xq26 xq31 xq35 xq36 xq41 xq44 xq50 xq59 : Nat) (v : Int32) : KI l yX9_goBack cX9_goBack 2 (some .int) rm_k_x_goBack D cI cZ [.ref xh, .int v] sz [(xh, .inr (9, [.ref xq1, .int 0, .int (-1), .ref xq2, .ref xq6, .ref xq14, .ref xq22, .ref xq26, .ref xq31, .ref xq35, .int 0, .ref xq36, .int 0, .ref xq41, .ref xq44, .ref xq50, .ref xq59]))] (fun (r : Int32) (_ : Unit) => r = rg 0 1 v (-1000000001) (-1000000003)) (fun (_ : Unit) => []) := by
  refine KI.go rfl (Nat.le_of_ble_eq_true rfl) ?_
  intro p e s m args below meth c ls A Q hx hb hml hts hown hin hP hK hD hS hA hN hl hret
  have hl : lv_has ls 2 [(0, .ref xh), (1, .int v)] := hl
  refine lv_iload_n hx hb dX9_goBack_0 rfl (lv_at hl 1 rfl) ?_
  refine lv_if_lt (tgt := 9) hx hb dX9_goBack_1 (by decide) (fun c_1 => ?_) (fun c_1 => ?_)
  · refine lv_ldc (v := (-1000000001)) hx hb hown (hts _ wd_233) dX9_goBack_9 ?_
    exact hret (-1000000001) () _ _ _ _ dX9_goBack_11 rfl (rg_lo c_1) (cutP (isC := []) hP rfl) (cutD (isC := []) hD rfl rfl) hS
  · refine lv_iload_n hx hb dX9_goBack_4 rfl (lv_at hl 1 rfl) ?_
    refine lv_iconst (v := 2) hx hb dX9_goBack_5 (by decide) ?_
    refine lv_icmp_lt (tgt := 12) hx hb dX9_goBack_6 (by decide) (fun c_2 => ?_) (fun c_2 => ?_)
    · rcases two_of c_1 (le1_of c_2) with rfl | rfl
      · have hl : lv_has ls 2 [(0, .ref xh), (1, .int 0)] := hl
        refine lv_aload_n hx hb dX9_goBack_12 rfl (lv_at hl 0 rfl) ?_
        refine va_get (D := D) (ci := 9) (v := .int 0) (C := RX9) (T := TX9) (N := 17) hx hb hts iX9 hown hK hP 0 rfl rfl 10 (by decide) (hts _ wd_107) (fun _ h9 => h9) rfl dX9_goBack_13 ?_
        refine lv_iload_n hx hb dX9_goBack_16 rfl (lv_at hl 1 rfl) ?_
        refine lv_ishr hx hb dX9_goBack_17 ?_
        refine lv_topi (fun z_3 ez_3 => ?_)
        obtain rfl : z_3 = 0 := ez_3.trans (by decide +kernel)
        refine lv_iconst (v := 1) hx hb dX9_goBack_18 (by decide) ?_
        refine lv_iand hx hb dX9_goBack_19 ?_
        refine lv_topi (fun z_4 ez_4 => ?_)
        obtain rfl : z_4 = 0 := ez_4.trans (by decide +kernel)
        refine lv_if_ne (tgt := 26) hx hb dX9_goBack_20 (by decide) (fun c_5 => absurd (by decide +kernel) c_5) (fun c_5 => ?_)
        refine lv_ldc (v := (-1000000003)) hx hb hown (hts _ wd_242) dX9_goBack_23 ?_
        exact hret (-1000000003) () _ _ _ _ dX9_goBack_25 rfl (by decide +kernel) (cutP (isC := []) hP rfl) (cutD (isC := []) hD rfl rfl) hS
      · have hl : lv_has ls 2 [(0, .ref xh), (1, .int 1)] := hl
        refine lv_aload_n hx hb dX9_goBack_12 rfl (lv_at hl 0 rfl) ?_
        refine va_get (D := D) (ci := 9) (v := .int 0) (C := RX9) (T := TX9) (N := 17) hx hb hts iX9 hown hK hP 0 rfl rfl 10 (by decide) (hts _ wd_107) (fun _ h9 => h9) rfl dX9_goBack_13 ?_
        refine lv_iload_n hx hb dX9_goBack_16 rfl (lv_at hl 1 rfl) ?_
        refine lv_ishr hx hb dX9_goBack_17 ?_
        refine lv_topi (fun z_6 ez_6 => ?_)
        obtain rfl : z_6 = 0 := ez_6.trans (by decide +kernel)
        refine lv_iconst (v := 1) hx hb dX9_goBack_18 (by decide) ?_
        refine lv_iand hx hb dX9_goBack_19 ?_
        refine lv_topi (fun z_7 ez_7 => ?_)
        obtain rfl : z_7 = 0 := ez_7.trans (by decide +kernel)
        refine lv_if_ne (tgt := 26) hx hb dX9_goBack_20 (by decide) (fun c_8 => absurd (by decide +kernel) c_8) (fun c_8 => ?_)
        refine lv_ldc (v := (-1000000003)) hx hb hown (hts _ wd_242) dX9_goBack_23 ?_
        exact hret (-1000000003) () _ _ _ _ dX9_goBack_25 rfl (by decide +kernel) (cutP (isC := []) hP rfl) (cutD (isC := []) hD rfl rfl) hS
    · refine lv_ldc (v := (-1000000001)) hx hb hown (hts _ wd_233) dX9_goBack_9 ?_
      exact hret (-1000000001) () _ _ _ _ dX9_goBack_11 rfl (rg_hi (fun h => c_2 (Int32.lt_of_le_of_lt h (by decide)))) (cutP (isC := []) hP rfl) (cutD (isC := []) hD rfl rfl) hS
end
