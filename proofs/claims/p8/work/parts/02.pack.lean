section
def RX0 : String := "QuarrelBridges$Book"
def TX0 : u_T := fun k => match k with
  | 0 => ("QuarrelBridges$Book", "entries", "I", false)
  | 1 => ("QuarrelBridges$Book", "couples", "[I", true)
  | _ => ("QuarrelBridges$Book", "grievances", "[I", true)
def tyX0 : Nat → FieldType := fun k => match k with
  | 0 => .int
  | 1 => .array .int
  | _ => .array .int
abbrev wsX00 : List Cond := u_ws RX0 TX0 3
theorem nmX0 : ∀ a, a < 3 → ∀ b, b < 3 → a ≠ b → (TX0 a).2.1 ≠ (TX0 b).2.1 := by decide +kernel
theorem tyX0_ok : ∀ k, k < 3 → parseFieldDescriptor (TX0 k).2.2.1 = some (tyX0 k) := by decide +kernel
abbrev cX0_init : ByteArray := prog_2_method_1_code
def yX0_init : MethodName := ⟨RX0, "<init>", "()V"⟩
abbrev cX0_enter : ByteArray := prog_2_method_2_code
def yX0_enter : MethodName := ⟨RX0, "enter", "(II)V"⟩
abbrev cX0_clear : ByteArray := prog_2_method_3_code
def yX0_clear : MethodName := ⟨RX0, "clear", "()V"⟩
abbrev cX0_firstWrong : ByteArray := prog_2_method_4_code
def yX0_firstWrong : MethodName := ⟨RX0, "firstWrong", "(LQuarrelBridges$State;)I"⟩
def RX1 : String := "QuarrelBridges$Convoy"
def TX1 : u_T := fun k => match k with
  | 0 => ("QuarrelBridges$Convoy", "length", "I", false)
  | 1 => ("QuarrelBridges$Convoy", "row", "[I", true)
  | 2 => ("QuarrelBridges$Convoy", "openings", "[I", true)
  | 3 => ("QuarrelBridges$Convoy", "spent", "[I", true)
  | 4 => ("QuarrelBridges$Convoy", "behind", "[I", true)
  | 5 => ("QuarrelBridges$Convoy", "most", "[I", true)
  | 6 => ("QuarrelBridges$Convoy", "choice", "[I", true)
  | 7 => ("QuarrelBridges$Convoy", "waiting", "I", false)
  | 8 => ("QuarrelBridges$Convoy", "start", "I", false)
  | _ => ("QuarrelBridges$Convoy", "town", "LQuarrelBridges$Town;", false)
def tyX1 : Nat → FieldType := fun k => match k with
  | 0 => .int
  | 1 => .array .int
  | 2 => .array .int
  | 3 => .array .int
  | 4 => .array .int
  | 5 => .array .int
  | 6 => .array .int
  | 7 => .int
  | 8 => .int
  | _ => .object "QuarrelBridges$Town"
abbrev wsX10 : List Cond := u_ws RX1 TX1 10
theorem nmX1 : ∀ a, a < 10 → ∀ b, b < 10 → a ≠ b → (TX1 a).2.1 ≠ (TX1 b).2.1 := by decide +kernel
theorem tyX1_ok : ∀ k, k < 10 → parseFieldDescriptor (TX1 k).2.2.1 = some (tyX1 k) := by decide +kernel
abbrev cX1_init : ByteArray := prog_3_method_1_code
def yX1_init : MethodName := ⟨RX1, "<init>", "()V"⟩
abbrev cX1_gather : ByteArray := prog_3_method_2_code
def yX1_gather : MethodName := ⟨RX1, "gather", "(LQuarrelBridges$Town;LQuarrelBridges$State;)V"⟩
abbrev cX1_noteOpening : ByteArray := prog_3_method_3_code
def yX1_noteOpening : MethodName := ⟨RX1, "noteOpening", "(II)V"⟩
abbrev cX1_solve : ByteArray := prog_3_method_4_code
def yX1_solve : MethodName := ⟨RX1, "solve", "()V"⟩
abbrev cX1_minuteBehind : ByteArray := prog_3_method_5_code
def yX1_minuteBehind : MethodName := ⟨RX1, "minuteBehind", "(I)I"⟩
abbrev cX1_weigh : ByteArray := prog_3_method_6_code
def yX1_weigh : MethodName := ⟨RX1, "weigh", "(II)V"⟩
abbrev cX1_layOutRow : ByteArray := prog_3_method_7_code
def yX1_layOutRow : MethodName := ⟨RX1, "layOutRow", "()V"⟩
def RX2 : String := "QuarrelBridges$History"
def TX2 : u_T := fun k => match k with
  | 0 => ("QuarrelBridges$History", "shelf", "LQuarrelBridges$Shelf;", true)
  | 1 => ("QuarrelBridges$History", "first", "I", false)
  | _ => ("QuarrelBridges$History", "count", "I", false)
def tyX2 : Nat → FieldType := fun k => match k with
  | 0 => .object "QuarrelBridges$Shelf"
  | 1 => .int
  | _ => .int
abbrev wsX20 : List Cond := u_ws RX2 TX2 3
theorem nmX2 : ∀ a, a < 3 → ∀ b, b < 3 → a ≠ b → (TX2 a).2.1 ≠ (TX2 b).2.1 := by decide +kernel
theorem tyX2_ok : ∀ k, k < 3 → parseFieldDescriptor (TX2 k).2.2.1 = some (tyX2 k) := by decide +kernel
abbrev cX2_init : ByteArray := prog_4_method_1_code
def yX2_init : MethodName := ⟨RX2, "<init>", "()V"⟩
abbrev cX2_remember : ByteArray := prog_4_method_2_code
def yX2_remember : MethodName := ⟨RX2, "remember", "(LQuarrelBridges$State;)V"⟩
abbrev cX2_takeBack : ByteArray := prog_4_method_3_code
def yX2_takeBack : MethodName := ⟨RX2, "takeBack", "(LQuarrelBridges$State;)V"⟩
abbrev cX2_forget : ByteArray := prog_4_method_4_code
def yX2_forget : MethodName := ⟨RX2, "forget", "()V"⟩
def RX3 : String := "QuarrelBridges$Pairing"
def TX3 : u_T := fun k => match k with
  | 0 => ("QuarrelBridges$Pairing", "asked", "[I", true)
  | 1 => ("QuarrelBridges$Pairing", "least", "[I", true)
  | _ => ("QuarrelBridges$Pairing", "choice", "[I", true)
def tyX3 : Nat → FieldType := fun k => match k with
  | 0 => .array .int
  | 1 => .array .int
  | _ => .array .int
abbrev wsX30 : List Cond := u_ws RX3 TX3 3
theorem nmX3 : ∀ a, a < 3 → ∀ b, b < 3 → a ≠ b → (TX3 a).2.1 ≠ (TX3 b).2.1 := by decide +kernel
theorem tyX3_ok : ∀ k, k < 3 → parseFieldDescriptor (TX3 k).2.2.1 = some (tyX3 k) := by decide +kernel
abbrev cX3_init : ByteArray := prog_5_method_1_code
def yX3_init : MethodName := ⟨RX3, "<init>", "()V"⟩
abbrev cX3_ask : ByteArray := prog_5_method_2_code
def yX3_ask : MethodName := ⟨RX3, "ask", "(III)V"⟩
abbrev cX3_solve : ByteArray := prog_5_method_3_code
def yX3_solve : MethodName := ⟨RX3, "solve", "(II)V"⟩
abbrev cX3_weigh : ByteArray := prog_5_method_4_code
def yX3_weigh : MethodName := ⟨RX3, "weigh", "(III)V"⟩
abbrev cX3_cost : ByteArray := prog_5_method_5_code
def yX3_cost : MethodName := ⟨RX3, "cost", "()I"⟩
abbrev cX3_coupleOf : ByteArray := prog_5_method_6_code
def yX3_coupleOf : MethodName := ⟨RX3, "coupleOf", "(I)I"⟩
def RX4 : String := "QuarrelBridges$Quarrel"
def TX4 : u_T := fun k => match k with
  | 0 => ("QuarrelBridges$Quarrel", "minutes", "I", false)
  | 1 => ("QuarrelBridges$Quarrel", "cost", "I", false)
  | 2 => ("QuarrelBridges$Quarrel", "left", "I", false)
  | 3 => ("QuarrelBridges$Quarrel", "opened", "Z", false)
  | _ => ("QuarrelBridges$Quarrel", "reconciled", "Z", false)
def tyX4 : Nat → FieldType := fun k => match k with
  | 0 => .int
  | 1 => .int
  | 2 => .int
  | 3 => .boolean
  | _ => .boolean
abbrev wsX40 : List Cond := u_ws RX4 TX4 5
theorem nmX4 : ∀ a, a < 5 → ∀ b, b < 5 → a ≠ b → (TX4 a).2.1 ≠ (TX4 b).2.1 := by decide +kernel
theorem tyX4_ok : ∀ k, k < 5 → parseFieldDescriptor (TX4 k).2.2.1 = some (tyX4 k) := by decide +kernel
abbrev cX4_init : ByteArray := prog_6_method_1_code
def yX4_init : MethodName := ⟨RX4, "<init>", "()V"⟩
abbrev cX4_run : ByteArray := prog_6_method_2_code
def yX4_run : MethodName := ⟨RX4, "run", "(IIII)V"⟩
def RX5 : String := "QuarrelBridges$Reader"
def TX5 : u_T := fun k => match k with
  | 0 => ("QuarrelBridges$Reader", "fault", "I", false)
  | 1 => ("QuarrelBridges$Reader", "faultAt", "I", false)
  | 2 => ("QuarrelBridges$Reader", "text", "[I", false)
  | 3 => ("QuarrelBridges$Reader", "length", "I", false)
  | 4 => ("QuarrelBridges$Reader", "place", "I", false)
  | 5 => ("QuarrelBridges$Reader", "themesTold", "Z", false)
  | _ => ("QuarrelBridges$Reader", "snowTold", "Z", false)
def tyX5 : Nat → FieldType := fun k => match k with
  | 0 => .int
  | 1 => .int
  | 2 => .array .int
  | 3 => .int
  | 4 => .int
  | 5 => .boolean
  | _ => .boolean
abbrev wsX50 : List Cond := u_ws RX5 TX5 7
theorem nmX5 : ∀ a, a < 7 → ∀ b, b < 7 → a ≠ b → (TX5 a).2.1 ≠ (TX5 b).2.1 := by decide +kernel
theorem tyX5_ok : ∀ k, k < 7 → parseFieldDescriptor (TX5 k).2.2.1 = some (tyX5 k) := by decide +kernel
abbrev cX5_init : ByteArray := prog_7_method_1_code
def yX5_init : MethodName := ⟨RX5, "<init>", "()V"⟩
abbrev cX5_read : ByteArray := prog_7_method_2_code
def yX5_read : MethodName := ⟨RX5, "read", "([IILQuarrelBridges$Town;)V"⟩
abbrev cX5_readClause : ByteArray := prog_7_method_3_code
def yX5_readClause : MethodName := ⟨RX5, "readClause", "(LQuarrelBridges$Town;)V"⟩
abbrev cX5_isTooOften : ByteArray := prog_7_method_4_code
def yX5_isTooOften : MethodName := ⟨RX5, "isTooOften", "(ILQuarrelBridges$Town;)Z"⟩
abbrev cX5_readBridges : ByteArray := prog_7_method_5_code
def yX5_readBridges : MethodName := ⟨RX5, "readBridges", "(LQuarrelBridges$Town;)V"⟩
abbrev cX5_readCouple : ByteArray := prog_7_method_6_code
def yX5_readCouple : MethodName := ⟨RX5, "readCouple", "(LQuarrelBridges$Town;)V"⟩
abbrev cX5_readBarge : ByteArray := prog_7_method_7_code
def yX5_readBarge : MethodName := ⟨RX5, "readBarge", "(LQuarrelBridges$Town;)V"⟩
abbrev cX5_next : ByteArray := prog_7_method_8_code
def yX5_next : MethodName := ⟨RX5, "next", "()I"⟩
abbrev cX5_letter : ByteArray := prog_7_method_9_code
def yX5_letter : MethodName := ⟨RX5, "letter", "()I"⟩
abbrev cX5_isFigure : ByteArray := prog_7_method_10_code
def yX5_isFigure : MethodName := ⟨RX5, "isFigure", "(I)Z"⟩
abbrev cX5_expect : ByteArray := prog_7_method_11_code
def yX5_expect : MethodName := ⟨RX5, "expect", "(I)V"⟩
abbrev cX5_number : ByteArray := prog_7_method_12_code
def yX5_number : MethodName := ⟨RX5, "number", "(II)I"⟩
abbrev cX5_blame : ByteArray := prog_7_method_13_code
def yX5_blame : MethodName := ⟨RX5, "blame", "(II)V"⟩
def RX6 : String := "QuarrelBridges$Shelf"
def TX6 : u_T := fun k => match k with
  | 0 => ("QuarrelBridges$Shelf", "slots", "I", true)
  | _ => ("QuarrelBridges$Shelf", "cells", "[I", true)
def tyX6 : Nat → FieldType := fun k => match k with
  | 0 => .int
  | _ => .array .int
abbrev wsX60 : List Cond := u_ws RX6 TX6 2
theorem nmX6 : ∀ a, a < 2 → ∀ b, b < 2 → a ≠ b → (TX6 a).2.1 ≠ (TX6 b).2.1 := by decide +kernel
theorem tyX6_ok : ∀ k, k < 2 → parseFieldDescriptor (TX6 k).2.2.1 = some (tyX6 k) := by decide +kernel
abbrev cX6_init : ByteArray := prog_8_method_1_code
def yX6_init : MethodName := ⟨RX6, "<init>", "(I)V"⟩
abbrev cX6_store : ByteArray := prog_8_method_2_code
def yX6_store : MethodName := ⟨RX6, "store", "(ILQuarrelBridges$State;)V"⟩
abbrev cX6_fetch : ByteArray := prog_8_method_3_code
def yX6_fetch : MethodName := ⟨RX6, "fetch", "(ILQuarrelBridges$State;)V"⟩
def RX7 : String := "QuarrelBridges$State"
def TX7 : u_T := fun k => match k with
  | _ => ("QuarrelBridges$State", "cells", "[I", true)
def tyX7 : Nat → FieldType := fun k => match k with
  | _ => .array .int
abbrev wsX70 : List Cond := u_ws RX7 TX7 1
theorem nmX7 : ∀ a, a < 1 → ∀ b, b < 1 → a ≠ b → (TX7 a).2.1 ≠ (TX7 b).2.1 := by decide +kernel
theorem tyX7_ok : ∀ k, k < 1 → parseFieldDescriptor (TX7 k).2.2.1 = some (tyX7 k) := by decide +kernel
abbrev cX7_init : ByteArray := prog_9_method_1_code
def yX7_init : MethodName := ⟨RX7, "<init>", "()V"⟩
abbrev cX7_begin : ByteArray := prog_9_method_2_code
def yX7_begin : MethodName := ⟨RX7, "begin", "(LQuarrelBridges$Town;)V"⟩
abbrev cX7_minutes : ByteArray := prog_9_method_3_code
def yX7_minutes : MethodName := ⟨RX7, "minutes", "()I"⟩
abbrev cX7_spendMinutes : ByteArray := prog_9_method_4_code
def yX7_spendMinutes : MethodName := ⟨RX7, "spendMinutes", "(I)V"⟩
abbrev cX7_reconciledSet : ByteArray := prog_9_method_5_code
def yX7_reconciledSet : MethodName := ⟨RX7, "reconciledSet", "()I"⟩
abbrev cX7_isReconciled : ByteArray := prog_9_method_6_code
def yX7_isReconciled : MethodName := ⟨RX7, "isReconciled", "(I)Z"⟩
abbrev cX7_reconcile : ByteArray := prog_9_method_7_code
def yX7_reconcile : MethodName := ⟨RX7, "reconcile", "(I)V"⟩
abbrev cX7_grievanceOf : ByteArray := prog_9_method_8_code
def yX7_grievanceOf : MethodName := ⟨RX7, "grievanceOf", "(I)I"⟩
abbrev cX7_grievanceOfSet : ByteArray := prog_9_method_9_code
def yX7_grievanceOfSet : MethodName := ⟨RX7, "grievanceOfSet", "(I)I"⟩
abbrev cX7_grievanceOfAll : ByteArray := prog_9_method_10_code
def yX7_grievanceOfAll : MethodName := ⟨RX7, "grievanceOfAll", "()I"⟩
abbrev cX7_leave : ByteArray := prog_9_method_11_code
def yX7_leave : MethodName := ⟨RX7, "leave", "(II)V"⟩
abbrev cX7_embitter : ByteArray := prog_9_method_12_code
def yX7_embitter : MethodName := ⟨RX7, "embitter", "(II)V"⟩
abbrev cX7_bridgeOf : ByteArray := prog_9_method_13_code
def yX7_bridgeOf : MethodName := ⟨RX7, "bridgeOf", "(I)I"⟩
abbrev cX7_coupleAt : ByteArray := prog_9_method_14_code
def yX7_coupleAt : MethodName := ⟨RX7, "coupleAt", "(I)I"⟩
abbrev cX7_place : ByteArray := prog_9_method_15_code
def yX7_place : MethodName := ⟨RX7, "place", "(II)V"⟩
abbrev cX7_themeOf : ByteArray := prog_9_method_16_code
def yX7_themeOf : MethodName := ⟨RX7, "themeOf", "(I)I"⟩
abbrev cX7_turnTo : ByteArray := prog_9_method_17_code
def yX7_turnTo : MethodName := ⟨RX7, "turnTo", "(II)V"⟩
abbrev cX7_fateOf : ByteArray := prog_9_method_18_code
def yX7_fateOf : MethodName := ⟨RX7, "fateOf", "(I)I"⟩
abbrev cX7_bargesOfFate : ByteArray := prog_9_method_19_code
def yX7_bargesOfFate : MethodName := ⟨RX7, "bargesOfFate", "(I)I"⟩
abbrev cX7_lyingAt : ByteArray := prog_9_method_20_code
def yX7_lyingAt : MethodName := ⟨RX7, "lyingAt", "(I)I"⟩
abbrev cX7_lay : ByteArray := prog_9_method_21_code
def yX7_lay : MethodName := ⟨RX7, "lay", "(II)V"⟩
abbrev cX7_passedAt : ByteArray := prog_9_method_22_code
def yX7_passedAt : MethodName := ⟨RX7, "passedAt", "(I)I"⟩
abbrev cX7_letThrough : ByteArray := prog_9_method_23_code
def yX7_letThrough : MethodName := ⟨RX7, "letThrough", "(II)V"⟩
def RX8 : String := "QuarrelBridges$Town"
def TX8 : u_T := fun k => match k with
  | 0 => ("QuarrelBridges$Town", "bridges", "I", false)
  | 1 => ("QuarrelBridges$Town", "themes", "I", false)
  | 2 => ("QuarrelBridges$Town", "couples", "I", false)
  | 3 => ("QuarrelBridges$Town", "barges", "I", false)
  | 4 => ("QuarrelBridges$Town", "snow", "I", false)
  | 5 => ("QuarrelBridges$Town", "needs", "[I", true)
  | 6 => ("QuarrelBridges$Town", "grievances", "[I", true)
  | 7 => ("QuarrelBridges$Town", "forces", "[I", true)
  | 8 => ("QuarrelBridges$Town", "upTo", "[I", true)
  | _ => ("QuarrelBridges$Town", "tides", "[I", true)
def tyX8 : Nat → FieldType := fun k => match k with
  | 0 => .int
  | 1 => .int
  | 2 => .int
  | 3 => .int
  | 4 => .int
  | 5 => .array .int
  | 6 => .array .int
  | 7 => .array .int
  | 8 => .array .int
  | _ => .array .int
abbrev wsX80 : List Cond := u_ws RX8 TX8 10
theorem nmX8 : ∀ a, a < 10 → ∀ b, b < 10 → a ≠ b → (TX8 a).2.1 ≠ (TX8 b).2.1 := by decide +kernel
theorem tyX8_ok : ∀ k, k < 10 → parseFieldDescriptor (TX8 k).2.2.1 = some (tyX8 k) := by decide +kernel
abbrev cX8_init : ByteArray := prog_10_method_1_code
def yX8_init : MethodName := ⟨RX8, "<init>", "()V"⟩
abbrev cX8_clear : ByteArray := prog_10_method_2_code
def yX8_clear : MethodName := ⟨RX8, "clear", "()V"⟩
abbrev cX8_hasBridge : ByteArray := prog_10_method_3_code
def yX8_hasBridge : MethodName := ⟨RX8, "hasBridge", "(I)Z"⟩
abbrev cX8_hasTheme : ByteArray := prog_10_method_4_code
def yX8_hasTheme : MethodName := ⟨RX8, "hasTheme", "(I)Z"⟩
abbrev cX8_hasCouple : ByteArray := prog_10_method_5_code
def yX8_hasCouple : MethodName := ⟨RX8, "hasCouple", "(I)Z"⟩
abbrev cX8_hasBarge : ByteArray := prog_10_method_6_code
def yX8_hasBarge : MethodName := ⟨RX8, "hasBarge", "(I)Z"⟩
abbrev cX8_forceOf : ByteArray := prog_10_method_7_code
def yX8_forceOf : MethodName := ⟨RX8, "forceOf", "(II)I"⟩
abbrev cX8_needOfAll : ByteArray := prog_10_method_8_code
def yX8_needOfAll : MethodName := ⟨RX8, "needOfAll", "()I"⟩
def RX9 : String := "QuarrelBridges"
def TX9 : u_T := fun k => match k with
  | 0 => ("QuarrelBridges", "text", "[I", true)
  | 1 => ("QuarrelBridges", "letters", "I", false)
  | 2 => ("QuarrelBridges", "faultAt", "I", false)
  | 3 => ("QuarrelBridges", "reader", "LQuarrelBridges$Reader;", true)
  | 4 => ("QuarrelBridges", "town", "LQuarrelBridges$Town;", false)
  | 5 => ("QuarrelBridges", "draft", "LQuarrelBridges$Town;", false)
  | 6 => ("QuarrelBridges", "now", "LQuarrelBridges$State;", true)
  | 7 => ("QuarrelBridges", "past", "LQuarrelBridges$History;", true)
  | 8 => ("QuarrelBridges", "images", "LQuarrelBridges$Shelf;", true)
  | 9 => ("QuarrelBridges", "imageSeeds", "[I", true)
  | 10 => ("QuarrelBridges", "imagesKept", "I", false)
  | 11 => ("QuarrelBridges", "book", "LQuarrelBridges$Book;", true)
  | 12 => ("QuarrelBridges", "seed", "I", false)
  | 13 => ("QuarrelBridges", "quarrel", "LQuarrelBridges$Quarrel;", true)
  | 14 => ("QuarrelBridges", "pairing", "LQuarrelBridges$Pairing;", true)
  | 15 => ("QuarrelBridges", "convoy", "LQuarrelBridges$Convoy;", true)
  | _ => ("QuarrelBridges", "fitting", "[I", true)
def tyX9 : Nat → FieldType := fun k => match k with
  | 0 => .array .int
  | 1 => .int
  | 2 => .int
  | 3 => .object "QuarrelBridges$Reader"
  | 4 => .object "QuarrelBridges$Town"
  | 5 => .object "QuarrelBridges$Town"
  | 6 => .object "QuarrelBridges$State"
  | 7 => .object "QuarrelBridges$History"
  | 8 => .object "QuarrelBridges$Shelf"
  | 9 => .array .int
  | 10 => .int
  | 11 => .object "QuarrelBridges$Book"
  | 12 => .int
  | 13 => .object "QuarrelBridges$Quarrel"
  | 14 => .object "QuarrelBridges$Pairing"
  | 15 => .object "QuarrelBridges$Convoy"
  | _ => .array .int
abbrev wsX90 : List Cond := u_ws RX9 TX9 17
theorem nmX9 : ∀ a, a < 17 → ∀ b, b < 17 → a ≠ b → (TX9 a).2.1 ≠ (TX9 b).2.1 := by decide +kernel
theorem tyX9_ok : ∀ k, k < 17 → parseFieldDescriptor (TX9 k).2.2.1 = some (tyX9 k) := by decide +kernel
abbrev cX9_init : ByteArray := prog_1_method_1_code
def yX9_init : MethodName := ⟨RX9, "<init>", "()V"⟩
abbrev cX9_feed : ByteArray := prog_1_method_2_code
def yX9_feed : MethodName := ⟨RX9, "feed", "(I)I"⟩
abbrev cX9_town : ByteArray := prog_1_method_3_code
def yX9_town : MethodName := ⟨RX9, "town", "()I"⟩
abbrev cX9_fault : ByteArray := prog_1_method_4_code
def yX9_fault : MethodName := ⟨RX9, "fault", "()I"⟩
abbrev cX9_told : ByteArray := prog_1_method_5_code
def yX9_told : MethodName := ⟨RX9, "told", "(I)I"⟩
abbrev cX9_bridge : ByteArray := prog_1_method_6_code
def yX9_bridge : MethodName := ⟨RX9, "bridge", "(II)I"⟩
abbrev cX9_couple : ByteArray := prog_1_method_7_code
def yX9_couple : MethodName := ⟨RX9, "couple", "(II)I"⟩
abbrev cX9_force : ByteArray := prog_1_method_8_code
def yX9_force : MethodName := ⟨RX9, "force", "(II)I"⟩
abbrev cX9_barge : ByteArray := prog_1_method_9_code
def yX9_barge : MethodName := ⟨RX9, "barge", "(II)I"⟩
abbrev cX9_send : ByteArray := prog_1_method_10_code
def yX9_send : MethodName := ⟨RX9, "send", "(III)I"⟩
abbrev cX9_home : ByteArray := prog_1_method_11_code
def yX9_home : MethodName := ⟨RX9, "home", "(I)I"⟩
abbrev cX9_pass : ByteArray := prog_1_method_12_code
def yX9_pass : MethodName := ⟨RX9, "pass", "(I)I"⟩
abbrev cX9_grieve : ByteArray := prog_1_method_13_code
def yX9_grieve : MethodName := ⟨RX9, "grieve", "(II)I"⟩
abbrev cX9_drift : ByteArray := prog_1_method_14_code
def yX9_drift : MethodName := ⟨RX9, "drift", "(I)I"⟩
abbrev cX9_undo : ByteArray := prog_1_method_15_code
def yX9_undo : MethodName := ⟨RX9, "undo", "()I"⟩
abbrev cX9_could : ByteArray := prog_1_method_16_code
def yX9_could : MethodName := ⟨RX9, "could", "(IIII)I"⟩
abbrev cX9_bestTheme : ByteArray := prog_1_method_17_code
def yX9_bestTheme : MethodName := ⟨RX9, "bestTheme", "(II)I"⟩
abbrev cX9_who : ByteArray := prog_1_method_18_code
def yX9_who : MethodName := ⟨RX9, "who", "(II)I"⟩
abbrev cX9_order : ByteArray := prog_1_method_19_code
def yX9_order : MethodName := ⟨RX9, "order", "(I)I"⟩
abbrev cX9_toldHer : ByteArray := prog_1_method_20_code
def yX9_toldHer : MethodName := ⟨RX9, "toldHer", "(III)I"⟩
abbrev cX9_lasts : ByteArray := prog_1_method_21_code
def yX9_lasts : MethodName := ⟨RX9, "lasts", "(II)I"⟩
abbrev cX9_wornOut : ByteArray := prog_1_method_22_code
def yX9_wornOut : MethodName := ⟨RX9, "wornOut", "()I"⟩
abbrev cX9_carried : ByteArray := prog_1_method_23_code
def yX9_carried : MethodName := ⟨RX9, "carried", "(I)I"⟩
abbrev cX9_hire : ByteArray := prog_1_method_24_code
def yX9_hire : MethodName := ⟨RX9, "hire", "(II)I"⟩
abbrev cX9_midstream : ByteArray := prog_1_method_25_code
def yX9_midstream : MethodName := ⟨RX9, "midstream", "(III)I"⟩
abbrev cX9_fleet : ByteArray := prog_1_method_26_code
def yX9_fleet : MethodName := ⟨RX9, "fleet", "(I)I"⟩
abbrev cX9_write : ByteArray := prog_1_method_27_code
def yX9_write : MethodName := ⟨RX9, "write", "(II)I"⟩
abbrev cX9_tear : ByteArray := prog_1_method_28_code
def yX9_tear : MethodName := ⟨RX9, "tear", "()I"⟩
abbrev cX9_judge : ByteArray := prog_1_method_29_code
def yX9_judge : MethodName := ⟨RX9, "judge", "()I"⟩
abbrev cX9_seed : ByteArray := prog_1_method_30_code
def yX9_seed : MethodName := ⟨RX9, "seed", "(I)I"⟩
abbrev cX9_keep : ByteArray := prog_1_method_31_code
def yX9_keep : MethodName := ⟨RX9, "keep", "(I)I"⟩
abbrev cX9_goBack : ByteArray := prog_1_method_32_code
def yX9_goBack : MethodName := ⟨RX9, "goBack", "(I)I"⟩
abbrev cX9_at : ByteArray := prog_1_method_33_code
def yX9_at : MethodName := ⟨RX9, "at", "([II)I"⟩
abbrev cX9_put : ByteArray := prog_1_method_34_code
def yX9_put : MethodName := ⟨RX9, "put", "([III)V"⟩
abbrev cX9_stampOf : ByteArray := prog_1_method_35_code
def yX9_stampOf : MethodName := ⟨RX9, "stampOf", "(III)I"⟩
abbrev cX9_draw : ByteArray := prog_1_method_36_code
def yX9_draw : MethodName := ⟨RX9, "draw", "(I)I"⟩
abbrev cX9_swing : ByteArray := prog_1_method_37_code
def yX9_swing : MethodName := ⟨RX9, "swing", "(I)Z"⟩
abbrev cX9_attempt : ByteArray := prog_1_method_38_code
def yX9_attempt : MethodName := ⟨RX9, "attempt", "(III)V"⟩
abbrev cX9_themeFor : ByteArray := prog_1_method_39_code
def yX9_themeFor : MethodName := ⟨RX9, "themeFor", "(II)I"⟩
abbrev cX9_costFor : ByteArray := prog_1_method_40_code
def yX9_costFor : MethodName := ⟨RX9, "costFor", "(II)I"⟩
abbrev cX9_minutesLeft : ByteArray := prog_1_method_41_code
def yX9_minutesLeft : MethodName := ⟨RX9, "minutesLeft", "(II)I"⟩
abbrev cX9_noteOpenings : ByteArray := prog_1_method_42_code
def yX9_noteOpenings : MethodName := ⟨RX9, "noteOpenings", "(I)V"⟩
def RX10 : String := "QuarrelBridgesModel"
def TX10 : u_T := fun k => match k with
  | 0 => ("QuarrelBridgesModel", "w", "[I", true)
  | 1 => ("QuarrelBridgesModel", "isKept", "[Z", true)
  | 2 => ("QuarrelBridgesModel", "undoes", "I", false)
  | 3 => ("QuarrelBridgesModel", "bridges", "I", false)
  | 4 => ("QuarrelBridgesModel", "themes", "I", false)
  | 5 => ("QuarrelBridgesModel", "couples", "I", false)
  | 6 => ("QuarrelBridgesModel", "barges", "I", false)
  | 7 => ("QuarrelBridgesModel", "snow", "I", false)
  | 8 => ("QuarrelBridgesModel", "needs", "[I", true)
  | 9 => ("QuarrelBridgesModel", "grief", "[I", true)
  | 10 => ("QuarrelBridgesModel", "forces", "[I", true)
  | 11 => ("QuarrelBridgesModel", "far", "[I", true)
  | 12 => ("QuarrelBridgesModel", "due", "[I", true)
  | 13 => ("QuarrelBridgesModel", "text", "[I", true)
  | 14 => ("QuarrelBridgesModel", "texted", "I", false)
  | 15 => ("QuarrelBridgesModel", "at", "I", false)
  | 16 => ("QuarrelBridgesModel", "start", "I", false)
  | 17 => ("QuarrelBridgesModel", "number", "I", false)
  | 18 => ("QuarrelBridgesModel", "faulty", "I", false)
  | 19 => ("QuarrelBridgesModel", "faultAt", "I", false)
  | 20 => ("QuarrelBridgesModel", "readBridges", "I", false)
  | 21 => ("QuarrelBridgesModel", "readThemes", "I", false)
  | 22 => ("QuarrelBridgesModel", "hasThemes", "Z", false)
  | 23 => ("QuarrelBridgesModel", "readCouples", "I", false)
  | 24 => ("QuarrelBridgesModel", "readBarges", "I", false)
  | 25 => ("QuarrelBridgesModel", "readSnow", "I", false)
  | 26 => ("QuarrelBridgesModel", "hasSnow", "Z", false)
  | 27 => ("QuarrelBridgesModel", "readNeeds", "[I", true)
  | 28 => ("QuarrelBridgesModel", "readGrief", "[I", true)
  | 29 => ("QuarrelBridgesModel", "readForces", "[I", true)
  | 30 => ("QuarrelBridgesModel", "readFar", "[I", true)
  | 31 => ("QuarrelBridgesModel", "readDue", "[I", true)
  | 32 => ("QuarrelBridgesModel", "minutes", "I", false)
  | 33 => ("QuarrelBridgesModel", "left", "I", false)
  | 34 => ("QuarrelBridgesModel", "opened", "Z", false)
  | 35 => ("QuarrelBridgesModel", "cost", "I", false)
  | 36 => ("QuarrelBridgesModel", "least", "[I", true)
  | 37 => ("QuarrelBridgesModel", "costs", "[I", true)
  | 38 => ("QuarrelBridgesModel", "row", "[I", true)
  | 39 => ("QuarrelBridgesModel", "bestRow", "[I", true)
  | 40 => ("QuarrelBridgesModel", "bestLong", "I", false)
  | 41 => ("QuarrelBridgesModel", "bestTimely", "I", false)
  | 42 => ("QuarrelBridgesModel", "booked", "I", false)
  | 43 => ("QuarrelBridgesModel", "bookCouple", "[I", true)
  | _ => ("QuarrelBridgesModel", "bookGrief", "[I", true)
def tyX10 : Nat → FieldType := fun k => match k with
  | 0 => .array .int
  | 1 => .array .boolean
  | 2 => .int
  | 3 => .int
  | 4 => .int
  | 5 => .int
  | 6 => .int
  | 7 => .int
  | 8 => .array .int
  | 9 => .array .int
  | 10 => .array .int
  | 11 => .array .int
  | 12 => .array .int
  | 13 => .array .int
  | 14 => .int
  | 15 => .int
  | 16 => .int
  | 17 => .int
  | 18 => .int
  | 19 => .int
  | 20 => .int
  | 21 => .int
  | 22 => .boolean
  | 23 => .int
  | 24 => .int
  | 25 => .int
  | 26 => .boolean
  | 27 => .array .int
  | 28 => .array .int
  | 29 => .array .int
  | 30 => .array .int
  | 31 => .array .int
  | 32 => .int
  | 33 => .int
  | 34 => .boolean
  | 35 => .int
  | 36 => .array .int
  | 37 => .array .int
  | 38 => .array .int
  | 39 => .array .int
  | 40 => .int
  | 41 => .int
  | 42 => .int
  | 43 => .array .int
  | _ => .array .int
abbrev wsX100 : List Cond := u_ws RX10 TX10 45
theorem nmX10 : ∀ a, a < 45 → ∀ b, b < 45 → a ≠ b → (TX10 a).2.1 ≠ (TX10 b).2.1 := by decide +kernel
theorem tyX10_ok : ∀ k, k < 45 → parseFieldDescriptor (TX10 k).2.2.1 = some (tyX10 k) := by decide +kernel
abbrev cX10_init : ByteArray := prog_12_method_1_code
def yX10_init : MethodName := ⟨RX10, "<init>", "()V"⟩
abbrev cX10_in : ByteArray := prog_12_method_3_code
def yX10_in : MethodName := ⟨RX10, "in", "(JJJ)Z"⟩
abbrev cX10_has : ByteArray := prog_12_method_4_code
def yX10_has : MethodName := ⟨RX10, "has", "(II)Z"⟩
abbrev cX10_ones : ByteArray := prog_12_method_5_code
def yX10_ones : MethodName := ⟨RX10, "ones", "(I)I"⟩
abbrev cX10_copy : ByteArray := prog_12_method_6_code
def yX10_copy : MethodName := ⟨RX10, "copy", "(II)V"⟩
abbrev cX10_begins : ByteArray := prog_12_method_7_code
def yX10_begins : MethodName := ⟨RX10, "begins", "()V"⟩
abbrev cX10_isBridge : ByteArray := prog_12_method_8_code
def yX10_isBridge : MethodName := ⟨RX10, "isBridge", "(I)Z"⟩
abbrev cX10_isCouple : ByteArray := prog_12_method_9_code
def yX10_isCouple : MethodName := ⟨RX10, "isCouple", "(I)Z"⟩
abbrev cX10_isTheme : ByteArray := prog_12_method_10_code
def yX10_isTheme : MethodName := ⟨RX10, "isTheme", "(I)Z"⟩
abbrev cX10_isBarge : ByteArray := prog_12_method_11_code
def yX10_isBarge : MethodName := ⟨RX10, "isBarge", "(I)Z"⟩
abbrev cX10_feed : ByteArray := prog_12_method_12_code
def yX10_feed : MethodName := ⟨RX10, "feed", "(I)I"⟩
abbrev cX10_letterAt : ByteArray := prog_12_method_13_code
def yX10_letterAt : MethodName := ⟨RX10, "letterAt", "(I)I"⟩
abbrev cX10_here : ByteArray := prog_12_method_14_code
def yX10_here : MethodName := ⟨RX10, "here", "()I"⟩
abbrev cX10_fails : ByteArray := prog_12_method_15_code
def yX10_fails : MethodName := ⟨RX10, "fails", "(II)Z"⟩
abbrev cX10_takes : ByteArray := prog_12_method_16_code
def yX10_takes : MethodName := ⟨RX10, "takes", "(I)Z"⟩
abbrev cX10_takesNumber : ByteArray := prog_12_method_17_code
def yX10_takesNumber : MethodName := ⟨RX10, "takesNumber", "(II)Z"⟩
abbrev cX10_takesBridges : ByteArray := prog_12_method_18_code
def yX10_takesBridges : MethodName := ⟨RX10, "takesBridges", "()Z"⟩
abbrev cX10_takesThemes : ByteArray := prog_12_method_19_code
def yX10_takesThemes : MethodName := ⟨RX10, "takesThemes", "()Z"⟩
abbrev cX10_takesCouple : ByteArray := prog_12_method_20_code
def yX10_takesCouple : MethodName := ⟨RX10, "takesCouple", "()Z"⟩
abbrev cX10_takesBarge : ByteArray := prog_12_method_21_code
def yX10_takesBarge : MethodName := ⟨RX10, "takesBarge", "()Z"⟩
abbrev cX10_takesSnow : ByteArray := prog_12_method_22_code
def yX10_takesSnow : MethodName := ⟨RX10, "takesSnow", "()Z"⟩
abbrev cX10_takesClause : ByteArray := prog_12_method_23_code
def yX10_takesClause : MethodName := ⟨RX10, "takesClause", "()Z"⟩
abbrev cX10_town : ByteArray := prog_12_method_24_code
def yX10_town : MethodName := ⟨RX10, "town", "()I"⟩
abbrev cX10_fault : ByteArray := prog_12_method_25_code
def yX10_fault : MethodName := ⟨RX10, "fault", "()I"⟩
abbrev cX10_bargesThat : ByteArray := prog_12_method_26_code
def yX10_bargesThat : MethodName := ⟨RX10, "bargesThat", "(I)I"⟩
abbrev cX10_griefOf : ByteArray := prog_12_method_27_code
def yX10_griefOf : MethodName := ⟨RX10, "griefOf", "(I)I"⟩
abbrev cX10_told : ByteArray := prog_12_method_28_code
def yX10_told : MethodName := ⟨RX10, "told", "(I)I"⟩
abbrev cX10_whoIsAt : ByteArray := prog_12_method_29_code
def yX10_whoIsAt : MethodName := ⟨RX10, "whoIsAt", "(II)I"⟩
abbrev cX10_bridge : ByteArray := prog_12_method_30_code
def yX10_bridge : MethodName := ⟨RX10, "bridge", "(II)I"⟩
abbrev cX10_isDone : ByteArray := prog_12_method_31_code
def yX10_isDone : MethodName := ⟨RX10, "isDone", "(I)Z"⟩
abbrev cX10_couple : ByteArray := prog_12_method_32_code
def yX10_couple : MethodName := ⟨RX10, "couple", "(II)I"⟩
abbrev cX10_force : ByteArray := prog_12_method_33_code
def yX10_force : MethodName := ⟨RX10, "force", "(II)I"⟩
abbrev cX10_barge : ByteArray := prog_12_method_34_code
def yX10_barge : MethodName := ⟨RX10, "barge", "(II)I"⟩
abbrev cX10_stampOf : ByteArray := prog_12_method_35_code
def yX10_stampOf : MethodName := ⟨RX10, "stampOf", "(III)I"⟩
abbrev cX10_quarrels : ByteArray := prog_12_method_36_code
def yX10_quarrels : MethodName := ⟨RX10, "quarrels", "(IIII)V"⟩
abbrev cX10_minds : ByteArray := prog_12_method_37_code
def yX10_minds : MethodName := ⟨RX10, "minds", "()V"⟩
abbrev cX10_undo : ByteArray := prog_12_method_38_code
def yX10_undo : MethodName := ⟨RX10, "undo", "()I"⟩
abbrev cX10_send : ByteArray := prog_12_method_39_code
def yX10_send : MethodName := ⟨RX10, "send", "(III)I"⟩
abbrev cX10_home : ByteArray := prog_12_method_40_code
def yX10_home : MethodName := ⟨RX10, "home", "(I)I"⟩
abbrev cX10_passes : ByteArray := prog_12_method_41_code
def yX10_passes : MethodName := ⟨RX10, "passes", "(II)V"⟩
abbrev cX10_pass : ByteArray := prog_12_method_42_code
def yX10_pass : MethodName := ⟨RX10, "pass", "(I)I"⟩
abbrev cX10_grieves : ByteArray := prog_12_method_43_code
def yX10_grieves : MethodName := ⟨RX10, "grieves", "(II)V"⟩
abbrev cX10_grieve : ByteArray := prog_12_method_44_code
def yX10_grieve : MethodName := ⟨RX10, "grieve", "(II)I"⟩
abbrev cX10_draw : ByteArray := prog_12_method_45_code
def yX10_draw : MethodName := ⟨RX10, "draw", "(I)I"⟩
abbrev cX10_drift : ByteArray := prog_12_method_46_code
def yX10_drift : MethodName := ⟨RX10, "drift", "(I)I"⟩
abbrev cX10_opens : ByteArray := prog_12_method_47_code
def yX10_opens : MethodName := ⟨RX10, "opens", "(III)Z"⟩
abbrev cX10_could : ByteArray := prog_12_method_48_code
def yX10_could : MethodName := ⟨RX10, "could", "(IIII)I"⟩
abbrev cX10_best : ByteArray := prog_12_method_49_code
def yX10_best : MethodName := ⟨RX10, "best", "(II)I"⟩
abbrev cX10_bestTheme : ByteArray := prog_12_method_50_code
def yX10_bestTheme : MethodName := ⟨RX10, "bestTheme", "(II)I"⟩
abbrev cX10_layCosts : ByteArray := prog_12_method_51_code
def yX10_layCosts : MethodName := ⟨RX10, "layCosts", "()V"⟩
abbrev cX10_who : ByteArray := prog_12_method_52_code
def yX10_who : MethodName := ⟨RX10, "who", "(II)I"⟩
abbrev cX10_findOrder : ByteArray := prog_12_method_53_code
def yX10_findOrder : MethodName := ⟨RX10, "findOrder", "()V"⟩
abbrev cX10_order : ByteArray := prog_12_method_54_code
def yX10_order : MethodName := ⟨RX10, "order", "(I)I"⟩
abbrev cX10_toldHer : ByteArray := prog_12_method_55_code
def yX10_toldHer : MethodName := ⟨RX10, "toldHer", "(III)I"⟩
abbrev cX10_lastsOf : ByteArray := prog_12_method_56_code
def yX10_lastsOf : MethodName := ⟨RX10, "lastsOf", "(II)I"⟩
abbrev cX10_lasts : ByteArray := prog_12_method_57_code
def yX10_lasts : MethodName := ⟨RX10, "lasts", "(II)I"⟩
abbrev cX10_wornOut : ByteArray := prog_12_method_58_code
def yX10_wornOut : MethodName := ⟨RX10, "wornOut", "()I"⟩
abbrev cX10_carried : ByteArray := prog_12_method_59_code
def yX10_carried : MethodName := ⟨RX10, "carried", "(I)I"⟩
abbrev cX10_hire : ByteArray := prog_12_method_60_code
def yX10_hire : MethodName := ⟨RX10, "hire", "(II)I"⟩
abbrev cX10_midstream : ByteArray := prog_12_method_61_code
def yX10_midstream : MethodName := ⟨RX10, "midstream", "(III)I"⟩
abbrev cX10_fleet : ByteArray := prog_12_method_62_code
def yX10_fleet : MethodName := ⟨RX10, "fleet", "(I)I"⟩
abbrev cX10_write : ByteArray := prog_12_method_63_code
def yX10_write : MethodName := ⟨RX10, "write", "(II)I"⟩
abbrev cX10_tear : ByteArray := prog_12_method_64_code
def yX10_tear : MethodName := ⟨RX10, "tear", "()I"⟩
abbrev cX10_judge : ByteArray := prog_12_method_65_code
def yX10_judge : MethodName := ⟨RX10, "judge", "()I"⟩
abbrev cX10_seed : ByteArray := prog_12_method_66_code
def yX10_seed : MethodName := ⟨RX10, "seed", "(I)I"⟩
abbrev cX10_keep : ByteArray := prog_12_method_67_code
def yX10_keep : MethodName := ⟨RX10, "keep", "(I)I"⟩
abbrev cX10_goBack : ByteArray := prog_12_method_68_code
def yX10_goBack : MethodName := ⟨RX10, "goBack", "(I)I"⟩
def RJ6 : String := "java/lang/Integer"
def TJ6 : u_T := fun k => match k with
  | _ => ("", "", "", false)
def tyJ6 : Nat → FieldType := fun k => match k with
  | _ => .int
abbrev wsJ60 : List Cond := u_ws RJ6 TJ6 0
theorem nmJ6 : ∀ a, a < 0 → ∀ b, b < 0 → a ≠ b → (TJ6 a).2.1 ≠ (TJ6 b).2.1 := by decide +kernel
theorem tyJ6_ok : ∀ k, k < 0 → parseFieldDescriptor (TJ6 k).2.2.1 = some (tyJ6 k) := by decide +kernel
abbrev cJ6_bitCount_0f7a4 : ByteArray := prog_13_method_49_code
def yJ6_bitCount_0f7a4 : MethodName := ⟨RJ6, "bitCount", "(I)I"⟩
def RJ9 : String := "java/lang/Math"
def TJ9 : u_T := fun k => match k with
  | _ => ("", "", "", false)
def tyJ9 : Nat → FieldType := fun k => match k with
  | _ => .int
abbrev wsJ90 : List Cond := u_ws RJ9 TJ9 0
theorem nmJ9 : ∀ a, a < 0 → ∀ b, b < 0 → a ≠ b → (TJ9 a).2.1 ≠ (TJ9 b).2.1 := by decide +kernel
theorem tyJ9_ok : ∀ k, k < 0 → parseFieldDescriptor (TJ9 k).2.2.1 = some (tyJ9 k) := by decide +kernel
abbrev cJ9_max_7cf53 : ByteArray := prog_14_method_65_code
def yJ9_max_7cf53 : MethodName := ⟨RJ9, "max", "(II)I"⟩
abbrev cJ9_min_7cf53 : ByteArray := prog_14_method_69_code
def yJ9_min_7cf53 : MethodName := ⟨RJ9, "min", "(II)I"⟩
def RJ10 : String := "java/lang/System"
def TJ10 : u_T := fun k => match k with
  | _ => ("", "", "", false)
def tyJ10 : Nat → FieldType := fun k => match k with
  | _ => .int
abbrev wsJ100 : List Cond := u_ws RJ10 TJ10 0
theorem nmJ10 : ∀ a, a < 0 → ∀ b, b < 0 → a ≠ b → (TJ10 a).2.1 ≠ (TJ10 b).2.1 := by decide +kernel
theorem tyJ10_ok : ∀ k, k < 0 → parseFieldDescriptor (TJ10 k).2.2.1 = some (tyJ10 k) := by decide +kernel
def RJ7 : String := "java/util/Arrays"
def TJ7 : u_T := fun k => match k with
  | _ => ("", "", "", false)
def tyJ7 : Nat → FieldType := fun k => match k with
  | _ => .int
abbrev wsJ70 : List Cond := u_ws RJ7 TJ7 0
theorem nmJ7 : ∀ a, a < 0 → ∀ b, b < 0 → a ≠ b → (TJ7 a).2.1 ≠ (TJ7 b).2.1 := by decide +kernel
theorem tyJ7_ok : ∀ k, k < 0 → parseFieldDescriptor (TJ7 k).2.2.1 = some (tyJ7 k) := by decide +kernel
abbrev cJ7_fill_53178 : ByteArray := prog_16_method_103_code
def yJ7_fill_53178 : MethodName := ⟨RJ7, "fill", "([II)V"⟩
def RL : String := "QuarrelBridgesLaw"
abbrev cL_law : ByteArray := code
def yL_law : MethodName := ⟨RL, "law", "([I)Z"⟩
end
section
/-! my own frame over the kit: one list of words for all methods, one shape of contract, one row for each kind of call -/
abbrev classes : List vw_C := [(RX0, TX0, 3), (RX1, TX1, 10), (RX2, TX2, 3), (RX3, TX3, 3), (RX4, TX4, 5), (RX5, TX5, 7), (RX6, TX6, 2), (RX7, TX7, 1), (RX8, TX8, 10), (RX9, TX9, 17), (RX10, TX10, 45)]
abbrev TYS (cI cZ : ClassId) : List (ClassId × FieldType) := [(cI, .int), (cZ, .boolean)]
def BG : List Cond := lw_tbl.filter goodWord
theorem BG_in {w : Cond} (h1 : w ∈ lw_tbl) (h2 : goodWord w = true) : w ∈ BG := List.mem_filter.mpr ⟨h1, h2⟩
theorem BG_tbl {w : Cond} (h : w ∈ BG) : w ∈ lw_tbl := (List.mem_filter.mp h).1
theorem BG_good {w : Cond} (h : w ∈ BG) : (w.onTables && w.keeps) = true ∨ ∃ ty, w = .arrayClass ty := good_of_word (List.mem_filter.mp h).2
theorem gB {w : Cond} (h : w ∈ BG) : GoodIn BG (w :: BG) := fun v hv => (List.mem_cons.mp hv).elim (fun e => by rw [e]; exact ⟨h, BG_good h⟩) (fun h => ⟨h, BG_good h⟩)
def NM : List (String × Nat × MethodName × String) := [(RX9, 22, yX5_init, RX9), (RX9, 29, yX8_init, RX9), (RX9, 39, yX7_init, RX9), (RX9, 46, yX2_init, RX9), (RX9, 68, yX0_init, RX9), (RX9, 78, yX4_init, RX9), (RX9, 85, yX3_init, RX9), (RX9, 92, yX1_init, RX9), (RX0, 22, yX9_put, RX9), (RX0, 26, yX9_at, RX9), (RX1, 65, yX9_at, RX9), (RX1, 69, yX9_put, RX9), (RX3, 21, yX9_put, RX9), (RX3, 35, yX9_at, RX9), (RX4, 26, yX9_stampOf, RX9), (RX5, 91, yX9_put, RX9), (RX7, 30, yX9_at, RX9), (RX7, 34, yX9_put, RX9), (RX8, 43, yX9_at, RX9)]
theorem NM_tbl : ∀ q ∈ NM, Cond.methodLinkNest q.1 q.2.1 q.2.2.1 q.2.2.2 ∈ lw_tbl := by decide +kernel
def zN (U : State) : Prop := ∀ q ∈ NM, va_Nw (.methodLinkNest q.1 q.2.1 q.2.2.1 q.2.2.2) U
theorem zN.warm {s U : State} (hW : s.WarmedH U.vm) (h : zN s) : zN U := fun q hq => va_Nw.warmM hW (h q hq)
theorem zN.m {U : State} (h : zN U) (k : Nat) {a : String} {i : Nat} {y : MethodName} {b : String} (hk : NM[k]? = some (a, i, y, b)) : va_Nw (.methodLinkNest a i y b) U := h _ (List.mem_of_getElem? hk)
def WD (D : va_G) (A : Nat → Prop) (ws : va_W) (t : State) : Prop := va_P D classes ws t.heap ∧ va_D A ws
def PC (D : va_G) (cI cZ : ClassId) (av : List Value) (sz : Nat) (ws : va_W) : Array Value → State → Prop := va_Pc av (fun U => U.heap.size = sz ∧ va_P D classes ws U.heap ∧ va_K D classes (TYS cI cZ) U ∧ va_D (fun _ => True) ws ∧ zN U)
theorem PC_blind {D : va_G} {cI cZ : ClassId} {av : List Value} {sz : Nat} {ws : va_W} : FrameBlind (PC D cI cZ av sz ws) := fun a U g mk q => ⟨q.1, q.2.1, q.2.2.1, va_K.moved (u := U) (U := U.calling g mk a) (Vm.Alike.refl U.vm) q.2.2.2.1, q.2.2.2.2.1, fun z hz => va_Nw.same rfl (u := U) (U := U.calling g mk a) rfl (q.2.2.2.2.2 z hz)⟩
theorem PC_pre {D : va_G} {cI cZ : ClassId} {av : List Value} {ws : va_W} {s : State} {H : Heap} {A : Nat → Prop} (hK : va_K D classes (TYS cI cZ) s) (hP : va_P D classes ws H) (hD : va_D A ws) (hN : zN s) : ∀ U : State, U.heap = H → s.WarmedH U.vm → PC D cI cZ av H.size ws av.toArray U := fun U hU hW => ⟨rfl, by rw [hU], by rw [hU]; exact hP, va_K.moved hW.alike hK, hD.weaken (fun _ _ _ _ => trivial), hN.warm hW⟩
/-- the contract of a method that answers an int (or a boolean) -/
def KI (l : Launch) (y : MethodName) (cc : ByteArray) (n : Nat) (ret : Option FieldType) (rm : Room) (D : va_G) (cI cZ : ClassId) {S : Type} (av : List Value) (sz : Nat) (ws : va_W) (post : Int32 → S → Prop) (w1 : S → va_W) : Prop :=
  Met l y (Cond.code y cc n ret :: BG) rm (PC D cI cZ av sz ws) (va_Qi post (fun u t => WD D (va_A ws sz) (w1 u) t) (va_A ws sz)) rm.cells rm.slots (va_A ws sz)
/-- the contract of a void method -/
def KV (l : Launch) (y : MethodName) (cc : ByteArray) (n : Nat) (rm : Room) (D : va_G) (cI cZ : ClassId) {S : Type} (av : List Value) (sz : Nat) (ws : va_W) (post : S → Prop) (w1 : S → va_W) : Prop :=
  Met l y (Cond.code y cc n none :: BG) rm (PC D cI cZ av sz ws) (va_Qv post (fun u t => WD D (va_A ws sz) (w1 u) t) (va_A ws sz)) rm.cells rm.slots (va_A ws sz)
theorem KI.go {l : Launch} {y : MethodName} {cc : ByteArray} {n : Nat} {ty : FieldType} {rm : Room} {D : va_G} {cI cZ : ClassId} {S : Type} {av : List Value} {sz : Nat} {ws : va_W} {post : Int32 → S → Prop} {w1 : S → va_W} (hy : plainName y.cls = true) (hav : (lg_sl av).length ≤ n)
    (body : ∀ (p : Program) (e : Env) (s : State) (m : MethodId) (args : Array Value) (below : List Frame) (meth : Method) (c : Code) (ls : Array Slot) (A : Nat → Prop) (Q : State → Prop), p.tables.exec = Jvm.exec → c.code = cc → c.maxLocals = n → (∀ w ∈ BG, w.before args s = true) → s.vm.findClass y.cls = some m.cls → meth.name = y.name → va_P D classes ws s.heap → va_K D classes (TYS cI cZ) s → va_D A ws → va_S A s.heap s.heap [] → (∀ q, s.heap.size ≤ q → A q) → zN s → lv_has ls n (lv_args 0 av) →
      (∀ (v : Int32) (u : S) (H : Heap) (locs : List Loc) (ls : Array Slot) (pc : Nat), decode cc pc = .ok (.ireturn, 1) → narrow ty (.int v) = .int v → post v u → va_P D classes (w1 u) H → va_D A (w1 u) → va_S A s.heap H locs → W p l e rm s m args below meth c H locs rm.cells rm.slots Q (F0 m pc ls [.int v])) →
      W p l e rm s m args below meth c s.heap [] 0 0 Q (F0 m 0 ls [])) : KI l y cc n (some ty) rm D cI cZ av sz ws post w1 := by
  refine Met.ofW (cc := cc) (maxL := n) (ret := some ty) hy rfl ?_
  intro p e s m args below meth c s₁ B hml hv
  obtain ⟨rfl, hsz, hP, hK, hD0, hN⟩ := hv
  have hts0 := atoms_spec (ws := Cond.code y cc n (some ty) :: BG) B.pre
  subst hsz
  have hl := lv_entry av (n := n) hav
  rw [lg_entry_eq]
  refine body p e s m av.toArray below meth c _ _ _ B.exec B.bytes hml (fun w h => hts0 w (List.mem_cons_of_mem _ h)) (findClass_of_methodNamed B.named) (name_of_methodNamed B.named B.method).1 hP hK (hD0.self (sz := s.heap.size)) va_S.rf (fun q h => Or.inr h) hN hl ?_
  intro v u H locs ls pc hdg hn hpost hP1 hD1 hS
  exact W.zret (v := v) B.exec B.bytes B.returns hn (fun t ht hW => ⟨⟨v, u, rfl, hpost, by rw [ht]; exact hP1, hD1⟩, hS.F ht⟩) hS.2.2 hdg B.notSynchronized
theorem KV.go {l : Launch} {y : MethodName} {cc : ByteArray} {n : Nat} {rm : Room} {D : va_G} {cI cZ : ClassId} {S : Type} {av : List Value} {sz : Nat} {ws : va_W} {post : S → Prop} {w1 : S → va_W} (hy : plainName y.cls = true) (hav : (lg_sl av).length ≤ n)
    (body : ∀ (p : Program) (e : Env) (s : State) (m : MethodId) (args : Array Value) (below : List Frame) (meth : Method) (c : Code) (ls : Array Slot) (A : Nat → Prop) (Q : State → Prop), p.tables.exec = Jvm.exec → c.code = cc → c.maxLocals = n → (∀ w ∈ BG, w.before args s = true) → s.vm.findClass y.cls = some m.cls → meth.name = y.name → va_P D classes ws s.heap → va_K D classes (TYS cI cZ) s → va_D A ws → va_S A s.heap s.heap [] → (∀ q, s.heap.size ≤ q → A q) → zN s → lv_has ls n (lv_args 0 av) →
      (∀ (u : S) (H : Heap) (locs : List Loc) (ls : Array Slot) (pc : Nat), decode cc pc = .ok (.return_, 1) → post u → va_P D classes (w1 u) H → va_D A (w1 u) → va_S A s.heap H locs → W p l e rm s m args below meth c H locs rm.cells rm.slots Q (F0 m pc ls [])) →
      W p l e rm s m args below meth c s.heap [] 0 0 Q (F0 m 0 ls [])) : KV l y cc n rm D cI cZ av sz ws post w1 := by
  refine Met.ofW (cc := cc) (maxL := n) (ret := none) hy rfl ?_
  intro p e s m args below meth c s₁ B hml hv
  obtain ⟨rfl, hsz, hP, hK, hD0, hN⟩ := hv
  have hts0 := atoms_spec (ws := Cond.code y cc n none :: BG) B.pre
  subst hsz
  have hl := lv_entry av (n := n) hav
  rw [lg_entry_eq]
  refine body p e s m av.toArray below meth c _ _ _ B.exec B.bytes hml (fun w h => hts0 w (List.mem_cons_of_mem _ h)) (findClass_of_methodNamed B.named) (name_of_methodNamed B.named B.method).1 hP hK (hD0.self (sz := s.heap.size)) va_S.rf (fun q h => Or.inr h) hN hl ?_
  intro u H locs ls pc hdg hpost hP1 hD1 hS
  exact W.vret B.exec B.bytes B.returns (fun t ht hW => ⟨⟨u, rfl, hpost, by rw [ht]; exact hP1, hD1⟩, hS.F ht⟩) hS.2.2 hdg B.notSynchronized
section CALLS
variable {p : Program} {l : Launch} {e : Env} {R : Room} {s : State} {m : MethodId} {args : Array Value} {below : List Frame} {meth : Method} {c : Code} {H H0 : Heap} {locs : List Loc} {cells slots : Nat} {Q : State → Prop} {D : va_G} {cI cZ : ClassId} {A : Nat → Prop} {ws wc wr : va_W} {rm : Room} {pc : Nat} {ls : Array Slot} {st0 rest : List Value} {a : Array Value} {S : Type} {cc : ByteArray} {own : String}
theorem fin_i {post : Int32 → S → Prop} {w1 : S → va_W} (hP : va_P D classes ws H) (hD : va_D A ws) (hS : va_S A H0 H locs) (hA : ∀ q, H0.size ≤ q → A q) (isC isR : List Nat) (hC : isC.map (fun i => ws[i]?) = wc.map some) (hR : isR.map (fun i => ws[i]?) = wr.map some) (hn : va_nd isR = true) (hdis : ∀ i ∈ isR, i ∉ isC)
    (hr : va_Run p l e R s m args below meth c H locs cells slots rm.cells rm.slots (F0 m pc ls st0) rest (va_Qi post (fun u t => WD D (va_A wc H.size) (w1 u) t) (va_A wc H.size) a) (va_A wc H.size))
    (kk : ∀ (r : Int32) (u : S) (H1 : Heap) (locs1 : List Loc), post r u → va_P D classes (wr ++ w1 u) H1 → va_D A (wr ++ w1 u) → va_S A H0 H1 locs1 → W p l e R s m args below meth c H1 locs1 (cells + rm.cells) (slots + rm.slots) Q (F0 m (pc + 3) ls (.int r :: rest))) : W p l e R s m args below meth c H locs cells slots Q (F0 m pc ls st0) := by
  have hFc := va_free hD hS hA isC hC
  refine va_calli hr hS (fun q _ h => hFc q h) hFc (fun r u t H1 locs1 ht hvm hw hB hz1 hk1 hS1 => ?_)
  obtain ⟨hP1, hD1⟩ := hB
  rw [ht] at hP1
  obtain ⟨hP2, hD2⟩ := va_join hP hD isC isR hC hR hn hdis hk1 hFc hP1 hD1
  exact kk r u H1 locs1 hw hP2 hD2 hS1
theorem fin_v {post : S → Prop} {w1 : S → va_W} (hP : va_P D classes ws H) (hD : va_D A ws) (hS : va_S A H0 H locs) (hA : ∀ q, H0.size ≤ q → A q) (isC isR : List Nat) (hC : isC.map (fun i => ws[i]?) = wc.map some) (hR : isR.map (fun i => ws[i]?) = wr.map some) (hn : va_nd isR = true) (hdis : ∀ i ∈ isR, i ∉ isC)
    (hr : va_Run p l e R s m args below meth c H locs cells slots rm.cells rm.slots (F0 m pc ls st0) rest (va_Qv post (fun u t => WD D (va_A wc H.size) (w1 u) t) (va_A wc H.size) a) (va_A wc H.size))
    (kk : ∀ (u : S) (H1 : Heap) (locs1 : List Loc), post u → va_P D classes (wr ++ w1 u) H1 → va_D A (wr ++ w1 u) → va_S A H0 H1 locs1 → W p l e R s m args below meth c H1 locs1 (cells + rm.cells) (slots + rm.slots) Q (F0 m (pc + 3) ls rest)) : W p l e R s m args below meth c H locs cells slots Q (F0 m pc ls st0) := by
  have hFc := va_free hD hS hA isC hC
  refine va_callv hr hS (fun q _ h => hFc q h) hFc (fun u t H1 locs1 ht hvm hw hB hz1 hk1 hS1 => ?_)
  obtain ⟨hP1, hD1⟩ := hB
  rw [ht] at hP1
  obtain ⟨hP2, hD2⟩ := va_join hP hD isC isR hC hR hn hdis hk1 hFc hP1 hD1
  exact kk u H1 locs1 hw hP2 hD2 hS1
/-- the words that a method wants wherever it is called -/
def okM (y : MethodName) (bytes : ByteArray) (maxL : Nat) (ret : Option FieldType) (n : Nat) : Prop := Cond.code y bytes maxL ret ∈ BG ∧ Cond.initialized y.cls ∈ BG ∧ (y.cls ≠ "java/lang/invoke/MethodHandle" ∧ y.cls ≠ "java/lang/invoke/VarHandle" ∧ (parseMethodDescriptor y.desc).map (fun d => d.parameters.length) = some n)
def okV (y : MethodName) (bytes : ByteArray) (maxL : Nat) (ret : Option FieldType) (n : Nat) : Prop := okM y bytes maxL ret n ∧ Cond.instanceMethod y ∈ BG ∧ Cond.selects y.cls y y ∈ BG
def okS (y : MethodName) (bytes : ByteArray) (maxL : Nat) (ret : Option FieldType) (n : Nat) : Prop := okM y bytes maxL ret n ∧ Cond.static y ∈ BG
def okI (y : MethodName) (bytes : ByteArray) (maxL : Nat) (n : Nat) : Prop := okM y bytes maxL none n ∧ Cond.instanceMethod y ∈ BG ∧ y.name = "<init>"
variable {y : MethodName} {bytes : ByteArray} {maxL nL index : Nat} {ret : Option FieldType} {As : List Value} {b : Nat}
theorem cB (hts : ∀ w ∈ BG, w.before args s = true) (ok : okM y bytes maxL ret As.length) (hlink : Cond.methodLink own index y ∈ BG) (hR1 : rm.frames + 1 ≤ R.frames) (hR2 : 8 + (maxL + 11) + rm.locals ≤ R.locals) : CallB R s args own index y bytes maxL ret (Cond.code y bytes maxL ret :: BG) rm rm.cells rm.slots As.length :=
  callB_of As.length hts (gB ok.1) rfl rfl rfl (hts _ ok.2.1) (hts _ hlink) ok.2.2 ⟨hR1, hR2⟩
theorem cutP {isC : List Nat} (hP : va_P D classes ws H) (hC : isC.map (fun i => ws[i]?) = wc.map some) : va_P D classes wc H := fun k q hk => by
  have h1 : (wc.map some)[k]? = some (some q) := by rw [List.getElem?_map, hk]; rfl
  rw [← hC, List.getElem?_map] at h1
  cases hi : isC[k]? with
  | none => rw [hi] at h1; cases h1
  | some i => rw [hi] at h1; exact hP i q (Option.some.inj h1)
theorem cutD {isC : List Nat} (hD : va_D A ws) (hC : isC.map (fun i => ws[i]?) = wc.map some) (hnd : va_nd isC = true) : va_D A wc := by
  have g1 : ∀ (k : Nat) (q : Nat × va_E), wc[k]? = some q → ∃ i, isC[k]? = some i ∧ ws[i]? = some q := fun k q hk => by
    have h1 : (wc.map some)[k]? = some (some q) := by rw [List.getElem?_map, hk]; rfl
    rw [← hC, List.getElem?_map] at h1
    cases hi : isC[k]? with
    | none => rw [hi] at h1; cases h1
    | some i => rw [hi] at h1; exact ⟨i, rfl, Option.some.inj h1⟩
  refine ⟨fun i j x y hi hj hxy => ?_, fun k q hk => ?_⟩
  · obtain ⟨i1, a1, a2⟩ := g1 i x hi
    obtain ⟨j1, b1, b2⟩ := g1 j y hj
    have h2 := hD.1 i1 j1 x y a2 b2 hxy
    subst h2
    exact va_nd_inj isC hnd i j i1 a1 b1
  · obtain ⟨i1, a1, a2⟩ := g1 k q hk
    exact hD.2 i1 q a2
theorem cVi {post : Int32 → S → Prop} {w1 : S → va_W} (hM : KI l y bytes maxL ret rm D cI cZ (.ref b :: As) H.size wc post w1) (ok : okV y bytes maxL ret As.length) (hlink : Cond.methodLink own index y ∈ BG) (hx : p.tables.exec = Jvm.exec) (hb : c.code = cc) (hml : c.maxLocals = nL) (hown : s.vm.findClass own = some m.cls) (hts : ∀ w ∈ BG, w.before args s = true) (hK : va_K D classes (TYS cI cZ) s) (hP : va_P D classes ws H) (hD : va_D A ws) (hS : va_S A H0 H locs) (hA : ∀ q, H0.size ≤ q → A q) (hN : zN s) (hsz : ls.size = nL) (isC isR : List Nat) (hC : isC.map (fun i => ws[i]?) = wc.map some) (hR : isR.map (fun i => ws[i]?) = wr.map some) (hnC : va_nd isC = true) (hnR : va_nd isR = true) (hdis : ∀ i ∈ isR, i ∉ isC) {ci : Nat} {fs : List Value} {T : u_T} {N : Nat} (hrec : wc[0]? = some (b, .inr (ci, fs))) (hcl : classes[ci]? = some (y.cls, T, N)) (hst : st0 = As.reverse ++ .ref b :: rest) (hroom : (rest.map fun v => v.category).sum ≤ 8) (hR1 : rm.frames + 1 ≤ R.frames) (hR2 : 8 + (maxL + 11) + rm.locals ≤ R.locals) (hR3 : cells + rm.cells ≤ R.cells) (hR4 : slots + rm.slots ≤ R.slots) (hdg : decode cc pc = .ok (.invokevirtual index, 3))
    (kk : ∀ (r : Int32) (u : S) (H1 : Heap) (locs1 : List Loc), post r u → va_P D classes (wr ++ w1 u) H1 → va_D A (wr ++ w1 u) → va_S A H0 H1 locs1 → W p l e R s m args below meth c H1 locs1 (cells + rm.cells) (slots + rm.slots) Q (F0 m (pc + 3) ls (.int r :: rest))) : W p l e R s m args below meth c H locs cells slots Q (F0 m pc ls st0) := by
  have hPc := cutP hP hC
  have hDc := cutD hD hC hnC
  exact fin_i hP hD hS hA isC isR hC hR hnR hdis (va_runV (As := As) (rest := rest) ⟨hx, hb, hml, hown, hts⟩ hM ⟨cB hts ok.1 hlink hR1 hR2, hts _ ok.2.1, hts _ ok.2.2⟩ ⟨PC_blind, va_recv hK hPc hcl hrec, PC_pre hK hPc hDc hN⟩ rfl rfl hsz hst (lv_room hroom) hdg ⟨hR3, hR4⟩) kk
theorem cVv {post : S → Prop} {w1 : S → va_W} (hM : KV l y bytes maxL rm D cI cZ (.ref b :: As) H.size wc post w1) (ok : okV y bytes maxL none As.length) (hlink : Cond.methodLink own index y ∈ BG) (hx : p.tables.exec = Jvm.exec) (hb : c.code = cc) (hml : c.maxLocals = nL) (hown : s.vm.findClass own = some m.cls) (hts : ∀ w ∈ BG, w.before args s = true) (hK : va_K D classes (TYS cI cZ) s) (hP : va_P D classes ws H) (hD : va_D A ws) (hS : va_S A H0 H locs) (hA : ∀ q, H0.size ≤ q → A q) (hN : zN s) (hsz : ls.size = nL) (isC isR : List Nat) (hC : isC.map (fun i => ws[i]?) = wc.map some) (hR : isR.map (fun i => ws[i]?) = wr.map some) (hnC : va_nd isC = true) (hnR : va_nd isR = true) (hdis : ∀ i ∈ isR, i ∉ isC) {ci : Nat} {fs : List Value} {T : u_T} {N : Nat} (hrec : wc[0]? = some (b, .inr (ci, fs))) (hcl : classes[ci]? = some (y.cls, T, N)) (hst : st0 = As.reverse ++ .ref b :: rest) (hroom : (rest.map fun v => v.category).sum ≤ 8) (hR1 : rm.frames + 1 ≤ R.frames) (hR2 : 8 + (maxL + 11) + rm.locals ≤ R.locals) (hR3 : cells + rm.cells ≤ R.cells) (hR4 : slots + rm.slots ≤ R.slots) (hdg : decode cc pc = .ok (.invokevirtual index, 3))
    (kk : ∀ (u : S) (H1 : Heap) (locs1 : List Loc), post u → va_P D classes (wr ++ w1 u) H1 → va_D A (wr ++ w1 u) → va_S A H0 H1 locs1 → W p l e R s m args below meth c H1 locs1 (cells + rm.cells) (slots + rm.slots) Q (F0 m (pc + 3) ls rest)) : W p l e R s m args below meth c H locs cells slots Q (F0 m pc ls st0) := by
  have hPc := cutP hP hC
  have hDc := cutD hD hC hnC
  exact fin_v hP hD hS hA isC isR hC hR hnR hdis (va_runV (As := As) (rest := rest) ⟨hx, hb, hml, hown, hts⟩ hM ⟨cB hts ok.1 hlink hR1 hR2, hts _ ok.2.1, hts _ ok.2.2⟩ ⟨PC_blind, va_recv hK hPc hcl hrec, PC_pre hK hPc hDc hN⟩ rfl rfl hsz hst (lv_room hroom) hdg ⟨hR3, hR4⟩) kk
theorem cSi {post : Int32 → S → Prop} {w1 : S → va_W} (hM : KI l y bytes maxL ret rm D cI cZ As H.size wc post w1) (ok : okS y bytes maxL ret As.length) (hlink : Cond.methodLink own index y ∈ BG) (hx : p.tables.exec = Jvm.exec) (hb : c.code = cc) (hml : c.maxLocals = nL) (hown : s.vm.findClass own = some m.cls) (hts : ∀ w ∈ BG, w.before args s = true) (hK : va_K D classes (TYS cI cZ) s) (hP : va_P D classes ws H) (hD : va_D A ws) (hS : va_S A H0 H locs) (hA : ∀ q, H0.size ≤ q → A q) (hN : zN s) (hsz : ls.size = nL) (isC isR : List Nat) (hC : isC.map (fun i => ws[i]?) = wc.map some) (hR : isR.map (fun i => ws[i]?) = wr.map some) (hnC : va_nd isC = true) (hnR : va_nd isR = true) (hdis : ∀ i ∈ isR, i ∉ isC) (hst : st0 = As.reverse ++ rest) (hroom : (rest.map fun v => v.category).sum ≤ 8) (hR1 : rm.frames + 1 ≤ R.frames) (hR2 : 8 + (maxL + 11) + rm.locals ≤ R.locals) (hR3 : cells + rm.cells ≤ R.cells) (hR4 : slots + rm.slots ≤ R.slots) (hdg : decode cc pc = .ok (.invokestatic index, 3))
    (kk : ∀ (r : Int32) (u : S) (H1 : Heap) (locs1 : List Loc), post r u → va_P D classes (wr ++ w1 u) H1 → va_D A (wr ++ w1 u) → va_S A H0 H1 locs1 → W p l e R s m args below meth c H1 locs1 (cells + rm.cells) (slots + rm.slots) Q (F0 m (pc + 3) ls (.int r :: rest))) : W p l e R s m args below meth c H locs cells slots Q (F0 m pc ls st0) := by
  have hPc := cutP hP hC
  have hDc := cutD hD hC hnC
  exact fin_i hP hD hS hA isC isR hC hR hnR hdis (va_runS (As := As) (rest := rest) ⟨hx, hb, hml, hown, hts⟩ hM ⟨cB hts ok.1 hlink hR1 hR2, hts _ ok.2⟩ ⟨PC_blind, PC_pre hK hPc hDc hN⟩ rfl rfl hsz hst (lv_room hroom) hdg ⟨hR3, hR4⟩) kk
theorem cSv {post : S → Prop} {w1 : S → va_W} (hM : KV l y bytes maxL rm D cI cZ As H.size wc post w1) (ok : okS y bytes maxL none As.length) (hlink : Cond.methodLink own index y ∈ BG) (hx : p.tables.exec = Jvm.exec) (hb : c.code = cc) (hml : c.maxLocals = nL) (hown : s.vm.findClass own = some m.cls) (hts : ∀ w ∈ BG, w.before args s = true) (hK : va_K D classes (TYS cI cZ) s) (hP : va_P D classes ws H) (hD : va_D A ws) (hS : va_S A H0 H locs) (hA : ∀ q, H0.size ≤ q → A q) (hN : zN s) (hsz : ls.size = nL) (isC isR : List Nat) (hC : isC.map (fun i => ws[i]?) = wc.map some) (hR : isR.map (fun i => ws[i]?) = wr.map some) (hnC : va_nd isC = true) (hnR : va_nd isR = true) (hdis : ∀ i ∈ isR, i ∉ isC) (hst : st0 = As.reverse ++ rest) (hroom : (rest.map fun v => v.category).sum ≤ 8) (hR1 : rm.frames + 1 ≤ R.frames) (hR2 : 8 + (maxL + 11) + rm.locals ≤ R.locals) (hR3 : cells + rm.cells ≤ R.cells) (hR4 : slots + rm.slots ≤ R.slots) (hdg : decode cc pc = .ok (.invokestatic index, 3))
    (kk : ∀ (u : S) (H1 : Heap) (locs1 : List Loc), post u → va_P D classes (wr ++ w1 u) H1 → va_D A (wr ++ w1 u) → va_S A H0 H1 locs1 → W p l e R s m args below meth c H1 locs1 (cells + rm.cells) (slots + rm.slots) Q (F0 m (pc + 3) ls rest)) : W p l e R s m args below meth c H locs cells slots Q (F0 m pc ls st0) := by
  have hPc := cutP hP hC
  have hDc := cutD hD hC hnC
  exact fin_v hP hD hS hA isC isR hC hR hnR hdis (va_runS (As := As) (rest := rest) ⟨hx, hb, hml, hown, hts⟩ hM ⟨cB hts ok.1 hlink hR1 hR2, hts _ ok.2⟩ ⟨PC_blind, PC_pre hK hPc hDc hN⟩ rfl rfl hsz hst (lv_room hroom) hdg ⟨hR3, hR4⟩) kk
theorem cNi {post : Int32 → S → Prop} {w1 : S → va_W} (hM : KI l y bytes maxL ret rm D cI cZ As H.size wc post w1) (ok : okS y bytes maxL ret As.length) {host : String} (k : Nat) (hlink : NM[k]? = some (own, index, y, host)) (hx : p.tables.exec = Jvm.exec) (hb : c.code = cc) (hml : c.maxLocals = nL) (hown : s.vm.findClass own = some m.cls) (hts : ∀ w ∈ BG, w.before args s = true) (hK : va_K D classes (TYS cI cZ) s) (hP : va_P D classes ws H) (hD : va_D A ws) (hS : va_S A H0 H locs) (hA : ∀ q, H0.size ≤ q → A q) (hN : zN s) (hsz : ls.size = nL) (isC isR : List Nat) (hC : isC.map (fun i => ws[i]?) = wc.map some) (hR : isR.map (fun i => ws[i]?) = wr.map some) (hnC : va_nd isC = true) (hnR : va_nd isR = true) (hdis : ∀ i ∈ isR, i ∉ isC) (hst : st0 = As.reverse ++ rest) (hroom : (rest.map fun v => v.category).sum ≤ 8) (hR1 : rm.frames + 1 ≤ R.frames) (hR2 : 8 + (maxL + 11) + rm.locals ≤ R.locals) (hR3 : cells + rm.cells ≤ R.cells) (hR4 : slots + rm.slots ≤ R.slots) (hdg : decode cc pc = .ok (.invokestatic index, 3))
    (kk : ∀ (r : Int32) (u : S) (H1 : Heap) (locs1 : List Loc), post r u → va_P D classes (wr ++ w1 u) H1 → va_D A (wr ++ w1 u) → va_S A H0 H1 locs1 → W p l e R s m args below meth c H1 locs1 (cells + rm.cells) (slots + rm.slots) Q (F0 m (pc + 3) ls (.int r :: rest))) : W p l e R s m args below meth c H locs cells slots Q (F0 m pc ls st0) := by
  have hPc := cutP hP hC
  have hDc := cutD hD hC hnC
  exact fin_i hP hD hS hA isC isR hC hR hnR hdis (va_runSN (As := As) (rest := rest) ⟨hx, hb, hml, hown, hts⟩ hM ⟨⟨⟨rfl, rfl, hR1, hR2, pay_in hts (gB ok.1.1), List.mem_cons_self⟩, hts _ ok.1.1, hts _ ok.1.2.1, ⟨ok.1.2.2.1, ok.1.2.2.2.1⟩, fun sig h => by have h2 := ok.1.2.2.2.2; rw [h] at h2; exact (Option.some.inj h2).symm, va_Nw.use rfl (hN.m k hlink)⟩, hts _ ok.2, trivial⟩ ⟨PC_blind, PC_pre hK hPc hDc hN⟩ rfl rfl hsz hst (lv_room hroom) hdg ⟨hR3, hR4⟩) kk
theorem cNv {post : S → Prop} {w1 : S → va_W} (hM : KV l y bytes maxL rm D cI cZ As H.size wc post w1) (ok : okS y bytes maxL none As.length) {host : String} (k : Nat) (hlink : NM[k]? = some (own, index, y, host)) (hx : p.tables.exec = Jvm.exec) (hb : c.code = cc) (hml : c.maxLocals = nL) (hown : s.vm.findClass own = some m.cls) (hts : ∀ w ∈ BG, w.before args s = true) (hK : va_K D classes (TYS cI cZ) s) (hP : va_P D classes ws H) (hD : va_D A ws) (hS : va_S A H0 H locs) (hA : ∀ q, H0.size ≤ q → A q) (hN : zN s) (hsz : ls.size = nL) (isC isR : List Nat) (hC : isC.map (fun i => ws[i]?) = wc.map some) (hR : isR.map (fun i => ws[i]?) = wr.map some) (hnC : va_nd isC = true) (hnR : va_nd isR = true) (hdis : ∀ i ∈ isR, i ∉ isC) (hst : st0 = As.reverse ++ rest) (hroom : (rest.map fun v => v.category).sum ≤ 8) (hR1 : rm.frames + 1 ≤ R.frames) (hR2 : 8 + (maxL + 11) + rm.locals ≤ R.locals) (hR3 : cells + rm.cells ≤ R.cells) (hR4 : slots + rm.slots ≤ R.slots) (hdg : decode cc pc = .ok (.invokestatic index, 3))
    (kk : ∀ (u : S) (H1 : Heap) (locs1 : List Loc), post u → va_P D classes (wr ++ w1 u) H1 → va_D A (wr ++ w1 u) → va_S A H0 H1 locs1 → W p l e R s m args below meth c H1 locs1 (cells + rm.cells) (slots + rm.slots) Q (F0 m (pc + 3) ls rest)) : W p l e R s m args below meth c H locs cells slots Q (F0 m pc ls st0) := by
  have hPc := cutP hP hC
  have hDc := cutD hD hC hnC
  exact fin_v hP hD hS hA isC isR hC hR hnR hdis (va_runSN (As := As) (rest := rest) ⟨hx, hb, hml, hown, hts⟩ hM ⟨⟨⟨rfl, rfl, hR1, hR2, pay_in hts (gB ok.1.1), List.mem_cons_self⟩, hts _ ok.1.1, hts _ ok.1.2.1, ⟨ok.1.2.2.1, ok.1.2.2.2.1⟩, fun sig h => by have h2 := ok.1.2.2.2.2; rw [h] at h2; exact (Option.some.inj h2).symm, va_Nw.use rfl (hN.m k hlink)⟩, hts _ ok.2, trivial⟩ ⟨PC_blind, PC_pre hK hPc hDc hN⟩ rfl rfl hsz hst (lv_room hroom) hdg ⟨hR3, hR4⟩) kk
theorem cIv {post : S → Prop} {w1 : S → va_W} (hM : KV l y bytes maxL rm D cI cZ (.ref b :: As) H.size wc post w1) (ok : okI y bytes maxL As.length) (hlink : Cond.methodLink own index y ∈ BG) (hx : p.tables.exec = Jvm.exec) (hb : c.code = cc) (hml : c.maxLocals = nL) (hown : s.vm.findClass own = some m.cls) (hts : ∀ w ∈ BG, w.before args s = true) (hK : va_K D classes (TYS cI cZ) s) (hP : va_P D classes ws H) (hD : va_D A ws) (hS : va_S A H0 H locs) (hA : ∀ q, H0.size ≤ q → A q) (hN : zN s) (hsz : ls.size = nL) (isC isR : List Nat) (hC : isC.map (fun i => ws[i]?) = wc.map some) (hR : isR.map (fun i => ws[i]?) = wr.map some) (hnC : va_nd isC = true) (hnR : va_nd isR = true) (hdis : ∀ i ∈ isR, i ∉ isC) (hst : st0 = As.reverse ++ .ref b :: rest) (hroom : (rest.map fun v => v.category).sum ≤ 8) (hR1 : rm.frames + 1 ≤ R.frames) (hR2 : 8 + (maxL + 11) + rm.locals ≤ R.locals) (hR3 : cells + rm.cells ≤ R.cells) (hR4 : slots + rm.slots ≤ R.slots) (hdg : decode cc pc = .ok (.invokespecial index, 3))
    (kk : ∀ (u : S) (H1 : Heap) (locs1 : List Loc), post u → va_P D classes (wr ++ w1 u) H1 → va_D A (wr ++ w1 u) → va_S A H0 H1 locs1 → W p l e R s m args below meth c H1 locs1 (cells + rm.cells) (slots + rm.slots) Q (F0 m (pc + 3) ls rest)) : W p l e R s m args below meth c H locs cells slots Q (F0 m pc ls st0) := by
  have hPc := cutP hP hC
  have hDc := cutD hD hC hnC
  exact fin_v hP hD hS hA isC isR hC hR hnR hdis (va_runI (As := As) (rest := rest) ⟨hx, hb, hml, hown, hts⟩ hM ⟨cB hts ok.1 hlink hR1 hR2, ok.2.2, hts _ ok.2.1⟩ ⟨PC_blind, PC_pre hK hPc hDc hN⟩ rfl rfl hsz hst (lv_room hroom) hdg ⟨hR3, hR4⟩) kk
theorem cMv {post : S → Prop} {w1 : S → va_W} (hM : KV l y bytes maxL rm D cI cZ (.ref b :: As) H.size wc post w1) (ok : okI y bytes maxL As.length) {host : String} (k : Nat) (hlink : NM[k]? = some (own, index, y, host)) (hx : p.tables.exec = Jvm.exec) (hb : c.code = cc) (hml : c.maxLocals = nL) (hown : s.vm.findClass own = some m.cls) (hts : ∀ w ∈ BG, w.before args s = true) (hK : va_K D classes (TYS cI cZ) s) (hP : va_P D classes ws H) (hD : va_D A ws) (hS : va_S A H0 H locs) (hA : ∀ q, H0.size ≤ q → A q) (hN : zN s) (hsz : ls.size = nL) (isC isR : List Nat) (hC : isC.map (fun i => ws[i]?) = wc.map some) (hR : isR.map (fun i => ws[i]?) = wr.map some) (hnC : va_nd isC = true) (hnR : va_nd isR = true) (hdis : ∀ i ∈ isR, i ∉ isC) (hst : st0 = As.reverse ++ .ref b :: rest) (hroom : (rest.map fun v => v.category).sum ≤ 8) (hR1 : rm.frames + 1 ≤ R.frames) (hR2 : 8 + (maxL + 11) + rm.locals ≤ R.locals) (hR3 : cells + rm.cells ≤ R.cells) (hR4 : slots + rm.slots ≤ R.slots) (hdg : decode cc pc = .ok (.invokespecial index, 3))
    (kk : ∀ (u : S) (H1 : Heap) (locs1 : List Loc), post u → va_P D classes (wr ++ w1 u) H1 → va_D A (wr ++ w1 u) → va_S A H0 H1 locs1 → W p l e R s m args below meth c H1 locs1 (cells + rm.cells) (slots + rm.slots) Q (F0 m (pc + 3) ls rest)) : W p l e R s m args below meth c H locs cells slots Q (F0 m pc ls st0) := by
  have hPc := cutP hP hC
  have hDc := cutD hD hC hnC
  exact fin_v hP hD hS hA isC isR hC hR hnR hdis (va_runIN (As := As) (rest := rest) ⟨hx, hb, hml, hown, hts⟩ hM ⟨⟨⟨rfl, rfl, hR1, hR2, pay_in hts (gB ok.1.1), List.mem_cons_self⟩, hts _ ok.1.1, hts _ ok.1.2.1, ⟨ok.1.2.2.1, ok.1.2.2.2.1⟩, fun sig h => by have h2 := ok.1.2.2.2.2; rw [h] at h2; exact (Option.some.inj h2).symm, va_Nw.use rfl (hN.m k hlink)⟩, ok.2.2, hts _ ok.2.1⟩ ⟨PC_blind, PC_pre hK hPc hDc hN⟩ rfl rfl hsz hst (lv_room hroom) hdg ⟨hR3, hR4⟩) kk
end CALLS
/-- the class of a new array of ints, of booleans is the one that is known -/
theorem K_int {D : va_G} {cI cZ cA : ClassId} {s : State} (h : va_K D classes (TYS cI cZ ++ [(cA, .int)]) s) : cA = cI := by
  have h1 := (h.2 0 (cI, .int) rfl).2
  have h2 := (h.2 2 (cA, .int) rfl).2
  exact (Option.some.inj (h1.symm.trans h2)).symm
theorem K_bool {D : va_G} {cI cZ cA : ClassId} {s : State} (h : va_K D classes (TYS cI cZ ++ [(cA, .boolean)]) s) : cA = cZ := by
  have h1 := (h.2 1 (cZ, .boolean) rfl).2
  have h2 := (h.2 2 (cA, .boolean) rfl).2
  exact (Option.some.inj (h1.symm.trans h2)).symm
theorem K_start {D : va_G} {s : State} {args : Array Value} (h : ∀ (k : Nat) (q : vw_C), classes[k]? = some q → u_Kn s q.1 q.2.1 q.2.2 (D.1 k) (D.2 k)) (hi : (Cond.arrayClass .int).before args s = true) (hz : (Cond.arrayClass .boolean).before args s = true) : ∃ cI cZ, va_K D classes (TYS cI cZ) s := by
  obtain ⟨cA, kA, comp, hfind, hk, hkind⟩ := Cond.arrayClass_spec hi
  obtain ⟨cB, kB, compB, hfindB, hkB, hkindB⟩ := Cond.arrayClass_spec hz
  refine ⟨cA, cB, h, fun k q hq => ?_⟩
  match k, hq with
  | 0, hq => cases hq; exact ⟨fun n z => ⟨fun k h => (by cases h), kA, hk, comp, hkind⟩, hfind⟩
  | 1, hq => cases hq; exact ⟨fun n z => ⟨fun k h => (by cases h), kB, hkB, compB, hkindB⟩, hfindB⟩
  | k + 2, hq => simp at hq
def z0 : Nat → Int32 := fun _ => 0
theorem z0_int (n : Nat) (cA : ClassId) : vp_cell cA (n, .inl z0) = arrV cA n (fun _ => defaultValue .int) := rfl
theorem z0_bool (n : Nat) (cA : ClassId) : vp_cell cA (n, .inl z0) = arrV cA n (fun _ => defaultValue .boolean) := rfl
theorem BG_at {w : Cond} (k : Nat) (h1 : tables_1[k]? = some w) (h2 : goodWord w = true) : w ∈ BG := BG_in (List.mem_append_right _ (List.mem_of_getElem? h1)) h2
end
section
theorem dX9_at_0 : decode cX9_at 0 = .ok (.iload_n 1, 1) := by decide +kernel
theorem dX9_at_1 : decode cX9_at 1 = .ok (.ifCond .lt 15, 3) := by decide +kernel
theorem dX9_at_16 : decode cX9_at 16 = .ok (.iconst 0, 1) := by decide +kernel
theorem dX9_at_17 : decode cX9_at 17 = .ok (.ireturn, 1) := by decide +kernel
theorem dX9_at_4 : decode cX9_at 4 = .ok (.iload_n 1, 1) := by decide +kernel
theorem dX9_at_5 : decode cX9_at 5 = .ok (.aload_n 0, 1) := by decide +kernel
theorem dX9_at_6 : decode cX9_at 6 = .ok (.arraylength, 1) := by decide +kernel
theorem dX9_at_7 : decode cX9_at 7 = .ok (.if_icmp .ge 9, 3) := by decide +kernel
theorem dX9_at_10 : decode cX9_at 10 = .ok (.aload_n 0, 1) := by decide +kernel
theorem dX9_at_11 : decode cX9_at 11 = .ok (.iload_n 1, 1) := by decide +kernel
theorem dX9_at_12 : decode cX9_at 12 = .ok (.iaload, 1) := by decide +kernel
theorem dX9_at_13 : decode cX9_at 13 = .ok (.goto 4, 3) := by decide +kernel
theorem dX9_put_0 : decode cX9_put 0 = .ok (.iload_n 1, 1) := by decide +kernel
theorem dX9_put_1 : decode cX9_put 1 = .ok (.ifCond .lt 13, 3) := by decide +kernel
theorem dX9_put_14 : decode cX9_put 14 = .ok (.return_, 1) := by decide +kernel
theorem dX9_put_4 : decode cX9_put 4 = .ok (.iload_n 1, 1) := by decide +kernel
theorem dX9_put_5 : decode cX9_put 5 = .ok (.aload_n 0, 1) := by decide +kernel
theorem dX9_put_6 : decode cX9_put 6 = .ok (.arraylength, 1) := by decide +kernel
theorem dX9_put_7 : decode cX9_put 7 = .ok (.if_icmp .ge 7, 3) := by decide +kernel
theorem dX9_put_10 : decode cX9_put 10 = .ok (.aload_n 0, 1) := by decide +kernel
theorem dX9_put_11 : decode cX9_put 11 = .ok (.iload_n 1, 1) := by decide +kernel
theorem dX9_put_12 : decode cX9_put 12 = .ok (.iload_n 2, 1) := by decide +kernel
theorem dX9_put_13 : decode cX9_put 13 = .ok (.iastore, 1) := by decide +kernel
theorem vin {i : Int32} {n : Nat} (hn : n < 2 ^ 31) (h1 : ¬ i < 0) (h2 : ¬ Int32.ofNat n ≤ i) : vp_in i n := by
  obtain ⟨j, hj, rfl⟩ := nI_of h1
  have h3 : ¬ n ≤ j := fun h => h2 ((nI_leI hn hj).mpr h)
  exact nI_in (by omega) hn
theorem vout {i : Int32} {n : Nat} (hn : n < 2 ^ 31) (h1 : ¬ i < 0) (h2 : Int32.ofNat n ≤ i) : n ≤ i.toNatClampNeg := by
  obtain ⟨j, hj, rfl⟩ := nI_of h1
  rw [nI_clamp hj]
  exact (nI_leI hn hj).mp h2
/-- at(row, i) -/
def atF (n : Nat) (f : Nat → Int32) (i : Int32) : Int32 := if i < 0 ∨ n ≤ i.toNatClampNeg then 0 else f i.toNatClampNeg
/-- put(row, i, x) -/
def putF (n : Nat) (f : Nat → Int32) (i x : Int32) : Nat → Int32 := if i < 0 ∨ n ≤ i.toNatClampNeg then f else upd f i.toNatClampNeg x
theorem atF_out {n : Nat} {f : Nat → Int32} {i : Int32} (h : i < 0 ∨ n ≤ i.toNatClampNeg) : 0 = atF n f i := (if_pos h).symm
theorem atF_in {n : Nat} {f : Nat → Int32} {i : Int32} (h : vp_in i n) : f i.toNatClampNeg = atF n f i := (if_neg h).symm
theorem putF_out {n : Nat} {f : Nat → Int32} {i x : Int32} (h : i < 0 ∨ n ≤ i.toNatClampNeg) : f = putF n f i x := (if_pos h).symm
theorem putF_in {n : Nat} {f : Nat → Int32} {i x : Int32} (h : vp_in i n) : upd f i.toNatClampNeg x = putF n f i x := (if_neg h).symm
def rm_k_at : Room := { frames := 0, cells := 0, slots := 0, locals := 0 }
set_option maxHeartbeats 4000000 in
set_option maxRecDepth 100000 in
theorem k_at {l : Launch} {D : va_G} {cI cZ : ClassId} {sz : Nat} (a n : Nat) (f : Nat → Int32) (i : Int32) (hn : n < 2 ^ 31) : KI l yX9_at cX9_at 2 (some .int) rm_k_at D cI cZ [.ref a, .int i] sz [(a, .inl (cI, n, .inl f))] (fun (r : Int32) (_ : Unit) => r = atF n f i) (fun (_ : Unit) => [(a, .inl (cI, n, .inl f))]) := by
  refine KI.go rfl (Nat.le_of_ble_eq_true rfl) ?_
  intro p e s m args below meth c ls A Q hx hb hml hts hown hin hP hK hD hS hA hN hl hret
  have hl : lv_has ls 2 [(0, .ref a), (1, .int i)] := hl
  refine lv_iload_n hx hb dX9_at_0 rfl (lv_at hl 1 rfl) ?_
  refine lv_if_lt (tgt := 16) hx hb dX9_at_1 (by decide) (fun c_1 => ?_) (fun c_1 => ?_)
  · refine lv_iconst (v := 0) hx hb dX9_at_16 (by decide) ?_
    exact hret 0 () _ _ _ _ dX9_at_17 rfl (atF_out (Or.inl c_1)) hP hD hS
  · refine lv_iload_n hx hb dX9_at_4 rfl (lv_at hl 1 rfl) ?_
    refine lv_aload_n hx hb dX9_at_5 rfl (lv_at hl 0 rfl) ?_
    refine va_alen (v := (Int32.ofNat n)) hx hb hK hP 0 0 rfl rfl rfl dX9_at_6 ?_
    refine lv_icmp_ge (tgt := 16) hx hb dX9_at_7 (by decide) (fun c_2 => ?_) (fun c_2 => ?_)
    · refine lv_iconst (v := 0) hx hb dX9_at_16 (by decide) ?_
      exact hret 0 () _ _ _ _ dX9_at_17 rfl (atF_out (Or.inr (vout hn c_1 c_2))) hP hD hS
    · refine lv_aload_n hx hb dX9_at_10 rfl (lv_at hl 0 rfl) ?_
      refine lv_iload_n hx hb dX9_at_11 rfl (lv_at hl 1 rfl) ?_
      refine va_iald hx hb hK hP 0 0 rfl rfl (vin hn c_1 c_2) dX9_at_12 ?_
      refine lv_goto (tgt := 17) hx hb dX9_at_13 (by decide) ?_
      exact hret (f (i : Int32).toNatClampNeg) () _ _ _ _ dX9_at_17 rfl (atF_in (vin hn c_1 c_2)) hP hD hS
def rm_k_put : Room := { frames := 0, cells := 0, slots := 0, locals := 0 }
set_option maxHeartbeats 4000000 in
set_option maxRecDepth 100000 in
theorem k_put {l : Launch} {D : va_G} {cI cZ : ClassId} {sz : Nat} (a n : Nat) (f : Nat → Int32) (i x : Int32) (hn : n < 2 ^ 31) : KV l yX9_put cX9_put 3 rm_k_put D cI cZ [.ref a, .int i, .int x] sz [(a, .inl (cI, n, .inl f))] (fun (_ : Unit) => True) (fun (_ : Unit) => [(a, .inl (cI, n, .inl (putF n f i x)))]) := by
  refine KV.go rfl (Nat.le_of_ble_eq_true rfl) ?_
  intro p e s m args below meth c ls A Q hx hb hml hts hown hin hP hK hD hS hA hN hl hret
  have hl : lv_has ls 3 [(0, .ref a), (1, .int i), (2, .int x)] := hl
  refine lv_iload_n hx hb dX9_put_0 rfl (lv_at hl 1 rfl) ?_
  refine lv_if_lt (tgt := 14) hx hb dX9_put_1 (by decide) (fun c_1 => ?_) (fun c_1 => ?_)
  · have hP : va_P D classes [(a, .inl (cI, n, .inl (putF n f i x)))] s.heap := by rw [← putF_out (x := x) (Or.inl c_1)]; exact hP
    have hD : va_D A [(a, .inl (cI, n, .inl (putF n f i x)))] := by rw [← putF_out (x := x) (Or.inl c_1)]; exact hD
    exact hret () _ _ _ _ dX9_put_14 trivial hP hD hS
  · refine lv_iload_n hx hb dX9_put_4 rfl (lv_at hl 1 rfl) ?_
    refine lv_aload_n hx hb dX9_put_5 rfl (lv_at hl 0 rfl) ?_
    refine va_alen (v := (Int32.ofNat n)) hx hb hK hP 0 0 rfl rfl rfl dX9_put_6 ?_
    refine lv_icmp_ge (tgt := 14) hx hb dX9_put_7 (by decide) (fun c_2 => ?_) (fun c_2 => ?_)
    · have hP : va_P D classes [(a, .inl (cI, n, .inl (putF n f i x)))] s.heap := by rw [← putF_out (x := x) (Or.inr (vout hn c_1 c_2))]; exact hP
      have hD : va_D A [(a, .inl (cI, n, .inl (putF n f i x)))] := by rw [← putF_out (x := x) (Or.inr (vout hn c_1 c_2))]; exact hD
      exact hret () _ _ _ _ dX9_put_14 trivial hP hD hS
    · refine lv_aload_n hx hb dX9_put_10 rfl (lv_at hl 0 rfl) ?_
      refine lv_iload_n hx hb dX9_put_11 rfl (lv_at hl 1 rfl) ?_
      refine lv_iload_n hx hb dX9_put_12 rfl (lv_at hl 2 rfl) ?_
      refine va_iast hx hb hK hP hD hS 0 0 rfl rfl (vin hn c_1 c_2) dX9_put_13 (fun H locs hP hD hS => ?_)
      have hP : va_P D classes [(a, .inl (cI, n, .inl (upd f (i : Int32).toNatClampNeg x)))] H := hP
      have hD : va_D A [(a, .inl (cI, n, .inl (upd f (i : Int32).toNatClampNeg x)))] := hD
      have hP : va_P D classes [(a, .inl (cI, n, .inl (putF n f i x)))] H := by rw [← putF_in (vin hn c_1 c_2)]; exact hP
      have hD : va_D A [(a, .inl (cI, n, .inl (putF n f i x)))] := by rw [← putF_in (vin hn c_1 c_2)]; exact hD
      exact hret () _ _ _ _ dX9_put_14 trivial hP hD hS
end
