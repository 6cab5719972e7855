def RX0 : String := "Trenchboard$Fill"
def TX0 : u_T := fun k => match k with
  | 0 => ("Trenchboard$Fill", "by", "LTrenchboard$Works;", true)
  | 1 => ("Trenchboard$Fill", "day", "I", true)
  | 2 => ("Trenchboard$Fill", "density", "I", true)
  | 3 => ("Trenchboard$Fill", "place", "I", true)
  | 4 => ("Trenchboard$Fill", "below", "LTrenchboard$Fill;", true)
  | _ => ("Trenchboard$Fill", "cored", "Z", false)
def tyX0 : Nat → FieldType := fun k => match k with
  | 0 => .object "Trenchboard$Works"
  | 1 => .int
  | 2 => .int
  | 3 => .int
  | 4 => .object "Trenchboard$Fill"
  | _ => .boolean
theorem nmX0 : ∀ a, a < 6 → ∀ b, b < 6 → a ≠ b → (TX0 a).2.1 ≠ (TX0 b).2.1 := by decide +kernel
theorem tyX0_ok : ∀ k, k < 6 → parseFieldDescriptor (TX0 k).2.2.1 = some (tyX0 k) := by decide +kernel
abbrev cX0_init : ByteArray := prog_2_method_1_code
def yX0_init : MethodName := ⟨RX0, "<init>", "(LTrenchboard$Works;IIILTrenchboard$Fill;)V"⟩
def RX1 : String := "Trenchboard$Ledger"
def TX1 : u_T := fun k => match k with
  | 0 => ("Trenchboard$Ledger", "rows", "[I", false)
  | _ => ("Trenchboard$Ledger", "size", "I", false)
def tyX1 : Nat → FieldType := fun k => match k with
  | 0 => .array .int
  | _ => .int
theorem nmX1 : ∀ a, a < 2 → ∀ b, b < 2 → a ≠ b → (TX1 a).2.1 ≠ (TX1 b).2.1 := by decide +kernel
theorem tyX1_ok : ∀ k, k < 2 → parseFieldDescriptor (TX1 k).2.2.1 = some (tyX1 k) := by decide +kernel
abbrev cX1_init : ByteArray := prog_3_method_1_code
def yX1_init : MethodName := ⟨RX1, "<init>", "()V"⟩
abbrev cX1_enter : ByteArray := prog_3_method_2_code
def yX1_enter : MethodName := ⟨RX1, "enter", "(III)V"⟩
abbrev cX1_balanceOf : ByteArray := prog_3_method_3_code
def yX1_balanceOf : MethodName := ⟨RX1, "balanceOf", "(I)J"⟩
def RX2 : String := "Trenchboard$Metre"
def TX2 : u_T := fun k => match k with
  | 0 => ("Trenchboard$Metre", "sure", "Z", false)
  | 1 => ("Trenchboard$Metre", "openBy", "I", false)
  | 2 => ("Trenchboard$Metre", "fills", "I", false)
  | _ => ("Trenchboard$Metre", "latest", "LTrenchboard$Fill;", false)
def tyX2 : Nat → FieldType := fun k => match k with
  | 0 => .boolean
  | 1 => .int
  | 2 => .int
  | _ => .object "Trenchboard$Fill"
theorem nmX2 : ∀ a, a < 4 → ∀ b, b < 4 → a ≠ b → (TX2 a).2.1 ≠ (TX2 b).2.1 := by decide +kernel
theorem tyX2_ok : ∀ k, k < 4 → parseFieldDescriptor (TX2 k).2.2.1 = some (tyX2 k) := by decide +kernel
abbrev cX2_init : ByteArray := prog_4_method_1_code
def yX2_init : MethodName := ⟨RX2, "<init>", "()V"⟩
abbrev cX2_latestAsDeepAs : ByteArray := prog_4_method_2_code
def yX2_latestAsDeepAs : MethodName := ⟨RX2, "latestAsDeepAs", "(I)LTrenchboard$Fill;"⟩
def RX3 : String := "Trenchboard$Party"
def TX3 : u_T := fun k => match k with
  | 0 => ("Trenchboard$Party", "balance", "J", false)
  | 1 => ("Trenchboard$Party", "fills", "I", false)
  | 2 => ("Trenchboard$Party", "faults", "I", false)
  | _ => ("Trenchboard$Party", "cores", "I", false)
def tyX3 : Nat → FieldType := fun k => match k with
  | 0 => .long
  | 1 => .int
  | 2 => .int
  | _ => .int
theorem nmX3 : ∀ a, a < 4 → ∀ b, b < 4 → a ≠ b → (TX3 a).2.1 ≠ (TX3 b).2.1 := by decide +kernel
theorem tyX3_ok : ∀ k, k < 4 → parseFieldDescriptor (TX3 k).2.2.1 = some (tyX3 k) := by decide +kernel
abbrev cX3_init : ByteArray := prog_5_method_1_code
def yX3_init : MethodName := ⟨RX3, "<init>", "()V"⟩
def RX4 : String := "Trenchboard$Street"
def TX4 : u_T := fun k => match k with
  | 0 => ("Trenchboard$Street", "number", "I", true)
  | 1 => ("Trenchboard$Street", "grade", "I", true)
  | 2 => ("Trenchboard$Street", "flow", "I", true)
  | 3 => ("Trenchboard$Street", "around", "LTrenchboard$Street;", true)
  | 4 => ("Trenchboard$Street", "metres", "[LTrenchboard$Metre;", true)
  | 5 => ("Trenchboard$Street", "embargoFrom", "I", false)
  | 6 => ("Trenchboard$Street", "embargoTo", "I", false)
  | 7 => ("Trenchboard$Street", "surfacedOn", "I", false)
  | 8 => ("Trenchboard$Street", "surfacedAfter", "I", false)
  | 9 => ("Trenchboard$Street", "takers", "I", false)
  | 10 => ("Trenchboard$Street", "coming", "I", false)
  | _ => ("Trenchboard$Street", "waiting", "I", false)
def tyX4 : Nat → FieldType := fun k => match k with
  | 0 => .int
  | 1 => .int
  | 2 => .int
  | 3 => .object "Trenchboard$Street"
  | 4 => .array (.object "Trenchboard$Metre")
  | 5 => .int
  | 6 => .int
  | 7 => .int
  | 8 => .int
  | 9 => .int
  | 10 => .int
  | _ => .int
theorem nmX4 : ∀ a, a < 12 → ∀ b, b < 12 → a ≠ b → (TX4 a).2.1 ≠ (TX4 b).2.1 := by decide +kernel
theorem tyX4_ok : ∀ k, k < 12 → parseFieldDescriptor (TX4 k).2.2.1 = some (tyX4 k) := by decide +kernel
abbrev cX4_init : ByteArray := prog_6_method_1_code
def yX4_init : MethodName := ⟨RX4, "<init>", "(IIIILTrenchboard$Street;)V"⟩
abbrev cX4_metreAt : ByteArray := prog_6_method_2_code
def yX4_metreAt : MethodName := ⟨RX4, "metreAt", "(I)LTrenchboard$Metre;"⟩
abbrev cX4_hasOpenMetre : ByteArray := prog_6_method_3_code
def yX4_hasOpenMetre : MethodName := ⟨RX4, "hasOpenMetre", "()Z"⟩
abbrev cX4_hasEmbargoIn : ByteArray := prog_6_method_4_code
def yX4_hasEmbargoIn : MethodName := ⟨RX4, "hasEmbargoIn", "(II)Z"⟩
abbrev cX4_isNewIn : ByteArray := prog_6_method_5_code
def yX4_isNewIn : MethodName := ⟨RX4, "isNewIn", "(II)Z"⟩
abbrev cX4_weight : ByteArray := prog_6_method_6_code
def yX4_weight : MethodName := ⟨RX4, "weight", "()I"⟩
abbrev cX4_noticeOf : ByteArray := prog_6_method_7_code
def yX4_noticeOf : MethodName := ⟨RX4, "noticeOf", "(I)I"⟩
abbrev cX4_sendFlow : ByteArray := prog_6_method_8_code
def yX4_sendFlow : MethodName := ⟨RX4, "sendFlow", "()V"⟩
abbrev cX4_letThrough : ByteArray := prog_6_method_9_code
def yX4_letThrough : MethodName := ⟨RX4, "letThrough", "()V"⟩
def RX5 : String := "Trenchboard$Telling"
def TX5 : u_T := fun k => match k with
  | 0 => ("Trenchboard$Telling", "street", "LTrenchboard$Street;", true)
  | 1 => ("Trenchboard$Telling", "metre", "I", true)
  | 2 => ("Trenchboard$Telling", "by", "LTrenchboard$Works;", true)
  | _ => ("Trenchboard$Telling", "day", "I", true)
def tyX5 : Nat → FieldType := fun k => match k with
  | 0 => .object "Trenchboard$Street"
  | 1 => .int
  | 2 => .object "Trenchboard$Works"
  | _ => .int
theorem nmX5 : ∀ a, a < 4 → ∀ b, b < 4 → a ≠ b → (TX5 a).2.1 ≠ (TX5 b).2.1 := by decide +kernel
theorem tyX5_ok : ∀ k, k < 4 → parseFieldDescriptor (TX5 k).2.2.1 = some (tyX5 k) := by decide +kernel
abbrev cX5_init : ByteArray := prog_7_method_1_code
def yX5_init : MethodName := ⟨RX5, "<init>", "(LTrenchboard$Street;ILTrenchboard$Works;I)V"⟩
abbrev cX5_isFillOf : ByteArray := prog_7_method_2_code
def yX5_isFillOf : MethodName := ⟨RX5, "isFillOf", "(LTrenchboard$Street;I)Z"⟩
abbrev cX5_isSurfaceOf : ByteArray := prog_7_method_3_code
def yX5_isSurfaceOf : MethodName := ⟨RX5, "isSurfaceOf", "(LTrenchboard$Street;)Z"⟩
def RX6 : String := "Trenchboard$Thing"
def TX6 : u_T := fun k => match k with
  | 0 => ("Trenchboard$Thing", "owner", "I", true)
  | 1 => ("Trenchboard$Thing", "street", "LTrenchboard$Street;", true)
  | 2 => ("Trenchboard$Thing", "from", "I", true)
  | 3 => ("Trenchboard$Thing", "to", "I", true)
  | 4 => ("Trenchboard$Thing", "depth", "I", true)
  | 5 => ("Trenchboard$Thing", "recorded", "Z", false)
  | 6 => ("Trenchboard$Thing", "suspectFrom", "I", false)
  | _ => ("Trenchboard$Thing", "suspectTo", "I", false)
def tyX6 : Nat → FieldType := fun k => match k with
  | 0 => .int
  | 1 => .object "Trenchboard$Street"
  | 2 => .int
  | 3 => .int
  | 4 => .int
  | 5 => .boolean
  | 6 => .int
  | _ => .int
theorem nmX6 : ∀ a, a < 8 → ∀ b, b < 8 → a ≠ b → (TX6 a).2.1 ≠ (TX6 b).2.1 := by decide +kernel
theorem tyX6_ok : ∀ k, k < 8 → parseFieldDescriptor (TX6 k).2.2.1 = some (tyX6 k) := by decide +kernel
abbrev cX6_init : ByteArray := prog_8_method_1_code
def yX6_init : MethodName := ⟨RX6, "<init>", "(ILTrenchboard$Street;III)V"⟩
abbrev cX6_putRecord : ByteArray := prog_8_method_2_code
def yX6_putRecord : MethodName := ⟨RX6, "putRecord", "(III)V"⟩
abbrev cX6_suspectMetres : ByteArray := prog_8_method_3_code
def yX6_suspectMetres : MethodName := ⟨RX6, "suspectMetres", "()I"⟩
abbrev cX6_liesAt : ByteArray := prog_8_method_4_code
def yX6_liesAt : MethodName := ⟨RX6, "liesAt", "(LTrenchboard$Street;I)Z"⟩
abbrev cX6_liesInSureMetre : ByteArray := prog_8_method_5_code
def yX6_liesInSureMetre : MethodName := ⟨RX6, "liesInSureMetre", "()Z"⟩
def RX7 : String := "Trenchboard$Works"
def TX7 : u_T := fun k => match k with
  | 0 => ("Trenchboard$Works", "number", "I", true)
  | 1 => ("Trenchboard$Works", "promoter", "I", true)
  | 2 => ("Trenchboard$Works", "street", "LTrenchboard$Street;", true)
  | 3 => ("Trenchboard$Works", "kind", "I", true)
  | 4 => ("Trenchboard$Works", "askedOn", "I", true)
  | 5 => ("Trenchboard$Works", "from", "I", false)
  | 6 => ("Trenchboard$Works", "to", "I", false)
  | 7 => ("Trenchboard$Works", "depth", "I", false)
  | 8 => ("Trenchboard$Works", "first", "I", false)
  | 9 => ("Trenchboard$Works", "last", "I", false)
  | 10 => ("Trenchboard$Works", "state", "I", false)
  | 11 => ("Trenchboard$Works", "conditions", "I", false)
  | 12 => ("Trenchboard$Works", "version", "I", false)
  | 13 => ("Trenchboard$Works", "finds", "I", false)
  | 14 => ("Trenchboard$Works", "agreeing", "I", false)
  | 15 => ("Trenchboard$Works", "openMetres", "I", false)
  | 16 => ("Trenchboard$Works", "plated", "Z", false)
  | _ => ("Trenchboard$Works", "exempted", "Z", false)
def tyX7 : Nat → FieldType := fun k => match k with
  | 0 => .int
  | 1 => .int
  | 2 => .object "Trenchboard$Street"
  | 3 => .int
  | 4 => .int
  | 5 => .int
  | 6 => .int
  | 7 => .int
  | 8 => .int
  | 9 => .int
  | 10 => .int
  | 11 => .int
  | 12 => .int
  | 13 => .int
  | 14 => .int
  | 15 => .int
  | 16 => .boolean
  | _ => .boolean
theorem nmX7 : ∀ a, a < 18 → ∀ b, b < 18 → a ≠ b → (TX7 a).2.1 ≠ (TX7 b).2.1 := by decide +kernel
theorem tyX7_ok : ∀ k, k < 18 → parseFieldDescriptor (TX7 k).2.2.1 = some (tyX7 k) := by decide +kernel
abbrev cX7_init : ByteArray := prog_9_method_1_code
def yX7_init : MethodName := ⟨RX7, "<init>", "(IILTrenchboard$Street;II)V"⟩
abbrev cX7_placeAt : ByteArray := prog_9_method_2_code
def yX7_placeAt : MethodName := ⟨RX7, "placeAt", "(III)V"⟩
abbrev cX7_planFor : ByteArray := prog_9_method_3_code
def yX7_planFor : MethodName := ⟨RX7, "planFor", "(II)V"⟩
abbrev cX7_bit : ByteArray := prog_9_method_4_code
def yX7_bit : MethodName := ⟨RX7, "bit", "()I"⟩
abbrev cX7_agreesWith : ByteArray := prog_9_method_5_code
def yX7_agreesWith : MethodName := ⟨RX7, "agreesWith", "(LTrenchboard$Works;)Z"⟩
abbrev cX7_isStanding : ByteArray := prog_9_method_6_code
def yX7_isStanding : MethodName := ⟨RX7, "isStanding", "()Z"⟩
abbrev cX7_isOver : ByteArray := prog_9_method_7_code
def yX7_isOver : MethodName := ⟨RX7, "isOver", "()Z"⟩
abbrev cX7_hasCondition : ByteArray := prog_9_method_8_code
def yX7_hasCondition : MethodName := ⟨RX7, "hasCondition", "(I)Z"⟩
abbrev cX7_takesStreet : ByteArray := prog_9_method_9_code
def yX7_takesStreet : MethodName := ⟨RX7, "takesStreet", "()Z"⟩
abbrev cX7_endOn : ByteArray := prog_9_method_10_code
def yX7_endOn : MethodName := ⟨RX7, "endOn", "(I)I"⟩
abbrev cX7_settledOn : ByteArray := prog_9_method_11_code
def yX7_settledOn : MethodName := ⟨RX7, "settledOn", "()I"⟩
abbrev cX7_permitCost : ByteArray := prog_9_method_12_code
def yX7_permitCost : MethodName := ⟨RX7, "permitCost", "()I"⟩
abbrev cX7_daysLiable : ByteArray := prog_9_method_13_code
def yX7_daysLiable : MethodName := ⟨RX7, "daysLiable", "()I"⟩
abbrev cX7_ownMetreAt : ByteArray := prog_9_method_14_code
def yX7_ownMetreAt : MethodName := ⟨RX7, "ownMetreAt", "(I)LTrenchboard$Metre;"⟩
abbrev cX7_mayMeet : ByteArray := prog_9_method_15_code
def yX7_mayMeet : MethodName := ⟨RX7, "mayMeet", "(LTrenchboard$Works;LTrenchboard$Works;)Z"⟩
abbrev cX7_areNear : ByteArray := prog_9_method_16_code
def yX7_areNear : MethodName := ⟨RX7, "areNear", "(LTrenchboard$Works;LTrenchboard$Works;)Z"⟩
def RX8 : String := "Trenchboard"
def TX8 : u_T := fun k => match k with
  | 0 => ("Trenchboard", "streets", "[LTrenchboard$Street;", true)
  | 1 => ("Trenchboard", "streetCount", "I", false)
  | 2 => ("Trenchboard", "things", "[LTrenchboard$Thing;", true)
  | 3 => ("Trenchboard", "thingCount", "I", false)
  | 4 => ("Trenchboard", "allWorks", "[LTrenchboard$Works;", true)
  | 5 => ("Trenchboard", "worksCount", "I", false)
  | 6 => ("Trenchboard", "parties", "[LTrenchboard$Party;", true)
  | 7 => ("Trenchboard", "ledger", "LTrenchboard$Ledger;", true)
  | 8 => ("Trenchboard", "tellings", "Ljava/util/ArrayList;", true)
  | _ => ("Trenchboard", "hour", "I", false)
def tyX8 : Nat → FieldType := fun k => match k with
  | 0 => .array (.object "Trenchboard$Street")
  | 1 => .int
  | 2 => .array (.object "Trenchboard$Thing")
  | 3 => .int
  | 4 => .array (.object "Trenchboard$Works")
  | 5 => .int
  | 6 => .array (.object "Trenchboard$Party")
  | 7 => .object "Trenchboard$Ledger"
  | 8 => .object "java/util/ArrayList"
  | _ => .int
theorem nmX8 : ∀ a, a < 10 → ∀ b, b < 10 → a ≠ b → (TX8 a).2.1 ≠ (TX8 b).2.1 := by decide +kernel
theorem tyX8_ok : ∀ k, k < 10 → parseFieldDescriptor (TX8 k).2.2.1 = some (tyX8 k) := by decide +kernel
abbrev cX8_init : ByteArray := prog_1_method_1_code
def yX8_init : MethodName := ⟨RX8, "<init>", "()V"⟩
abbrev cX8_street : ByteArray := prog_1_method_2_code
def yX8_street : MethodName := ⟨RX8, "street", "(IIII)I"⟩
abbrev cX8_surface : ByteArray := prog_1_method_3_code
def yX8_surface : MethodName := ⟨RX8, "surface", "(I)I"⟩
abbrev cX8_embargo : ByteArray := prog_1_method_4_code
def yX8_embargo : MethodName := ⟨RX8, "embargo", "(III)I"⟩
abbrev cX8_thing : ByteArray := prog_1_method_5_code
def yX8_thing : MethodName := ⟨RX8, "thing", "(IIIII)I"⟩
abbrev cX8_record : ByteArray := prog_1_method_6_code
def yX8_record : MethodName := ⟨RX8, "record", "(IIII)I"⟩
abbrev cX8_lose : ByteArray := prog_1_method_7_code
def yX8_lose : MethodName := ⟨RX8, "lose", "(I)Z"⟩
abbrev cX8_survey : ByteArray := prog_1_method_8_code
def yX8_survey : MethodName := ⟨RX8, "survey", "(I)I"⟩
abbrev cX8_trial : ByteArray := prog_1_method_9_code
def yX8_trial : MethodName := ⟨RX8, "trial", "(II)I"⟩
abbrev cX8_ask : ByteArray := prog_1_method_10_code
def yX8_ask : MethodName := ⟨RX8, "ask", "(IIIIIIII)I"⟩
abbrev cX8_grant : ByteArray := prog_1_method_11_code
def yX8_grant : MethodName := ⟨RX8, "grant", "(II)I"⟩
abbrev cX8_refuse : ByteArray := prog_1_method_12_code
def yX8_refuse : MethodName := ⟨RX8, "refuse", "(I)I"⟩
abbrev cX8_vary : ByteArray := prog_1_method_13_code
def yX8_vary : MethodName := ⟨RX8, "vary", "(II)I"⟩
abbrev cX8_exempt : ByteArray := prog_1_method_14_code
def yX8_exempt : MethodName := ⟨RX8, "exempt", "(I)Z"⟩
abbrev cX8_agree : ByteArray := prog_1_method_15_code
def yX8_agree : MethodName := ⟨RX8, "agree", "(II)Z"⟩
abbrev cX8_start : ByteArray := prog_1_method_16_code
def yX8_start : MethodName := ⟨RX8, "start", "(I)I"⟩
abbrev cX8_open : ByteArray := prog_1_method_17_code
def yX8_open : MethodName := ⟨RX8, "open", "(II)I"⟩
abbrev cX8_fill : ByteArray := prog_1_method_18_code
def yX8_fill : MethodName := ⟨RX8, "fill", "(III)I"⟩
abbrev cX8_plate : ByteArray := prog_1_method_19_code
def yX8_plate : MethodName := ⟨RX8, "plate", "(I)Z"⟩
abbrev cX8_extend : ByteArray := prog_1_method_20_code
def yX8_extend : MethodName := ⟨RX8, "extend", "(I)I"⟩
abbrev cX8_stop : ByteArray := prog_1_method_21_code
def yX8_stop : MethodName := ⟨RX8, "stop", "(I)I"⟩
abbrev cX8_pass : ByteArray := prog_1_method_22_code
def yX8_pass : MethodName := ⟨RX8, "pass", "(I)I"⟩
abbrev cX8_defect : ByteArray := prog_1_method_23_code
def yX8_defect : MethodName := ⟨RX8, "defect", "(III)I"⟩
abbrev cX8_core : ByteArray := prog_1_method_24_code
def yX8_core : MethodName := ⟨RX8, "core", "(II)I"⟩
abbrev cX8_liable : ByteArray := prog_1_method_25_code
def yX8_liable : MethodName := ⟨RX8, "liable", "(III)I"⟩
abbrev cX8_liableAnew : ByteArray := prog_1_method_26_code
def yX8_liableAnew : MethodName := ⟨RX8, "liableAnew", "(III)I"⟩
abbrev cX8_bars : ByteArray := prog_1_method_27_code
def yX8_bars : MethodName := ⟨RX8, "bars", "(I)I"⟩
abbrev cX8_meets : ByteArray := prog_1_method_28_code
def yX8_meets : MethodName := ⟨RX8, "meets", "(II)I"⟩
abbrev cX8_of : ByteArray := prog_1_method_29_code
def yX8_of : MethodName := ⟨RX8, "of", "(II)I"⟩
abbrev cX8_metre : ByteArray := prog_1_method_30_code
def yX8_metre : MethodName := ⟨RX8, "metre", "(III)I"⟩
abbrev cX8_search : ByteArray := prog_1_method_31_code
def yX8_search : MethodName := ⟨RX8, "search", "(III)I"⟩
abbrev cX8_queue : ByteArray := prog_1_method_32_code
def yX8_queue : MethodName := ⟨RX8, "queue", "(I)I"⟩
abbrev cX8_due : ByteArray := prog_1_method_33_code
def yX8_due : MethodName := ⟨RX8, "due", "(I)I"⟩
abbrev cX8_money : ByteArray := prog_1_method_34_code
def yX8_money : MethodName := ⟨RX8, "money", "(I)J"⟩
abbrev cX8_moneyAnew : ByteArray := prog_1_method_35_code
def yX8_moneyAnew : MethodName := ⟨RX8, "moneyAnew", "(I)J"⟩
abbrev cX8_streetAt : ByteArray := prog_1_method_36_code
def yX8_streetAt : MethodName := ⟨RX8, "streetAt", "(I)LTrenchboard$Street;"⟩
abbrev cX8_thingAt : ByteArray := prog_1_method_37_code
def yX8_thingAt : MethodName := ⟨RX8, "thingAt", "(I)LTrenchboard$Thing;"⟩
abbrev cX8_worksAt : ByteArray := prog_1_method_38_code
def yX8_worksAt : MethodName := ⟨RX8, "worksAt", "(I)LTrenchboard$Works;"⟩
abbrev cX8_partyAt : ByteArray := prog_1_method_39_code
def yX8_partyAt : MethodName := ⟨RX8, "partyAt", "(I)LTrenchboard$Party;"⟩
abbrev cX8_isPromoter : ByteArray := prog_1_method_40_code
def yX8_isPromoter : MethodName := ⟨RX8, "isPromoter", "(I)Z"⟩
abbrev cX8_numberOf : ByteArray := prog_1_method_41_code
def yX8_numberOf : MethodName := ⟨RX8, "numberOf", "(LTrenchboard$Works;)I"⟩
abbrev cX8_today : ByteArray := prog_1_method_42_code
def yX8_today : MethodName := ⟨RX8, "today", "()I"⟩
abbrev cX8_isBusy : ByteArray := prog_1_method_43_code
def yX8_isBusy : MethodName := ⟨RX8, "isBusy", "()Z"⟩
abbrev cX8_overlap : ByteArray := prog_1_method_44_code
def yX8_overlap : MethodName := ⟨RX8, "overlap", "(IIII)Z"⟩
abbrev cX8_tell : ByteArray := prog_1_method_45_code
def yX8_tell : MethodName := ⟨RX8, "tell", "(LTrenchboard$Telling;)V"⟩
abbrev cX8_countFill : ByteArray := prog_1_method_46_code
def yX8_countFill : MethodName := ⟨RX8, "countFill", "(I)V"⟩
abbrev cX8_countFault : ByteArray := prog_1_method_47_code
def yX8_countFault : MethodName := ⟨RX8, "countFault", "(I)V"⟩
abbrev cX8_countCore : ByteArray := prog_1_method_48_code
def yX8_countCore : MethodName := ⟨RX8, "countCore", "(I)V"⟩
abbrev cX8_pay : ByteArray := prog_1_method_49_code
def yX8_pay : MethodName := ⟨RX8, "pay", "(III)V"⟩
abbrev cX8_suspects : ByteArray := prog_1_method_50_code
def yX8_suspects : MethodName := ⟨RX8, "suspects", "(LTrenchboard$Street;II)I"⟩
abbrev cX8_isSuspect : ByteArray := prog_1_method_51_code
def yX8_isSuspect : MethodName := ⟨RX8, "isSuspect", "(LTrenchboard$Street;I)Z"⟩
abbrev cX8_strikeThings : ByteArray := prog_1_method_52_code
def yX8_strikeThings : MethodName := ⟨RX8, "strikeThings", "(LTrenchboard$Works;I)I"⟩
abbrev cX8_permit : ByteArray := prog_1_method_53_code
def yX8_permit : MethodName := ⟨RX8, "permit", "(LTrenchboard$Works;I)V"⟩
abbrev cX8_whatBars : ByteArray := prog_1_method_54_code
def yX8_whatBars : MethodName := ⟨RX8, "whatBars", "(LTrenchboard$Works;)I"⟩
abbrev cX8_firstMet : ByteArray := prog_1_method_55_code
def yX8_firstMet : MethodName := ⟨RX8, "firstMet", "(LTrenchboard$Works;IIZ)I"⟩
abbrev cX8_goOneHour : ByteArray := prog_1_method_56_code
def yX8_goOneHour : MethodName := ⟨RX8, "goOneHour", "()V"⟩
abbrev cX8_settleAsked : ByteArray := prog_1_method_57_code
def yX8_settleAsked : MethodName := ⟨RX8, "settleAsked", "()V"⟩
abbrev cX8_fineLate : ByteArray := prog_1_method_58_code
def yX8_fineLate : MethodName := ⟨RX8, "fineLate", "()V"⟩
abbrev cX8_takeStreets : ByteArray := prog_1_method_59_code
def yX8_takeStreets : MethodName := ⟨RX8, "takeStreets", "()V"⟩
abbrev cX8_chargeTakers : ByteArray := prog_1_method_60_code
def yX8_chargeTakers : MethodName := ⟨RX8, "chargeTakers", "()V"⟩
abbrev cX8_moveQueues : ByteArray := prog_1_method_61_code
def yX8_moveQueues : MethodName := ⟨RX8, "moveQueues", "()V"⟩
abbrev cX8_whoIsLiable : ByteArray := prog_1_method_62_code
def yX8_whoIsLiable : MethodName := ⟨RX8, "whoIsLiable", "(LTrenchboard$Street;LTrenchboard$Metre;I)LTrenchboard$Works;"⟩
def RX9 : String := "TrenchboardModel"
def TX9 : u_T := fun k => match k with
  | _ => ("", "", "", false)
def tyX9 : Nat → FieldType := fun k => match k with
  | _ => .int
theorem nmX9 : ∀ a, a < 0 → ∀ b, b < 0 → a ≠ b → (TX9 a).2.1 ≠ (TX9 b).2.1 := by decide +kernel
theorem tyX9_ok : ∀ k, k < 0 → parseFieldDescriptor (TX9 k).2.2.1 = some (tyX9 k) := by decide +kernel
def RJx145de : String := "java/io/Serializable"
def TJx145de : u_T := fun k => match k with
  | _ => ("", "", "", false)
def tyJx145de : Nat → FieldType := fun k => match k with
  | _ => .int
theorem nmJx145de : ∀ a, a < 0 → ∀ b, b < 0 → a ≠ b → (TJx145de a).2.1 ≠ (TJx145de b).2.1 := by decide +kernel
theorem tyJx145de_ok : ∀ k, k < 0 → parseFieldDescriptor (TJx145de k).2.2.1 = some (tyJx145de k) := by decide +kernel
def RJx8e188 : String := "java/lang/Cloneable"
def TJx8e188 : u_T := fun k => match k with
  | _ => ("", "", "", false)
def tyJx8e188 : Nat → FieldType := fun k => match k with
  | _ => .int
theorem nmJx8e188 : ∀ a, a < 0 → ∀ b, b < 0 → a ≠ b → (TJx8e188 a).2.1 ≠ (TJx8e188 b).2.1 := by decide +kernel
theorem tyJx8e188_ok : ∀ k, k < 0 → parseFieldDescriptor (TJx8e188 k).2.2.1 = some (tyJx8e188 k) := by decide +kernel
def RJxab1ab : String := "java/lang/Iterable"
def TJxab1ab : u_T := fun k => match k with
  | _ => ("", "", "", false)
def tyJxab1ab : Nat → FieldType := fun k => match k with
  | _ => .int
theorem nmJxab1ab : ∀ a, a < 0 → ∀ b, b < 0 → a ≠ b → (TJxab1ab a).2.1 ≠ (TJxab1ab b).2.1 := by decide +kernel
theorem tyJxab1ab_ok : ∀ k, k < 0 → parseFieldDescriptor (TJxab1ab k).2.2.1 = some (tyJxab1ab k) := by decide +kernel
def RJ9 : String := "java/lang/Math"
def TJ9 : u_T := fun k => match k with
  | _ => ("", "", "", false)
def tyJ9 : Nat → FieldType := fun k => match k with
  | _ => .int
theorem nmJ9 : ∀ a, a < 0 → ∀ b, b < 0 → a ≠ b → (TJ9 a).2.1 ≠ (TJ9 b).2.1 := by decide +kernel
theorem tyJ9_ok : ∀ k, k < 0 → parseFieldDescriptor (TJ9 k).2.2.1 = some (tyJ9 k) := by decide +kernel
abbrev cJ9_max_7cf53 : ByteArray := prog_19_method_65_code
def yJ9_max_7cf53 : MethodName := ⟨RJ9, "max", "(II)I"⟩
abbrev cJ9_min_7cf53 : ByteArray := prog_19_method_69_code
def yJ9_min_7cf53 : MethodName := ⟨RJ9, "min", "(II)I"⟩
def RJ0 : String := "java/lang/String"
def TJ0 : u_T := fun k => match k with
  | _ => ("", "", "", false)
def tyJ0 : Nat → FieldType := fun k => match k with
  | _ => .int
theorem nmJ0 : ∀ a, a < 0 → ∀ b, b < 0 → a ≠ b → (TJ0 a).2.1 ≠ (TJ0 b).2.1 := by decide +kernel
theorem tyJ0_ok : ∀ k, k < 0 → parseFieldDescriptor (TJ0 k).2.2.1 = some (tyJ0 k) := by decide +kernel
def RJ10 : String := "java/lang/System"
def TJ10 : u_T := fun k => match k with
  | _ => ("", "", "", false)
def tyJ10 : Nat → FieldType := fun k => match k with
  | _ => .int
theorem nmJ10 : ∀ a, a < 0 → ∀ b, b < 0 → a ≠ b → (TJ10 a).2.1 ≠ (TJ10 b).2.1 := by decide +kernel
theorem tyJ10_ok : ∀ k, k < 0 → parseFieldDescriptor (TJ10 k).2.2.1 = some (tyJ10 k) := by decide +kernel
def RJxa1e45 : String := "java/util/AbstractCollection"
def TJxa1e45 : u_T := fun k => match k with
  | _ => ("", "", "", false)
def tyJxa1e45 : Nat → FieldType := fun k => match k with
  | _ => .int
theorem nmJxa1e45 : ∀ a, a < 0 → ∀ b, b < 0 → a ≠ b → (TJxa1e45 a).2.1 ≠ (TJxa1e45 b).2.1 := by decide +kernel
theorem tyJxa1e45_ok : ∀ k, k < 0 → parseFieldDescriptor (TJxa1e45 k).2.2.1 = some (tyJxa1e45 k) := by decide +kernel
abbrev cJxa1e45_init_da8c8 : ByteArray := prog_24_method_1_code
def yJxa1e45_init_da8c8 : MethodName := ⟨RJxa1e45, "<init>", "()V"⟩
def RJxc12de : String := "java/util/AbstractList"
def TJxc12de : u_T := fun k => match k with
  | _ => ("", "", "", false)
def tyJxc12de : Nat → FieldType := fun k => match k with
  | _ => .int
theorem nmJxc12de : ∀ a, a < 0 → ∀ b, b < 0 → a ≠ b → (TJxc12de a).2.1 ≠ (TJxc12de b).2.1 := by decide +kernel
theorem tyJxc12de_ok : ∀ k, k < 0 → parseFieldDescriptor (TJxc12de k).2.2.1 = some (tyJxc12de k) := by decide +kernel
abbrev cJxc12de_init_da8c8 : ByteArray := prog_25_method_1_code
def yJxc12de_init_da8c8 : MethodName := ⟨RJxc12de, "<init>", "()V"⟩
def RJx4a65c : String := "java/util/ArrayList"
def TJx4a65c : u_T := fun k => match k with
  | 0 => ("java/util/AbstractList", "modCount", "I", false)
  | 1 => ("java/util/ArrayList", "elementData", "[Ljava/lang/Object;", false)
  | _ => ("java/util/ArrayList", "size", "I", false)
def tyJx4a65c : Nat → FieldType := fun k => match k with
  | 0 => .int
  | 1 => .array (.object "java/lang/Object")
  | _ => .int
theorem nmJx4a65c : ∀ a, a < 3 → ∀ b, b < 3 → a ≠ b → (TJx4a65c a).2.1 ≠ (TJx4a65c b).2.1 := by decide +kernel
theorem tyJx4a65c_ok : ∀ k, k < 3 → parseFieldDescriptor (TJx4a65c k).2.2.1 = some (tyJx4a65c k) := by decide +kernel
abbrev cJx4a65c_init_da8c8 : ByteArray := prog_26_method_2_code
def yJx4a65c_init_da8c8 : MethodName := ⟨RJx4a65c, "<init>", "()V"⟩
abbrev cJx4a65c_grow_92f84 : ByteArray := prog_26_method_6_code
def yJx4a65c_grow_92f84 : MethodName := ⟨RJx4a65c, "grow", "(I)[Ljava/lang/Object;"⟩
abbrev cJx4a65c_grow_d5877 : ByteArray := prog_26_method_7_code
def yJx4a65c_grow_d5877 : MethodName := ⟨RJx4a65c, "grow", "()[Ljava/lang/Object;"⟩
abbrev cJx4a65c_size_8abf5 : ByteArray := prog_26_method_8_code
def yJx4a65c_size_8abf5 : MethodName := ⟨RJx4a65c, "size", "()I"⟩
abbrev cJx4a65c_elementData_915e3 : ByteArray := prog_26_method_18_code
def yJx4a65c_elementData_915e3 : MethodName := ⟨RJx4a65c, "elementData", "(I)Ljava/lang/Object;"⟩
abbrev cJx4a65c_get_915e3 : ByteArray := prog_26_method_20_code
def yJx4a65c_get_915e3 : MethodName := ⟨RJx4a65c, "get", "(I)Ljava/lang/Object;"⟩
abbrev cJx4a65c_add_72be8 : ByteArray := prog_26_method_24_code
def yJx4a65c_add_72be8 : MethodName := ⟨RJx4a65c, "add", "(Ljava/lang/Object;[Ljava/lang/Object;I)V"⟩
abbrev cJx4a65c_add_9ea2d : ByteArray := prog_26_method_25_code
def yJx4a65c_add_9ea2d : MethodName := ⟨RJx4a65c, "add", "(Ljava/lang/Object;)Z"⟩
def RJ7 : String := "java/util/Arrays"
def TJ7 : u_T := fun k => match k with
  | _ => ("", "", "", false)
def tyJ7 : Nat → FieldType := fun k => match k with
  | _ => .int
theorem nmJ7 : ∀ a, a < 0 → ∀ b, b < 0 → a ≠ b → (TJ7 a).2.1 ≠ (TJ7 b).2.1 := by decide +kernel
theorem tyJ7_ok : ∀ k, k < 0 → parseFieldDescriptor (TJ7 k).2.2.1 = some (tyJ7 k) := by decide +kernel
abbrev cJ7_copyOf_1904c : ByteArray := prog_27_method_119_code
def yJ7_copyOf_1904c : MethodName := ⟨RJ7, "copyOf", "([Ljava/lang/Object;I)[Ljava/lang/Object;"⟩
abbrev cJ7_copyOf_6403c : ByteArray := prog_27_method_120_code
def yJ7_copyOf_6403c : MethodName := ⟨RJ7, "copyOf", "([Ljava/lang/Object;ILjava/lang/Class;)[Ljava/lang/Object;"⟩
abbrev cJ7_copyOf_59c91 : ByteArray := prog_27_method_123_code
def yJ7_copyOf_59c91 : MethodName := ⟨RJ7, "copyOf", "([II)[I"⟩
def RJx5ef63 : String := "java/util/Collection"
def TJx5ef63 : u_T := fun k => match k with
  | _ => ("", "", "", false)
def tyJx5ef63 : Nat → FieldType := fun k => match k with
  | _ => .int
theorem nmJx5ef63 : ∀ a, a < 0 → ∀ b, b < 0 → a ≠ b → (TJx5ef63 a).2.1 ≠ (TJx5ef63 b).2.1 := by decide +kernel
theorem tyJx5ef63_ok : ∀ k, k < 0 → parseFieldDescriptor (TJx5ef63 k).2.2.1 = some (tyJx5ef63 k) := by decide +kernel
def RJxbd725 : String := "java/util/List"
def TJxbd725 : u_T := fun k => match k with
  | _ => ("", "", "", false)
def tyJxbd725 : Nat → FieldType := fun k => match k with
  | _ => .int
theorem nmJxbd725 : ∀ a, a < 0 → ∀ b, b < 0 → a ≠ b → (TJxbd725 a).2.1 ≠ (TJxbd725 b).2.1 := by decide +kernel
theorem tyJxbd725_ok : ∀ k, k < 0 → parseFieldDescriptor (TJxbd725 k).2.2.1 = some (tyJxbd725 k) := by decide +kernel
def RJ15 : String := "java/util/Objects"
def TJ15 : u_T := fun k => match k with
  | _ => ("", "", "", false)
def tyJ15 : Nat → FieldType := fun k => match k with
  | _ => .int
theorem nmJ15 : ∀ a, a < 0 → ∀ b, b < 0 → a ≠ b → (TJ15 a).2.1 ≠ (TJ15 b).2.1 := by decide +kernel
theorem tyJ15_ok : ∀ k, k < 0 → parseFieldDescriptor (TJ15 k).2.2.1 = some (tyJ15 k) := by decide +kernel
abbrev cJ15_checkIndex_7cf53 : ByteArray := prog_30_method_17_code
def yJ15_checkIndex_7cf53 : MethodName := ⟨RJ15, "checkIndex", "(II)I"⟩
def RJxf0a74 : String := "java/util/RandomAccess"
def TJxf0a74 : u_T := fun k => match k with
  | _ => ("", "", "", false)
def tyJxf0a74 : Nat → FieldType := fun k => match k with
  | _ => .int
theorem nmJxf0a74 : ∀ a, a < 0 → ∀ b, b < 0 → a ≠ b → (TJxf0a74 a).2.1 ≠ (TJxf0a74 b).2.1 := by decide +kernel
theorem tyJxf0a74_ok : ∀ k, k < 0 → parseFieldDescriptor (TJxf0a74 k).2.2.1 = some (tyJxf0a74 k) := by decide +kernel
def RJxa66e6 : String := "java/util/SequencedCollection"
def TJxa66e6 : u_T := fun k => match k with
  | _ => ("", "", "", false)
def tyJxa66e6 : Nat → FieldType := fun k => match k with
  | _ => .int
theorem nmJxa66e6 : ∀ a, a < 0 → ∀ b, b < 0 → a ≠ b → (TJxa66e6 a).2.1 ≠ (TJxa66e6 b).2.1 := by decide +kernel
theorem tyJxa66e6_ok : ∀ k, k < 0 → parseFieldDescriptor (TJxa66e6 k).2.2.1 = some (tyJxa66e6 k) := by decide +kernel
def RJ8 : String := "jdk/internal/util/ArraysSupport"
def TJ8 : u_T := fun k => match k with
  | _ => ("", "", "", false)
def tyJ8 : Nat → FieldType := fun k => match k with
  | _ => .int
theorem nmJ8 : ∀ a, a < 0 → ∀ b, b < 0 → a ≠ b → (TJ8 a).2.1 ≠ (TJ8 b).2.1 := by decide +kernel
theorem tyJ8_ok : ∀ k, k < 0 → parseFieldDescriptor (TJ8 k).2.2.1 = some (tyJ8 k) := by decide +kernel
abbrev cJ8_newLength_cabcc : ByteArray := prog_33_method_27_code
def yJ8_newLength_cabcc : MethodName := ⟨RJ8, "newLength", "(III)I"⟩
abbrev cJ8_hugeLength_7cf53 : ByteArray := prog_33_method_28_code
def yJ8_hugeLength_7cf53 : MethodName := ⟨RJ8, "hugeLength", "(II)I"⟩
def RJ3 : String := "jdk/internal/util/Preconditions"
def TJ3 : u_T := fun k => match k with
  | _ => ("", "", "", false)
def tyJ3 : Nat → FieldType := fun k => match k with
  | _ => .int
theorem nmJ3 : ∀ a, a < 0 → ∀ b, b < 0 → a ≠ b → (TJ3 a).2.1 ≠ (TJ3 b).2.1 := by decide +kernel
theorem tyJ3_ok : ∀ k, k < 0 → parseFieldDescriptor (TJ3 k).2.2.1 = some (tyJ3 k) := by decide +kernel
abbrev cJ3_checkIndex_8e157 : ByteArray := prog_34_method_11_code
def yJ3_checkIndex_8e157 : MethodName := ⟨RJ3, "checkIndex", "(IILjava/util/function/BiFunction;)I"⟩
def RL : String := "TrenchboardLaw"
abbrev cL_dice : ByteArray := method_2_code
def yL_dice : MethodName := ⟨RL, "dice", "([II)I"⟩
abbrev cL_act : ByteArray := method_3_code
def yL_act : MethodName := ⟨RL, "act", "(LTrenchboard;IIIIII)I"⟩
abbrev cL_asks : ByteArray := method_4_code
def yL_asks : MethodName := ⟨RL, "asks", "(LTrenchboard;IIIIIII)I"⟩
abbrev cL_all : ByteArray := method_5_code
def yL_all : MethodName := ⟨RL, "all", "(LTrenchboard;[I[I)J"⟩
abbrev cL_no : ByteArray := method_6_code
def yL_no : MethodName := ⟨RL, "no", "(LTrenchboard;IIII)Z"⟩
abbrev cL_off : ByteArray := method_7_code
def yL_off : MethodName := ⟨RL, "off", "(LTrenchboard;IIIIII)Z"⟩
abbrev cL_isRefused : ByteArray := method_8_code
def yL_isRefused : MethodName := ⟨RL, "isRefused", "(LTrenchboard;[I[I[II)Z"⟩
abbrev cL_areSound : ByteArray := method_9_code
def yL_areSound : MethodName := ⟨RL, "areSound", "(LTrenchboard;[I[I[II)Z"⟩
abbrev cL_isLaid : ByteArray := method_10_code
def yL_isLaid : MethodName := ⟨RL, "isLaid", "(LTrenchboard;[I[III)Z"⟩
abbrev cL_isAsked : ByteArray := method_11_code
def yL_isAsked : MethodName := ⟨RL, "isAsked", "(LTrenchboard;[I[I[II)Z"⟩
abbrev cL_isDone : ByteArray := method_12_code
def yL_isDone : MethodName := ⟨RL, "isDone", "(LTrenchboard;[I[III)Z"⟩
abbrev cL_isPassed : ByteArray := method_13_code
def yL_isPassed : MethodName := ⟨RL, "isPassed", "(LTrenchboard;[I[II)Z"⟩
abbrev cL_law : ByteArray := code
def yL_law : MethodName := ⟨RL, "law", "([I)Z"⟩
abbrev vwCl : List vw_C := [(RJx4a65c, TJx4a65c, 3), (RX0, TX0, 6), (RX1, TX1, 2), (RX2, TX2, 4), (RX3, TX3, 4), (RX4, TX4, 12), (RX5, TX5, 4), (RX6, TX6, 8), (RX7, TX7, 18), (RX8, TX8, 10)]
